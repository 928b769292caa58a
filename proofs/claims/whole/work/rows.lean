section
-- ===== PART A: goes FIRST, ahead of the names: the tables' words, and 'selects' of the private methods out of them =====
/-- a private method of a class that the tables say can be made, by its rows of tables_1 -/
def lw_okq (q : MethodName × Nat) : Prop := (q.1.cls ≠ "java/lang/invoke/MethodHandle" ∧ q.1.cls ≠ "java/lang/invoke/VarHandle") ∧ Cond.instantiable q.1.cls q.2 ∈ tables_1 ∧ Cond.privateMethod q.1 ∈ tables_1 ∧ Cond.instanceMethod q.1 ∈ tables_1
theorem lw_p0 : lw_okq (⟨"InkNights", "found", "(I)I"⟩, 7) := ⟨⟨by decide +kernel, by decide +kernel⟩, List.mem_of_getElem? (i := 18) (by decide +kernel), List.mem_of_getElem? (i := 190) (by decide +kernel), List.mem_of_getElem? (i := 191) (by decide +kernel)⟩
theorem lw_p1 : lw_okq (⟨"InkNights$Scriptorium", "darkTogether", "(I)I"⟩, 9) := ⟨⟨by decide +kernel, by decide +kernel⟩, List.mem_of_getElem? (i := 26) (by decide +kernel), List.mem_of_getElem? (i := 341) (by decide +kernel), List.mem_of_getElem? (i := 342) (by decide +kernel)⟩
theorem lw_p2 : lw_okq (⟨"InkNights$Scriptorium", "inkWith", "(I)I"⟩, 9) := ⟨⟨by decide +kernel, by decide +kernel⟩, List.mem_of_getElem? (i := 26) (by decide +kernel), List.mem_of_getElem? (i := 345) (by decide +kernel), List.mem_of_getElem? (i := 346) (by decide +kernel)⟩
theorem lw_p3 : lw_okq (⟨"InkNights", "orNone", "(I)I"⟩, 7) := ⟨⟨by decide +kernel, by decide +kernel⟩, List.mem_of_getElem? (i := 18) (by decide +kernel), List.mem_of_getElem? (i := 380) (by decide +kernel), List.mem_of_getElem? (i := 381) (by decide +kernel)⟩
theorem lw_p4 : lw_okq (⟨"InkNights$Scriptorium", "measureSun", "(I)I"⟩, 9) := ⟨⟨by decide +kernel, by decide +kernel⟩, List.mem_of_getElem? (i := 26) (by decide +kernel), List.mem_of_getElem? (i := 408) (by decide +kernel), List.mem_of_getElem? (i := 409) (by decide +kernel)⟩
theorem lw_p5 : lw_okq (⟨"InkNights$Scriptorium", "takenBySun", "(I)I"⟩, 9) := ⟨⟨by decide +kernel, by decide +kernel⟩, List.mem_of_getElem? (i := 26) (by decide +kernel), List.mem_of_getElem? (i := 461) (by decide +kernel), List.mem_of_getElem? (i := 462) (by decide +kernel)⟩
theorem lw_p6 : lw_okq (⟨"InkNights$Tape", "passLetters", "()V"⟩, 6) := ⟨⟨by decide +kernel, by decide +kernel⟩, List.mem_of_getElem? (i := 105) (by decide +kernel), List.mem_of_getElem? (i := 506) (by decide +kernel), List.mem_of_getElem? (i := 507) (by decide +kernel)⟩
theorem lw_p7 : lw_okq (⟨"InkNights$Tape", "passDigits", "()V"⟩, 6) := ⟨⟨by decide +kernel, by decide +kernel⟩, List.mem_of_getElem? (i := 105) (by decide +kernel), List.mem_of_getElem? (i := 513) (by decide +kernel), List.mem_of_getElem? (i := 514) (by decide +kernel)⟩
theorem lw_p8 : lw_okq (⟨"InkNightsModel", "becomes", "(II)I"⟩, 19) := ⟨⟨by decide +kernel, by decide +kernel⟩, List.mem_of_getElem? (i := 699) (by decide +kernel), List.mem_of_getElem? (i := 773) (by decide +kernel), List.mem_of_getElem? (i := 774) (by decide +kernel)⟩
theorem lw_p9 : lw_okq (⟨"InkNightsModel", "finds", "(I)I"⟩, 19) := ⟨⟨by decide +kernel, by decide +kernel⟩, List.mem_of_getElem? (i := 699) (by decide +kernel), List.mem_of_getElem? (i := 778) (by decide +kernel), List.mem_of_getElem? (i := 779) (by decide +kernel)⟩
theorem lw_p10 : lw_okq (⟨"InkNightsModel", "darkNow", "()I"⟩, 19) := ⟨⟨by decide +kernel, by decide +kernel⟩, List.mem_of_getElem? (i := 699) (by decide +kernel), List.mem_of_getElem? (i := 790) (by decide +kernel), List.mem_of_getElem? (i := 791) (by decide +kernel)⟩
theorem lw_p11 : lw_okq (⟨"InkNightsModel", "notWhite", "()I"⟩, 19) := ⟨⟨by decide +kernel, by decide +kernel⟩, List.mem_of_getElem? (i := 699) (by decide +kernel), List.mem_of_getElem? (i := 794) (by decide +kernel), List.mem_of_getElem? (i := 795) (by decide +kernel)⟩
theorem lw_p12 : lw_okq (⟨"InkNightsModel", "its", "(II)I"⟩, 19) := ⟨⟨by decide +kernel, by decide +kernel⟩, List.mem_of_getElem? (i := 699) (by decide +kernel), List.mem_of_getElem? (i := 798) (by decide +kernel), List.mem_of_getElem? (i := 799) (by decide +kernel)⟩
theorem lw_p13 : lw_okq (⟨"InkNightsModel", "allBelieved", "()I"⟩, 19) := ⟨⟨by decide +kernel, by decide +kernel⟩, List.mem_of_getElem? (i := 699) (by decide +kernel), List.mem_of_getElem? (i := 802) (by decide +kernel), List.mem_of_getElem? (i := 803) (by decide +kernel)⟩
theorem lw_p14 : lw_okq (⟨"InkNightsModel", "believed", "(I)I"⟩, 19) := ⟨⟨by decide +kernel, by decide +kernel⟩, List.mem_of_getElem? (i := 699) (by decide +kernel), List.mem_of_getElem? (i := 806) (by decide +kernel), List.mem_of_getElem? (i := 807) (by decide +kernel)⟩
theorem lw_p15 : lw_okq (⟨"InkNightsModel", "adds", "(III)V"⟩, 19) := ⟨⟨by decide +kernel, by decide +kernel⟩, List.mem_of_getElem? (i := 699) (by decide +kernel), List.mem_of_getElem? (i := 822) (by decide +kernel), List.mem_of_getElem? (i := 823) (by decide +kernel)⟩
def lw_privs_1 : List (MethodName × Nat) := [(⟨"InkNights", "found", "(I)I"⟩, 7), (⟨"InkNights$Scriptorium", "darkTogether", "(I)I"⟩, 9), (⟨"InkNights$Scriptorium", "inkWith", "(I)I"⟩, 9), (⟨"InkNights", "orNone", "(I)I"⟩, 7), (⟨"InkNights$Scriptorium", "measureSun", "(I)I"⟩, 9), (⟨"InkNights$Scriptorium", "takenBySun", "(I)I"⟩, 9), (⟨"InkNights$Tape", "passLetters", "()V"⟩, 6), (⟨"InkNights$Tape", "passDigits", "()V"⟩, 6), (⟨"InkNightsModel", "becomes", "(II)I"⟩, 19), (⟨"InkNightsModel", "finds", "(I)I"⟩, 19), (⟨"InkNightsModel", "darkNow", "()I"⟩, 19), (⟨"InkNightsModel", "notWhite", "()I"⟩, 19), (⟨"InkNightsModel", "its", "(II)I"⟩, 19), (⟨"InkNightsModel", "allBelieved", "()I"⟩, 19), (⟨"InkNightsModel", "believed", "(I)I"⟩, 19), (⟨"InkNightsModel", "adds", "(III)V"⟩, 19)]
theorem lw_r1 : ∀ q ∈ lw_privs_1, lw_okq q := List.forall_mem_cons.mpr ⟨lw_p0, List.forall_mem_cons.mpr ⟨lw_p1, List.forall_mem_cons.mpr ⟨lw_p2, List.forall_mem_cons.mpr ⟨lw_p3, List.forall_mem_cons.mpr ⟨lw_p4, List.forall_mem_cons.mpr ⟨lw_p5, List.forall_mem_cons.mpr ⟨lw_p6, List.forall_mem_cons.mpr ⟨lw_p7, List.forall_mem_cons.mpr ⟨lw_p8, List.forall_mem_cons.mpr ⟨lw_p9, List.forall_mem_cons.mpr ⟨lw_p10, List.forall_mem_cons.mpr ⟨lw_p11, List.forall_mem_cons.mpr ⟨lw_p12, List.forall_mem_cons.mpr ⟨lw_p13, List.forall_mem_cons.mpr ⟨lw_p14, List.forall_mem_cons.mpr ⟨lw_p15, fun _ h => absurd h List.not_mem_nil⟩⟩⟩⟩⟩⟩⟩⟩⟩⟩⟩⟩⟩⟩⟩⟩
theorem lw_p16 : lw_okq (⟨"InkNightsModel", "puts", "(III)V"⟩, 19) := ⟨⟨by decide +kernel, by decide +kernel⟩, List.mem_of_getElem? (i := 699) (by decide +kernel), List.mem_of_getElem? (i := 826) (by decide +kernel), List.mem_of_getElem? (i := 827) (by decide +kernel)⟩
theorem lw_p17 : lw_okq (⟨"InkNightsModel", "isOne", "(I)Z"⟩, 19) := ⟨⟨by decide +kernel, by decide +kernel⟩, List.mem_of_getElem? (i := 699) (by decide +kernel), List.mem_of_getElem? (i := 840) (by decide +kernel), List.mem_of_getElem? (i := 841) (by decide +kernel)⟩
theorem lw_p18 : lw_okq (⟨"InkNightsModel", "fades", "(I)I"⟩, 19) := ⟨⟨by decide +kernel, by decide +kernel⟩, List.mem_of_getElem? (i := 699) (by decide +kernel), List.mem_of_getElem? (i := 844) (by decide +kernel), List.mem_of_getElem? (i := 845) (by decide +kernel)⟩
theorem lw_p19 : lw_okq (⟨"InkNightsModel", "passes", "(I)V"⟩, 19) := ⟨⟨by decide +kernel, by decide +kernel⟩, List.mem_of_getElem? (i := 699) (by decide +kernel), List.mem_of_getElem? (i := 876) (by decide +kernel), List.mem_of_getElem? (i := 877) (by decide +kernel)⟩
theorem lw_p20 : lw_okq (⟨"InkNightsModel", "oneNight", "()V"⟩, 19) := ⟨⟨by decide +kernel, by decide +kernel⟩, List.mem_of_getElem? (i := 699) (by decide +kernel), List.mem_of_getElem? (i := 880) (by decide +kernel), List.mem_of_getElem? (i := 881) (by decide +kernel)⟩
theorem lw_p21 : lw_okq (⟨"InkNightsModel", "moveAll", "(Z[I)V"⟩, 19) := ⟨⟨by decide +kernel, by decide +kernel⟩, List.mem_of_getElem? (i := 699) (by decide +kernel), List.mem_of_getElem? (i := 888) (by decide +kernel), List.mem_of_getElem? (i := 889) (by decide +kernel)⟩
theorem lw_p22 : lw_okq (⟨"InkNightsModel", "behind", "(III)I"⟩, 19) := ⟨⟨by decide +kernel, by decide +kernel⟩, List.mem_of_getElem? (i := 699) (by decide +kernel), List.mem_of_getElem? (i := 892) (by decide +kernel), List.mem_of_getElem? (i := 893) (by decide +kernel)⟩
theorem lw_p23 : lw_okq (⟨"InkNightsModel", "wordsOf", "(I)I"⟩, 19) := ⟨⟨by decide +kernel, by decide +kernel⟩, List.mem_of_getElem? (i := 699) (by decide +kernel), List.mem_of_getElem? (i := 937) (by decide +kernel), List.mem_of_getElem? (i := 938) (by decide +kernel)⟩
theorem lw_p24 : lw_okq (⟨"InkNightsModel", "advance", "()V"⟩, 19) := ⟨⟨by decide +kernel, by decide +kernel⟩, List.mem_of_getElem? (i := 699) (by decide +kernel), List.mem_of_getElem? (i := 960) (by decide +kernel), List.mem_of_getElem? (i := 961) (by decide +kernel)⟩
theorem lw_p25 : lw_okq (⟨"InkNightsModel", "byteAt", "(I)I"⟩, 19) := ⟨⟨by decide +kernel, by decide +kernel⟩, List.mem_of_getElem? (i := 699) (by decide +kernel), List.mem_of_getElem? (i := 964) (by decide +kernel), List.mem_of_getElem? (i := 965) (by decide +kernel)⟩
theorem lw_p26 : lw_okq (⟨"InkNightsModel", "wantItem", "()V"⟩, 19) := ⟨⟨by decide +kernel, by decide +kernel⟩, List.mem_of_getElem? (i := 699) (by decide +kernel), List.mem_of_getElem? (i := 977) (by decide +kernel), List.mem_of_getElem? (i := 978) (by decide +kernel)⟩
theorem lw_p27 : lw_okq (⟨"InkNightsModel", "kindHere", "()I"⟩, 19) := ⟨⟨by decide +kernel, by decide +kernel⟩, List.mem_of_getElem? (i := 699) (by decide +kernel), List.mem_of_getElem? (i := 981) (by decide +kernel), List.mem_of_getElem? (i := 982) (by decide +kernel)⟩
theorem lw_p28 : lw_okq (⟨"InkNightsModel", "isWord", "(J)Z"⟩, 19) := ⟨⟨by decide +kernel, by decide +kernel⟩, List.mem_of_getElem? (i := 699) (by decide +kernel), List.mem_of_getElem? (i := 986) (by decide +kernel), List.mem_of_getElem? (i := 987) (by decide +kernel)⟩
theorem lw_p29 : lw_okq (⟨"InkNightsModel", "wantOne", "(I)V"⟩, 19) := ⟨⟨by decide +kernel, by decide +kernel⟩, List.mem_of_getElem? (i := 699) (by decide +kernel), List.mem_of_getElem? (i := 995) (by decide +kernel), List.mem_of_getElem? (i := 996) (by decide +kernel)⟩
theorem lw_p30 : lw_okq (⟨"InkNightsModel", "wantNumber", "(II)I"⟩, 19) := ⟨⟨by decide +kernel, by decide +kernel⟩, List.mem_of_getElem? (i := 699) (by decide +kernel), List.mem_of_getElem? (i := 999) (by decide +kernel), List.mem_of_getElem? (i := 1000) (by decide +kernel)⟩
theorem lw_p31 : lw_okq (⟨"InkNightsModel", "wantJar", "(II)V"⟩, 19) := ⟨⟨by decide +kernel, by decide +kernel⟩, List.mem_of_getElem? (i := 699) (by decide +kernel), List.mem_of_getElem? (i := 1005) (by decide +kernel), List.mem_of_getElem? (i := 1006) (by decide +kernel)⟩
def lw_privs_2 : List (MethodName × Nat) := [(⟨"InkNightsModel", "puts", "(III)V"⟩, 19), (⟨"InkNightsModel", "isOne", "(I)Z"⟩, 19), (⟨"InkNightsModel", "fades", "(I)I"⟩, 19), (⟨"InkNightsModel", "passes", "(I)V"⟩, 19), (⟨"InkNightsModel", "oneNight", "()V"⟩, 19), (⟨"InkNightsModel", "moveAll", "(Z[I)V"⟩, 19), (⟨"InkNightsModel", "behind", "(III)I"⟩, 19), (⟨"InkNightsModel", "wordsOf", "(I)I"⟩, 19), (⟨"InkNightsModel", "advance", "()V"⟩, 19), (⟨"InkNightsModel", "byteAt", "(I)I"⟩, 19), (⟨"InkNightsModel", "wantItem", "()V"⟩, 19), (⟨"InkNightsModel", "kindHere", "()I"⟩, 19), (⟨"InkNightsModel", "isWord", "(J)Z"⟩, 19), (⟨"InkNightsModel", "wantOne", "(I)V"⟩, 19), (⟨"InkNightsModel", "wantNumber", "(II)I"⟩, 19), (⟨"InkNightsModel", "wantJar", "(II)V"⟩, 19)]
theorem lw_r2 : ∀ q ∈ lw_privs_2, lw_okq q := List.forall_mem_cons.mpr ⟨lw_p16, List.forall_mem_cons.mpr ⟨lw_p17, List.forall_mem_cons.mpr ⟨lw_p18, List.forall_mem_cons.mpr ⟨lw_p19, List.forall_mem_cons.mpr ⟨lw_p20, List.forall_mem_cons.mpr ⟨lw_p21, List.forall_mem_cons.mpr ⟨lw_p22, List.forall_mem_cons.mpr ⟨lw_p23, List.forall_mem_cons.mpr ⟨lw_p24, List.forall_mem_cons.mpr ⟨lw_p25, List.forall_mem_cons.mpr ⟨lw_p26, List.forall_mem_cons.mpr ⟨lw_p27, List.forall_mem_cons.mpr ⟨lw_p28, List.forall_mem_cons.mpr ⟨lw_p29, List.forall_mem_cons.mpr ⟨lw_p30, List.forall_mem_cons.mpr ⟨lw_p31, fun _ h => absurd h List.not_mem_nil⟩⟩⟩⟩⟩⟩⟩⟩⟩⟩⟩⟩⟩⟩⟩⟩
theorem lw_p32 : lw_okq (⟨"InkNightsModel", "isPart", "(III)Z"⟩, 19) := ⟨⟨by decide +kernel, by decide +kernel⟩, List.mem_of_getElem? (i := 699) (by decide +kernel), List.mem_of_getElem? (i := 1032) (by decide +kernel), List.mem_of_getElem? (i := 1033) (by decide +kernel)⟩
theorem lw_p33 : lw_okq (⟨"InkNightsModel", "badSheet", "(I)I"⟩, 19) := ⟨⟨by decide +kernel, by decide +kernel⟩, List.mem_of_getElem? (i := 699) (by decide +kernel), List.mem_of_getElem? (i := 1040) (by decide +kernel), List.mem_of_getElem? (i := 1041) (by decide +kernel)⟩
theorem lw_p34 : lw_okq (⟨"InkNightsModel", "isSo", "(II)Z"⟩, 19) := ⟨⟨by decide +kernel, by decide +kernel⟩, List.mem_of_getElem? (i := 699) (by decide +kernel), List.mem_of_getElem? (i := 1053) (by decide +kernel), List.mem_of_getElem? (i := 1054) (by decide +kernel)⟩
theorem lw_p35 : lw_okq (⟨"InkNightsModel", "sumOf", "(I)I"⟩, 19) := ⟨⟨by decide +kernel, by decide +kernel⟩, List.mem_of_getElem? (i := 699) (by decide +kernel), List.mem_of_getElem? (i := 1073) (by decide +kernel), List.mem_of_getElem? (i := 1074) (by decide +kernel)⟩
def lw_privs_3 : List (MethodName × Nat) := [(⟨"InkNightsModel", "isPart", "(III)Z"⟩, 19), (⟨"InkNightsModel", "badSheet", "(I)I"⟩, 19), (⟨"InkNightsModel", "isSo", "(II)Z"⟩, 19), (⟨"InkNightsModel", "sumOf", "(I)I"⟩, 19)]
theorem lw_r3 : ∀ q ∈ lw_privs_3, lw_okq q := List.forall_mem_cons.mpr ⟨lw_p32, List.forall_mem_cons.mpr ⟨lw_p33, List.forall_mem_cons.mpr ⟨lw_p34, List.forall_mem_cons.mpr ⟨lw_p35, fun _ h => absurd h List.not_mem_nil⟩⟩⟩⟩
def lw_privs : List (MethodName × Nat) := lw_privs_1 ++ (lw_privs_2 ++ (lw_privs_3))
def lw_tbl : List Cond := k2_sels lw_privs ++ tables_1
theorem lw_privs_ok : ∀ q ∈ lw_privs, lw_okq q := by
  show ∀ q ∈ lw_privs_1 ++ (lw_privs_2 ++ (lw_privs_3)), lw_okq q
  exact List.forall_mem_append.mpr ⟨lw_r1, List.forall_mem_append.mpr ⟨lw_r2, lw_r3⟩⟩
end
section
def RX0 : String := "InkNights$Kinds"
def TX0 : u_T := fun k => match k with
  | _ => ("", "", "", false)
def tyX0 : Nat → FieldType := fun k => match k with
  | _ => .int
theorem nmX0 : ∀ a, a < 0 → ∀ b, b < 0 → a ≠ b → (TX0 a).2.1 ≠ (TX0 b).2.1 := by decide +kernel
theorem tyX0_ok : ∀ k, k < 0 → parseFieldDescriptor (TX0 k).2.2.1 = some (tyX0 k) := by decide +kernel
abbrev cX0_isKind : ByteArray := prog_2_method_2_code
def yX0_isKind : MethodName := ⟨RX0, "isKind", "(I)Z"⟩
abbrev cX0_nameOf : ByteArray := prog_2_method_3_code
def yX0_nameOf : MethodName := ⟨RX0, "nameOf", "(I)Ljava/lang/String;"⟩
abbrev cX0_isOneOf : ByteArray := prog_2_method_4_code
def yX0_isOneOf : MethodName := ⟨RX0, "isOneOf", "(II)Z"⟩
abbrev cX0_costs : ByteArray := prog_2_method_5_code
def yX0_costs : MethodName := ⟨RX0, "costs", "(II)I"⟩
abbrev cX0_takes : ByteArray := prog_2_method_6_code
def yX0_takes : MethodName := ⟨RX0, "takes", "(II)I"⟩
abbrev cX0_fades : ByteArray := prog_2_method_7_code
def yX0_fades : MethodName := ⟨RX0, "fades", "(III)I"⟩
abbrev cX0_believed : ByteArray := prog_2_method_8_code
def yX0_believed : MethodName := ⟨RX0, "believed", "(IIII)I"⟩
def RX1 : String := "InkNights$Page"
def TX1 : u_T := fun k => match k with
  | 0 => ("InkNights$Page", "kind", "I", false)
  | 1 => ("InkNights$Page", "words", "I", false)
  | 2 => ("InkNights$Page", "black", "I", false)
  | 3 => ("InkNights$Page", "sun", "I", false)
  | _ => ("InkNights$Page", "read", "I", false)
def tyX1 : Nat → FieldType := fun k => match k with
  | 0 => .int
  | 1 => .int
  | 2 => .int
  | 3 => .int
  | _ => .int
theorem nmX1 : ∀ a, a < 5 → ∀ b, b < 5 → a ≠ b → (TX1 a).2.1 ≠ (TX1 b).2.1 := by decide +kernel
theorem tyX1_ok : ∀ k, k < 5 → parseFieldDescriptor (TX1 k).2.2.1 = some (tyX1 k) := by decide +kernel
abbrev cX1_init : ByteArray := prog_3_method_1_code
def yX1_init : MethodName := ⟨RX1, "<init>", "()V"⟩
abbrev cX1_become : ByteArray := prog_3_method_2_code
def yX1_become : MethodName := ⟨RX1, "become", "(LInkNights$Page;)V"⟩
abbrev cX1_least : ByteArray := prog_3_method_3_code
def yX1_least : MethodName := ⟨RX1, "least", "(I)I"⟩
abbrev cX1_most : ByteArray := prog_3_method_4_code
def yX1_most : MethodName := ⟨RX1, "most", "(I)I"⟩
abbrev cX1_has : ByteArray := prog_3_method_5_code
def yX1_has : MethodName := ⟨RX1, "has", "(I)I"⟩
abbrev cX1_put : ByteArray := prog_3_method_6_code
def yX1_put : MethodName := ⟨RX1, "put", "(II)V"⟩
abbrev cX1_blackOn : ByteArray := prog_3_method_7_code
def yX1_blackOn : MethodName := ⟨RX1, "blackOn", "(I)I"⟩
abbrev cX1_believedOn : ByteArray := prog_3_method_8_code
def yX1_believedOn : MethodName := ⟨RX1, "believedOn", "(II)I"⟩
abbrev cX1_believedAs : ByteArray := prog_3_method_9_code
def yX1_believedAs : MethodName := ⟨RX1, "believedAs", "(IIII)I"⟩
abbrev cX1_firstWhite : ByteArray := prog_3_method_10_code
def yX1_firstWhite : MethodName := ⟨RX1, "firstWhite", "(I)I"⟩
abbrev cX1_mostBelievedKind : ByteArray := prog_3_method_11_code
def yX1_mostBelievedKind : MethodName := ⟨RX1, "mostBelievedKind", "(II)I"⟩
abbrev cX1_waysToFadeAs : ByteArray := prog_3_method_12_code
def yX1_waysToFadeAs : MethodName := ⟨RX1, "waysToFadeAs", "(LInkNights$Sheet;)I"⟩
abbrev cX1_tells : ByteArray := prog_3_method_13_code
def yX1_tells : MethodName := ⟨RX1, "tells", "(LInkNights$Sheet;II)Z"⟩
abbrev cX1_faded : ByteArray := prog_3_method_14_code
def yX1_faded : MethodName := ⟨RX1, "faded", "(III)I"⟩
def RX2 : String := "InkNights$Scriptorium"
def TX2 : u_T := fun k => match k with
  | 0 => ("InkNights$Scriptorium", "night", "I", false)
  | 1 => ("InkNights$Scriptorium", "brothers", "I", false)
  | 2 => ("InkNights$Scriptorium", "buckets", "I", false)
  | 3 => ("InkNights$Scriptorium", "ink", "I", false)
  | 4 => ("InkNights$Scriptorium", "lamp", "I", false)
  | 5 => ("InkNights$Scriptorium", "pageCount", "I", false)
  | 6 => ("InkNights$Scriptorium", "dark", "[I", true)
  | 7 => ("InkNights$Scriptorium", "pages", "[LInkNights$Page;", true)
  | _ => ("InkNights$Scriptorium", "sunTakes", "[I", true)
def tyX2 : Nat → FieldType := fun k => match k with
  | 0 => .int
  | 1 => .int
  | 2 => .int
  | 3 => .int
  | 4 => .int
  | 5 => .int
  | 6 => .array .int
  | 7 => .array (.object "InkNights$Page")
  | _ => .array .int
theorem nmX2 : ∀ a, a < 9 → ∀ b, b < 9 → a ≠ b → (TX2 a).2.1 ≠ (TX2 b).2.1 := by decide +kernel
theorem tyX2_ok : ∀ k, k < 9 → parseFieldDescriptor (TX2 k).2.2.1 = some (tyX2 k) := by decide +kernel
abbrev cX2_init : ByteArray := prog_4_method_1_code
def yX2_init : MethodName := ⟨RX2, "<init>", "()V"⟩
abbrev cX2_become : ByteArray := prog_4_method_2_code
def yX2_become : MethodName := ⟨RX2, "become", "(LInkNights$Scriptorium;)V"⟩
abbrev cX2_mostInJar : ByteArray := prog_4_method_3_code
def yX2_mostInJar : MethodName := ⟨RX2, "mostInJar", "(I)I"⟩
abbrev cX2_jarHolds : ByteArray := prog_4_method_4_code
def yX2_jarHolds : MethodName := ⟨RX2, "jarHolds", "(I)I"⟩
abbrev cX2_fillJar : ByteArray := prog_4_method_5_code
def yX2_fillJar : MethodName := ⟨RX2, "fillJar", "(II)V"⟩
abbrev cX2_hasPage : ByteArray := prog_4_method_6_code
def yX2_hasPage : MethodName := ⟨RX2, "hasPage", "(I)Z"⟩
abbrev cX2_isFull : ByteArray := prog_4_method_7_code
def yX2_isFull : MethodName := ⟨RX2, "isFull", "()Z"⟩
abbrev cX2_hasInkFor : ByteArray := prog_4_method_8_code
def yX2_hasInkFor : MethodName := ⟨RX2, "hasInkFor", "(II)Z"⟩
abbrev cX2_addPage : ByteArray := prog_4_method_9_code
def yX2_addPage : MethodName := ⟨RX2, "addPage", "(II)I"⟩
abbrev cX2_spendInkOn : ByteArray := prog_4_method_10_code
def yX2_spendInkOn : MethodName := ⟨RX2, "spendInkOn", "(LInkNights$Page;)V"⟩
abbrev cX2_darkOn : ByteArray := prog_4_method_11_code
def yX2_darkOn : MethodName := ⟨RX2, "darkOn", "(I)I"⟩
abbrev cX2_darkTogether : ByteArray := prog_4_method_12_code
def yX2_darkTogether : MethodName := ⟨RX2, "darkTogether", "(I)I"⟩
abbrev cX2_inkWith : ByteArray := prog_4_method_13_code
def yX2_inkWith : MethodName := ⟨RX2, "inkWith", "(I)I"⟩
abbrev cX2_inkOn : ByteArray := prog_4_method_14_code
def yX2_inkOn : MethodName := ⟨RX2, "inkOn", "(II)I"⟩
abbrev cX2_letGo : ByteArray := prog_4_method_15_code
def yX2_letGo : MethodName := ⟨RX2, "letGo", "(I)V"⟩
abbrev cX2_notWhite : ByteArray := prog_4_method_16_code
def yX2_notWhite : MethodName := ⟨RX2, "notWhite", "()I"⟩
abbrev cX2_believedTogether : ByteArray := prog_4_method_17_code
def yX2_believedTogether : MethodName := ⟨RX2, "believedTogether", "(II)I"⟩
abbrev cX2_pagesInSun : ByteArray := prog_4_method_18_code
def yX2_pagesInSun : MethodName := ⟨RX2, "pagesInSun", "()I"⟩
abbrev cX2_wordsTogether : ByteArray := prog_4_method_19_code
def yX2_wordsTogether : MethodName := ⟨RX2, "wordsTogether", "()I"⟩
abbrev cX2_firstWithInk : ByteArray := prog_4_method_20_code
def yX2_firstWithInk : MethodName := ⟨RX2, "firstWithInk", "(II)I"⟩
abbrev cX2_blackestNight : ByteArray := prog_4_method_21_code
def yX2_blackestNight : MethodName := ⟨RX2, "blackestNight", "(II)I"⟩
abbrev cX2_bestShaded : ByteArray := prog_4_method_22_code
def yX2_bestShaded : MethodName := ⟨RX2, "bestShaded", "(I)I"⟩
abbrev cX2_fewestBrothers : ByteArray := prog_4_method_23_code
def yX2_fewestBrothers : MethodName := ⟨RX2, "fewestBrothers", "(II)I"⟩
abbrev cX2_leastLamp : ByteArray := prog_4_method_24_code
def yX2_leastLamp : MethodName := ⟨RX2, "leastLamp", "(II)I"⟩
abbrev cX2_mostWords : ByteArray := prog_4_method_25_code
def yX2_mostWords : MethodName := ⟨RX2, "mostWords", "(I)I"⟩
abbrev cX2_mostInSun : ByteArray := prog_4_method_26_code
def yX2_mostInSun : MethodName := ⟨RX2, "mostInSun", "(II)I"⟩
abbrev cX2_measureSun : ByteArray := prog_4_method_27_code
def yX2_measureSun : MethodName := ⟨RX2, "measureSun", "(I)I"⟩
abbrev cX2_takenBySun : ByteArray := prog_4_method_28_code
def yX2_takenBySun : MethodName := ⟨RX2, "takenBySun", "(I)I"⟩
abbrev cX2_blacken : ByteArray := prog_4_method_29_code
def yX2_blacken : MethodName := ⟨RX2, "blacken", "(LInkNights$Sheet;)I"⟩
def RX3 : String := "InkNights$Sheet"
def TX3 : u_T := fun k => match k with
  | 0 => ("InkNights$Sheet", "bits", "I", false)
  | 1 => ("InkNights$Sheet", "length", "I", false)
  | _ => ("InkNights$Sheet", "numbers", "[J", true)
def tyX3 : Nat → FieldType := fun k => match k with
  | 0 => .int
  | 1 => .int
  | _ => .array .long
theorem nmX3 : ∀ a, a < 3 → ∀ b, b < 3 → a ≠ b → (TX3 a).2.1 ≠ (TX3 b).2.1 := by decide +kernel
theorem tyX3_ok : ∀ k, k < 3 → parseFieldDescriptor (TX3 k).2.2.1 = some (tyX3 k) := by decide +kernel
abbrev cX3_init : ByteArray := prog_5_method_1_code
def yX3_init : MethodName := ⟨RX3, "<init>", "()V"⟩
abbrev cX3_mayHaveBits : ByteArray := prog_5_method_2_code
def yX3_mayHaveBits : MethodName := ⟨RX3, "mayHaveBits", "(I)Z"⟩
abbrev cX3_isMissing : ByteArray := prog_5_method_3_code
def yX3_isMissing : MethodName := ⟨RX3, "isMissing", "()Z"⟩
abbrev cX3_layOut : ByteArray := prog_5_method_4_code
def yX3_layOut : MethodName := ⟨RX3, "layOut", "(II)V"⟩
abbrev cX3_lowestBits : ByteArray := prog_5_method_5_code
def yX3_lowestBits : MethodName := ⟨RX3, "lowestBits", "(J)J"⟩
abbrev cX3_hasRow : ByteArray := prog_5_method_6_code
def yX3_hasRow : MethodName := ⟨RX3, "hasRow", "(II)Z"⟩
def RX4 : String := "InkNights$Tape"
def TX4 : u_T := fun k => match k with
  | 0 => ("InkNights$Tape", "length", "I", false)
  | 1 => ("InkNights$Tape", "token", "I", false)
  | 2 => ("InkNights$Tape", "start", "I", false)
  | 3 => ("InkNights$Tape", "next", "I", false)
  | 4 => ("InkNights$Tape", "value", "I", false)
  | _ => ("InkNights$Tape", "bytes", "[I", true)
def tyX4 : Nat → FieldType := fun k => match k with
  | 0 => .int
  | 1 => .int
  | 2 => .int
  | 3 => .int
  | 4 => .int
  | _ => .array .int
theorem nmX4 : ∀ a, a < 6 → ∀ b, b < 6 → a ≠ b → (TX4 a).2.1 ≠ (TX4 b).2.1 := by decide +kernel
theorem tyX4_ok : ∀ k, k < 6 → parseFieldDescriptor (TX4 k).2.2.1 = some (tyX4 k) := by decide +kernel
abbrev cX4_init : ByteArray := prog_6_method_1_code
def yX4_init : MethodName := ⟨RX4, "<init>", "()V"⟩
abbrev cX4_addByte : ByteArray := prog_6_method_2_code
def yX4_addByte : MethodName := ⟨RX4, "addByte", "(I)V"⟩
abbrev cX4_toFirstToken : ByteArray := prog_6_method_3_code
def yX4_toFirstToken : MethodName := ⟨RX4, "toFirstToken", "()V"⟩
abbrev cX4_toNextToken : ByteArray := prog_6_method_4_code
def yX4_toNextToken : MethodName := ⟨RX4, "toNextToken", "()V"⟩
abbrev cX4_passLetters : ByteArray := prog_6_method_5_code
def yX4_passLetters : MethodName := ⟨RX4, "passLetters", "()V"⟩
abbrev cX4_passDigits : ByteArray := prog_6_method_6_code
def yX4_passDigits : MethodName := ⟨RX4, "passDigits", "()V"⟩
abbrev cX4_isWord : ByteArray := prog_6_method_7_code
def yX4_isWord : MethodName := ⟨RX4, "isWord", "(Ljava/lang/String;)Z"⟩
abbrev cX4_number : ByteArray := prog_6_method_8_code
def yX4_number : MethodName := ⟨RX4, "number", "(II)I"⟩
abbrev cX4_isLetter : ByteArray := prog_6_method_9_code
def yX4_isLetter : MethodName := ⟨RX4, "isLetter", "(I)Z"⟩
abbrev cX4_isDigit : ByteArray := prog_6_method_10_code
def yX4_isDigit : MethodName := ⟨RX4, "isDigit", "(I)Z"⟩
def RX5 : String := "InkNights$Telling"
def TX5 : u_T := fun k => match k with
  | _ => ("", "", "", false)
def tyX5 : Nat → FieldType := fun k => match k with
  | _ => .int
theorem nmX5 : ∀ a, a < 0 → ∀ b, b < 0 → a ≠ b → (TX5 a).2.1 ≠ (TX5 b).2.1 := by decide +kernel
theorem tyX5_ok : ∀ k, k < 0 → parseFieldDescriptor (TX5 k).2.2.1 = some (tyX5 k) := by decide +kernel
abbrev cX5_tell : ByteArray := prog_7_method_2_code
def yX5_tell : MethodName := ⟨RX5, "tell", "(LInkNights$Tape;LInkNights$Scriptorium;)I"⟩
abbrev cX5_tellItem : ByteArray := prog_7_method_3_code
def yX5_tellItem : MethodName := ⟨RX5, "tellItem", "(LInkNights$Tape;LInkNights$Scriptorium;)Z"⟩
abbrev cX5_tellPage : ByteArray := prog_7_method_4_code
def yX5_tellPage : MethodName := ⟨RX5, "tellPage", "(LInkNights$Tape;LInkNights$Scriptorium;I)Z"⟩
abbrev cX5_tellDark : ByteArray := prog_7_method_5_code
def yX5_tellDark : MethodName := ⟨RX5, "tellDark", "(LInkNights$Tape;LInkNights$Scriptorium;)Z"⟩
abbrev cX5_tellJar : ByteArray := prog_7_method_6_code
def yX5_tellJar : MethodName := ⟨RX5, "tellJar", "(LInkNights$Tape;LInkNights$Scriptorium;I)Z"⟩
def RX6 : String := "InkNights"
def TX6 : u_T := fun k => match k with
  | 0 => ("InkNights", "findings", "[I", true)
  | 1 => ("InkNights", "here", "LInkNights$Scriptorium;", true)
  | 2 => ("InkNights", "kept", "LInkNights$Scriptorium;", true)
  | 3 => ("InkNights", "draft", "LInkNights$Scriptorium;", true)
  | 4 => ("InkNights", "tape", "LInkNights$Tape;", true)
  | 5 => ("InkNights", "sheets", "[LInkNights$Sheet;", true)
  | _ => ("InkNights", "isKept", "Z", false)
def tyX6 : Nat → FieldType := fun k => match k with
  | 0 => .array .int
  | 1 => .object "InkNights$Scriptorium"
  | 2 => .object "InkNights$Scriptorium"
  | 3 => .object "InkNights$Scriptorium"
  | 4 => .object "InkNights$Tape"
  | 5 => .array (.object "InkNights$Sheet")
  | _ => .boolean
theorem nmX6 : ∀ a, a < 7 → ∀ b, b < 7 → a ≠ b → (TX6 a).2.1 ≠ (TX6 b).2.1 := by decide +kernel
theorem tyX6_ok : ∀ k, k < 7 → parseFieldDescriptor (TX6 k).2.2.1 = some (tyX6 k) := by decide +kernel
abbrev cX6_init : ByteArray := prog_1_method_1_code
def yX6_init : MethodName := ⟨RX6, "<init>", "()V"⟩
abbrev cX6_jar : ByteArray := prog_1_method_2_code
def yX6_jar : MethodName := ⟨RX6, "jar", "(II)I"⟩
abbrev cX6_dark : ByteArray := prog_1_method_3_code
def yX6_dark : MethodName := ⟨RX6, "dark", "(II)I"⟩
abbrev cX6_now : ByteArray := prog_1_method_4_code
def yX6_now : MethodName := ⟨RX6, "now", "(I)I"⟩
abbrev cX6_scribe : ByteArray := prog_1_method_5_code
def yX6_scribe : MethodName := ⟨RX6, "scribe", "(II)I"⟩
abbrev cX6_of : ByteArray := prog_1_method_6_code
def yX6_of : MethodName := ⟨RX6, "of", "(II)I"⟩
abbrev cX6_set : ByteArray := prog_1_method_7_code
def yX6_set : MethodName := ⟨RX6, "set", "(III)I"⟩
abbrev cX6_turn : ByteArray := prog_1_method_8_code
def yX6_turn : MethodName := ⟨RX6, "turn", "(II)I"⟩
abbrev cX6_as : ByteArray := prog_1_method_9_code
def yX6_as : MethodName := ⟨RX6, "as", "(II)I"⟩
abbrev cX6_looks : ByteArray := prog_1_method_10_code
def yX6_looks : MethodName := ⟨RX6, "looks", "(I)I"⟩
abbrev cX6_over : ByteArray := prog_1_method_11_code
def yX6_over : MethodName := ⟨RX6, "over", "(I)I"⟩
abbrev cX6_nights : ByteArray := prog_1_method_12_code
def yX6_nights : MethodName := ⟨RX6, "nights", "(I)I"⟩
abbrev cX6_ink : ByteArray := prog_1_method_13_code
def yX6_ink : MethodName := ⟨RX6, "ink", "(I)I"⟩
abbrev cX6_on : ByteArray := prog_1_method_14_code
def yX6_on : MethodName := ⟨RX6, "on", "(III)I"⟩
abbrev cX6_all : ByteArray := prog_1_method_15_code
def yX6_all : MethodName := ⟨RX6, "all", "(I)I"⟩
abbrev cX6_white : ByteArray := prog_1_method_16_code
def yX6_white : MethodName := ⟨RX6, "white", "(I)I"⟩
abbrev cX6_comes : ByteArray := prog_1_method_17_code
def yX6_comes : MethodName := ⟨RX6, "comes", "(I)I"⟩
abbrev cX6_when : ByteArray := prog_1_method_18_code
def yX6_when : MethodName := ⟨RX6, "when", "(II)I"⟩
abbrev cX6_shade : ByteArray := prog_1_method_19_code
def yX6_shade : MethodName := ⟨RX6, "shade", "(I)I"⟩
abbrev cX6_enough : ByteArray := prog_1_method_20_code
def yX6_enough : MethodName := ⟨RX6, "enough", "(II)I"⟩
abbrev cX6_kind : ByteArray := prog_1_method_21_code
def yX6_kind : MethodName := ⟨RX6, "kind", "(II)I"⟩
abbrev cX6_lamp : ByteArray := prog_1_method_22_code
def yX6_lamp : MethodName := ⟨RX6, "lamp", "(II)I"⟩
abbrev cX6_longest : ByteArray := prog_1_method_23_code
def yX6_longest : MethodName := ⟨RX6, "longest", "(I)I"⟩
abbrev cX6_sunny : ByteArray := prog_1_method_24_code
def yX6_sunny : MethodName := ⟨RX6, "sunny", "(II)I"⟩
abbrev cX6_feed : ByteArray := prog_1_method_25_code
def yX6_feed : MethodName := ⟨RX6, "feed", "(II)I"⟩
abbrev cX6_wipe : ByteArray := prog_1_method_26_code
def yX6_wipe : MethodName := ⟨RX6, "wipe", "()I"⟩
abbrev cX6_text : ByteArray := prog_1_method_27_code
def yX6_text : MethodName := ⟨RX6, "text", "()I"⟩
abbrev cX6_sheet : ByteArray := prog_1_method_28_code
def yX6_sheet : MethodName := ⟨RX6, "sheet", "(III)I"⟩
abbrev cX6_write : ByteArray := prog_1_method_29_code
def yX6_write : MethodName := ⟨RX6, "write", "(IIJ)J"⟩
abbrev cX6_copy : ByteArray := prog_1_method_30_code
def yX6_copy : MethodName := ⟨RX6, "copy", "(IIIII)I"⟩
abbrev cX6_lays : ByteArray := prog_1_method_31_code
def yX6_lays : MethodName := ⟨RX6, "lays", "(I)I"⟩
abbrev cX6_book : ByteArray := prog_1_method_32_code
def yX6_book : MethodName := ⟨RX6, "book", "(II)I"⟩
abbrev cX6_read : ByteArray := prog_1_method_33_code
def yX6_read : MethodName := ⟨RX6, "read", "(II)I"⟩
abbrev cX6_image : ByteArray := prog_1_method_34_code
def yX6_image : MethodName := ⟨RX6, "image", "()I"⟩
abbrev cX6_undo : ByteArray := prog_1_method_35_code
def yX6_undo : MethodName := ⟨RX6, "undo", "()I"⟩
abbrev cX6_tear : ByteArray := prog_1_method_36_code
def yX6_tear : MethodName := ⟨RX6, "tear", "()I"⟩
abbrev cX6_count : ByteArray := prog_1_method_37_code
def yX6_count : MethodName := ⟨RX6, "count", "(I)I"⟩
abbrev cX6_status : ByteArray := prog_1_method_38_code
def yX6_status : MethodName := ⟨RX6, "status", "(I)I"⟩
abbrev cX6_found : ByteArray := prog_1_method_39_code
def yX6_found : MethodName := ⟨RX6, "found", "(I)I"⟩
abbrev cX6_orNone : ByteArray := prog_1_method_40_code
def yX6_orNone : MethodName := ⟨RX6, "orNone", "(I)I"⟩
abbrev cX6_isSheet : ByteArray := prog_1_method_41_code
def yX6_isSheet : MethodName := ⟨RX6, "isSheet", "(I)Z"⟩
abbrev cX6_isWithin : ByteArray := prog_1_method_42_code
def yX6_isWithin : MethodName := ⟨RX6, "isWithin", "(III)Z"⟩
def RX7 : String := "InkNightsModel"
def TX7 : u_T := fun k => match k with
  | 0 => ("InkNightsModel", "row", "[I", true)
  | 1 => ("InkNightsModel", "found", "[I", true)
  | 2 => ("InkNightsModel", "tried", "[I", true)
  | 3 => ("InkNightsModel", "before1", "[I", true)
  | 4 => ("InkNightsModel", "tape", "[I", true)
  | 5 => ("InkNightsModel", "tapeMany", "I", false)
  | 6 => ("InkNightsModel", "sort", "I", false)
  | 7 => ("InkNightsModel", "begins", "I", false)
  | 8 => ("InkNightsModel", "tokenEnds", "I", false)
  | 9 => ("InkNightsModel", "word", "J", false)
  | 10 => ("InkNightsModel", "value", "I", false)
  | 11 => ("InkNightsModel", "good", "Z", false)
  | 12 => ("InkNightsModel", "bitsOf", "[I", true)
  | 13 => ("InkNightsModel", "sizeOf", "[I", true)
  | 14 => ("InkNightsModel", "sheets", "[J", true)
  | 15 => ("InkNightsModel", "lent", "[J", true)
  | 16 => ("InkNightsModel", "image", "[I", true)
  | 17 => ("InkNightsModel", "before", "[I", true)
  | _ => ("InkNightsModel", "isKept", "Z", false)
def tyX7 : Nat → FieldType := fun k => match k with
  | 0 => .array .int
  | 1 => .array .int
  | 2 => .array .int
  | 3 => .array .int
  | 4 => .array .int
  | 5 => .int
  | 6 => .int
  | 7 => .int
  | 8 => .int
  | 9 => .long
  | 10 => .int
  | 11 => .boolean
  | 12 => .array .int
  | 13 => .array .int
  | 14 => .array .long
  | 15 => .array .long
  | 16 => .array .int
  | 17 => .array .int
  | _ => .boolean
theorem nmX7 : ∀ a, a < 19 → ∀ b, b < 19 → a ≠ b → (TX7 a).2.1 ≠ (TX7 b).2.1 := by decide +kernel
theorem tyX7_ok : ∀ k, k < 19 → parseFieldDescriptor (TX7 k).2.2.1 = some (tyX7 k) := by decide +kernel
abbrev cX7_init : ByteArray := prog_9_method_1_code
def yX7_init : MethodName := ⟨RX7, "<init>", "()V"⟩
abbrev cX7_in : ByteArray := prog_9_method_2_code
def yX7_in : MethodName := ⟨RX7, "in", "(III)Z"⟩
abbrev cX7_finds : ByteArray := prog_9_method_3_code
def yX7_finds : MethodName := ⟨RX7, "finds", "(I)I"⟩
abbrev cX7_held : ByteArray := prog_9_method_4_code
def yX7_held : MethodName := ⟨RX7, "held", "(III)I"⟩
abbrev cX7_its : ByteArray := prog_9_method_5_code
def yX7_its : MethodName := ⟨RX7, "its", "(II)I"⟩
abbrev cX7_puts : ByteArray := prog_9_method_6_code
def yX7_puts : MethodName := ⟨RX7, "puts", "(III)V"⟩
abbrev cX7_becomes : ByteArray := prog_9_method_7_code
def yX7_becomes : MethodName := ⟨RX7, "becomes", "(II)I"⟩
abbrev cX7_isOne : ByteArray := prog_9_method_8_code
def yX7_isOne : MethodName := ⟨RX7, "isOne", "(I)Z"⟩
abbrev cX7_isKind : ByteArray := prog_9_method_9_code
def yX7_isKind : MethodName := ⟨RX7, "isKind", "(I)Z"⟩
abbrev cX7_bits : ByteArray := prog_9_method_10_code
def yX7_bits : MethodName := ⟨RX7, "bits", "(I)I"⟩
abbrev cX7_mostOf : ByteArray := prog_9_method_11_code
def yX7_mostOf : MethodName := ⟨RX7, "mostOf", "(I)I"⟩
abbrev cX7_jar : ByteArray := prog_9_method_12_code
def yX7_jar : MethodName := ⟨RX7, "jar", "(II)I"⟩
abbrev cX7_dark : ByteArray := prog_9_method_13_code
def yX7_dark : MethodName := ⟨RX7, "dark", "(II)I"⟩
abbrev cX7_darkNow : ByteArray := prog_9_method_14_code
def yX7_darkNow : MethodName := ⟨RX7, "darkNow", "()I"⟩
abbrev cX7_costs : ByteArray := prog_9_method_15_code
def yX7_costs : MethodName := ⟨RX7, "costs", "(II)I"⟩
abbrev cX7_takes : ByteArray := prog_9_method_16_code
def yX7_takes : MethodName := ⟨RX7, "takes", "(II)I"⟩
abbrev cX7_fades : ByteArray := prog_9_method_17_code
def yX7_fades : MethodName := ⟨RX7, "fades", "(I)I"⟩
abbrev cX7_believed : ByteArray := prog_9_method_18_code
def yX7_believed : MethodName := ⟨RX7, "believed", "(I)I"⟩
abbrev cX7_notWhite : ByteArray := prog_9_method_19_code
def yX7_notWhite : MethodName := ⟨RX7, "notWhite", "()I"⟩
abbrev cX7_allBelieved : ByteArray := prog_9_method_20_code
def yX7_allBelieved : MethodName := ⟨RX7, "allBelieved", "()I"⟩
abbrev cX7_now : ByteArray := prog_9_method_21_code
def yX7_now : MethodName := ⟨RX7, "now", "(I)I"⟩
abbrev cX7_adds : ByteArray := prog_9_method_22_code
def yX7_adds : MethodName := ⟨RX7, "adds", "(III)V"⟩
abbrev cX7_scribe : ByteArray := prog_9_method_23_code
def yX7_scribe : MethodName := ⟨RX7, "scribe", "(II)I"⟩
abbrev cX7_of : ByteArray := prog_9_method_24_code
def yX7_of : MethodName := ⟨RX7, "of", "(II)I"⟩
abbrev cX7_isPart : ByteArray := prog_9_method_25_code
def yX7_isPart : MethodName := ⟨RX7, "isPart", "(II)Z"⟩
abbrev cX7_set : ByteArray := prog_9_method_26_code
def yX7_set : MethodName := ⟨RX7, "set", "(III)I"⟩
abbrev cX7_turn : ByteArray := prog_9_method_27_code
def yX7_turn : MethodName := ⟨RX7, "turn", "(II)I"⟩
abbrev cX7_as : ByteArray := prog_9_method_28_code
def yX7_as : MethodName := ⟨RX7, "as", "(II)I"⟩
abbrev cX7_looks : ByteArray := prog_9_method_29_code
def yX7_looks : MethodName := ⟨RX7, "looks", "(I)I"⟩
abbrev cX7_over : ByteArray := prog_9_method_30_code
def yX7_over : MethodName := ⟨RX7, "over", "(I)I"⟩
abbrev cX7_oneNight : ByteArray := prog_9_method_31_code
def yX7_oneNight : MethodName := ⟨RX7, "oneNight", "()V"⟩
abbrev cX7_passes : ByteArray := prog_9_method_32_code
def yX7_passes : MethodName := ⟨RX7, "passes", "(I)V"⟩
abbrev cX7_nights : ByteArray := prog_9_method_33_code
def yX7_nights : MethodName := ⟨RX7, "nights", "(I)I"⟩
abbrev cX7_behind : ByteArray := prog_9_method_34_code
def yX7_behind : MethodName := ⟨RX7, "behind", "(III)I"⟩
abbrev cX7_ink : ByteArray := prog_9_method_35_code
def yX7_ink : MethodName := ⟨RX7, "ink", "(I)I"⟩
abbrev cX7_on : ByteArray := prog_9_method_36_code
def yX7_on : MethodName := ⟨RX7, "on", "(III)I"⟩
abbrev cX7_all : ByteArray := prog_9_method_37_code
def yX7_all : MethodName := ⟨RX7, "all", "(I)I"⟩
abbrev cX7_white : ByteArray := prog_9_method_38_code
def yX7_white : MethodName := ⟨RX7, "white", "(I)I"⟩
abbrev cX7_comes : ByteArray := prog_9_method_39_code
def yX7_comes : MethodName := ⟨RX7, "comes", "(I)I"⟩
abbrev cX7_when : ByteArray := prog_9_method_40_code
def yX7_when : MethodName := ⟨RX7, "when", "(II)I"⟩
abbrev cX7_shade : ByteArray := prog_9_method_41_code
def yX7_shade : MethodName := ⟨RX7, "shade", "(I)I"⟩
abbrev cX7_enough : ByteArray := prog_9_method_42_code
def yX7_enough : MethodName := ⟨RX7, "enough", "(II)I"⟩
abbrev cX7_kind : ByteArray := prog_9_method_43_code
def yX7_kind : MethodName := ⟨RX7, "kind", "(II)I"⟩
abbrev cX7_lamp : ByteArray := prog_9_method_44_code
def yX7_lamp : MethodName := ⟨RX7, "lamp", "(II)I"⟩
abbrev cX7_wordsOf : ByteArray := prog_9_method_45_code
def yX7_wordsOf : MethodName := ⟨RX7, "wordsOf", "(I)I"⟩
abbrev cX7_longest : ByteArray := prog_9_method_46_code
def yX7_longest : MethodName := ⟨RX7, "longest", "(I)I"⟩
abbrev cX7_sunny : ByteArray := prog_9_method_47_code
def yX7_sunny : MethodName := ⟨RX7, "sunny", "(II)I"⟩
abbrev cX7_feed : ByteArray := prog_9_method_48_code
def yX7_feed : MethodName := ⟨RX7, "feed", "(II)I"⟩
abbrev cX7_wipe : ByteArray := prog_9_method_49_code
def yX7_wipe : MethodName := ⟨RX7, "wipe", "()I"⟩
abbrev cX7_byteAt : ByteArray := prog_9_method_50_code
def yX7_byteAt : MethodName := ⟨RX7, "byteAt", "(I)I"⟩
abbrev cX7_isLetter : ByteArray := prog_9_method_51_code
def yX7_isLetter : MethodName := ⟨RX7, "isLetter", "(I)Z"⟩
abbrev cX7_isDigit : ByteArray := prog_9_method_52_code
def yX7_isDigit : MethodName := ⟨RX7, "isDigit", "(I)Z"⟩
abbrev cX7_advance : ByteArray := prog_9_method_53_code
def yX7_advance : MethodName := ⟨RX7, "advance", "()V"⟩
abbrev cX7_isWord : ByteArray := prog_9_method_54_code
def yX7_isWord : MethodName := ⟨RX7, "isWord", "(J)Z"⟩
abbrev cX7_kindHere : ByteArray := prog_9_method_55_code
def yX7_kindHere : MethodName := ⟨RX7, "kindHere", "()I"⟩
abbrev cX7_wantNumber : ByteArray := prog_9_method_56_code
def yX7_wantNumber : MethodName := ⟨RX7, "wantNumber", "(II)I"⟩
abbrev cX7_wantOne : ByteArray := prog_9_method_57_code
def yX7_wantOne : MethodName := ⟨RX7, "wantOne", "(I)V"⟩
abbrev cX7_wantJar : ByteArray := prog_9_method_58_code
def yX7_wantJar : MethodName := ⟨RX7, "wantJar", "(II)V"⟩
abbrev cX7_wantItem : ByteArray := prog_9_method_59_code
def yX7_wantItem : MethodName := ⟨RX7, "wantItem", "()V"⟩
abbrev cX7_text : ByteArray := prog_9_method_60_code
def yX7_text : MethodName := ⟨RX7, "text", "()I"⟩
abbrev cX7_isSheet : ByteArray := prog_9_method_61_code
def yX7_isSheet : MethodName := ⟨RX7, "isSheet", "(I)Z"⟩
abbrev cX7_narrow : ByteArray := prog_9_method_62_code
def yX7_narrow : MethodName := ⟨RX7, "narrow", "(IJ)J"⟩
abbrev cX7_sheet : ByteArray := prog_9_method_63_code
def yX7_sheet : MethodName := ⟨RX7, "sheet", "(III)I"⟩
abbrev cX7_write : ByteArray := prog_9_method_64_code
def yX7_write : MethodName := ⟨RX7, "write", "(IIJ)J"⟩
abbrev cX7_isPart_ : ByteArray := prog_9_method_65_code
def yX7_isPart_ : MethodName := ⟨RX7, "isPart", "(III)Z"⟩
abbrev cX7_copy : ByteArray := prog_9_method_66_code
def yX7_copy : MethodName := ⟨RX7, "copy", "(IIIII)I"⟩
abbrev cX7_badSheet : ByteArray := prog_9_method_67_code
def yX7_badSheet : MethodName := ⟨RX7, "badSheet", "(I)I"⟩
abbrev cX7_lays : ByteArray := prog_9_method_68_code
def yX7_lays : MethodName := ⟨RX7, "lays", "(I)I"⟩
abbrev cX7_book : ByteArray := prog_9_method_69_code
def yX7_book : MethodName := ⟨RX7, "book", "(II)I"⟩
abbrev cX7_isSo : ByteArray := prog_9_method_70_code
def yX7_isSo : MethodName := ⟨RX7, "isSo", "(II)Z"⟩
abbrev cX7_read : ByteArray := prog_9_method_71_code
def yX7_read : MethodName := ⟨RX7, "read", "(II)I"⟩
abbrev cX7_moveAll : ByteArray := prog_9_method_72_code
def yX7_moveAll : MethodName := ⟨RX7, "moveAll", "(Z[I)V"⟩
abbrev cX7_image : ByteArray := prog_9_method_73_code
def yX7_image : MethodName := ⟨RX7, "image", "()I"⟩
abbrev cX7_undo : ByteArray := prog_9_method_74_code
def yX7_undo : MethodName := ⟨RX7, "undo", "()I"⟩
abbrev cX7_tear : ByteArray := prog_9_method_75_code
def yX7_tear : MethodName := ⟨RX7, "tear", "()I"⟩
abbrev cX7_sumOf : ByteArray := prog_9_method_76_code
def yX7_sumOf : MethodName := ⟨RX7, "sumOf", "(I)I"⟩
abbrev cX7_count : ByteArray := prog_9_method_77_code
def yX7_count : MethodName := ⟨RX7, "count", "(I)I"⟩
abbrev cX7_status : ByteArray := prog_9_method_78_code
def yX7_status : MethodName := ⟨RX7, "status", "(I)I"⟩
def RJx145de : String := "java/io/Serializable"
def TJx145de : u_T := fun k => match k with
  | _ => ("", "", "", false)
def tyJx145de : Nat → FieldType := fun k => match k with
  | _ => .int
theorem nmJx145de : ∀ a, a < 0 → ∀ b, b < 0 → a ≠ b → (TJx145de a).2.1 ≠ (TJx145de b).2.1 := by decide +kernel
theorem tyJx145de_ok : ∀ k, k < 0 → parseFieldDescriptor (TJx145de k).2.2.1 = some (tyJx145de k) := by decide +kernel
def RJx9f9b0 : String := "java/lang/CharSequence"
def TJx9f9b0 : u_T := fun k => match k with
  | _ => ("", "", "", false)
def tyJx9f9b0 : Nat → FieldType := fun k => match k with
  | _ => .int
theorem nmJx9f9b0 : ∀ a, a < 0 → ∀ b, b < 0 → a ≠ b → (TJx9f9b0 a).2.1 ≠ (TJx9f9b0 b).2.1 := by decide +kernel
theorem tyJx9f9b0_ok : ∀ k, k < 0 → parseFieldDescriptor (TJx9f9b0 k).2.2.1 = some (tyJx9f9b0 k) := by decide +kernel
def RJxb160c : String := "java/lang/Comparable"
def TJxb160c : u_T := fun k => match k with
  | _ => ("", "", "", false)
def tyJxb160c : Nat → FieldType := fun k => match k with
  | _ => .int
theorem nmJxb160c : ∀ a, a < 0 → ∀ b, b < 0 → a ≠ b → (TJxb160c a).2.1 ≠ (TJxb160c b).2.1 := by decide +kernel
theorem tyJxb160c_ok : ∀ k, k < 0 → parseFieldDescriptor (TJxb160c k).2.2.1 = some (tyJxb160c k) := by decide +kernel
def RJ6 : String := "java/lang/Integer"
def TJ6 : u_T := fun k => match k with
  | _ => ("", "", "", false)
def tyJ6 : Nat → FieldType := fun k => match k with
  | _ => .int
theorem nmJ6 : ∀ a, a < 0 → ∀ b, b < 0 → a ≠ b → (TJ6 a).2.1 ≠ (TJ6 b).2.1 := by decide +kernel
theorem tyJ6_ok : ∀ k, k < 0 → parseFieldDescriptor (TJ6 k).2.2.1 = some (tyJ6 k) := by decide +kernel
abbrev cJ6_bitCount_0f7a4 : ByteArray := prog_10_method_49_code
def yJ6_bitCount_0f7a4 : MethodName := ⟨RJ6, "bitCount", "(I)I"⟩
def RJ9 : String := "java/lang/Math"
def TJ9 : u_T := fun k => match k with
  | _ => ("", "", "", false)
def tyJ9 : Nat → FieldType := fun k => match k with
  | _ => .int
theorem nmJ9 : ∀ a, a < 0 → ∀ b, b < 0 → a ≠ b → (TJ9 a).2.1 ≠ (TJ9 b).2.1 := by decide +kernel
theorem tyJ9_ok : ∀ k, k < 0 → parseFieldDescriptor (TJ9 k).2.2.1 = some (tyJ9 k) := by decide +kernel
abbrev cJ9_floorMod_7cf53 : ByteArray := prog_11_method_50_code
def yJ9_floorMod_7cf53 : MethodName := ⟨RJ9, "floorMod", "(II)I"⟩
abbrev cJ9_max_7cf53 : ByteArray := prog_11_method_65_code
def yJ9_max_7cf53 : MethodName := ⟨RJ9, "max", "(II)I"⟩
abbrev cJ9_min_7cf53 : ByteArray := prog_11_method_69_code
def yJ9_min_7cf53 : MethodName := ⟨RJ9, "min", "(II)I"⟩
def RJ0 : String := "java/lang/String"
def TJ0 : u_T := fun k => match k with
  | _ => ("", "", "", false)
def tyJ0 : Nat → FieldType := fun k => match k with
  | _ => .int
theorem nmJ0 : ∀ a, a < 0 → ∀ b, b < 0 → a ≠ b → (TJ0 a).2.1 ≠ (TJ0 b).2.1 := by decide +kernel
theorem tyJ0_ok : ∀ k, k < 0 → parseFieldDescriptor (TJ0 k).2.2.1 = some (tyJ0 k) := by decide +kernel
abbrev cJ0_length_8abf5 : ByteArray := prog_12_method_54_code
def yJ0_length_8abf5 : MethodName := ⟨RJ0, "length", "()I"⟩
abbrev cJ0_charAt_5068e : ByteArray := prog_12_method_56_code
def yJ0_charAt_5068e : MethodName := ⟨RJ0, "charAt", "(I)C"⟩
abbrev cJ0_coder_7d493 : ByteArray := prog_12_method_152_code
def yJ0_coder_7d493 : MethodName := ⟨RJ0, "coder", "()B"⟩
abbrev cJ0_isLatin1_aae02 : ByteArray := prog_12_method_154_code
def yJ0_isLatin1_aae02 : MethodName := ⟨RJ0, "isLatin1", "()Z"⟩
abbrev cJ0_checkIndex_df160 : ByteArray := prog_12_method_155_code
def yJ0_checkIndex_df160 : MethodName := ⟨RJ0, "checkIndex", "(II)V"⟩
def RJ1 : String := "java/lang/StringLatin1"
def TJ1 : u_T := fun k => match k with
  | _ => ("", "", "", false)
def tyJ1 : Nat → FieldType := fun k => match k with
  | _ => .int
theorem nmJ1 : ∀ a, a < 0 → ∀ b, b < 0 → a ≠ b → (TJ1 a).2.1 ≠ (TJ1 b).2.1 := by decide +kernel
theorem tyJ1_ok : ∀ k, k < 0 → parseFieldDescriptor (TJ1 k).2.2.1 = some (tyJ1 k) := by decide +kernel
abbrev cJ1_charAt_3b067 : ByteArray := prog_13_method_2_code
def yJ1_charAt_3b067 : MethodName := ⟨RJ1, "charAt", "([BI)C"⟩
def RJ2 : String := "java/lang/StringUTF16"
def TJ2 : u_T := fun k => match k with
  | _ => ("", "", "", false)
def tyJ2 : Nat → FieldType := fun k => match k with
  | _ => .int
theorem nmJ2 : ∀ a, a < 0 → ∀ b, b < 0 → a ≠ b → (TJ2 a).2.1 ≠ (TJ2 b).2.1 := by decide +kernel
theorem tyJ2_ok : ∀ k, k < 0 → parseFieldDescriptor (TJ2 k).2.2.1 = some (tyJ2 k) := by decide +kernel
abbrev cJ2_getChar_3b067 : ByteArray := prog_14_method_5_code
def yJ2_getChar_3b067 : MethodName := ⟨RJ2, "getChar", "([BI)C"⟩
abbrev cJ2_length_9d52b : ByteArray := prog_14_method_6_code
def yJ2_length_9d52b : MethodName := ⟨RJ2, "length", "([B)I"⟩
abbrev cJ2_charAt_3b067 : ByteArray := prog_14_method_83_code
def yJ2_charAt_3b067 : MethodName := ⟨RJ2, "charAt", "([BI)C"⟩
abbrev cJ2_checkIndex_2214a : ByteArray := prog_14_method_91_code
def yJ2_checkIndex_2214a : MethodName := ⟨RJ2, "checkIndex", "(I[B)V"⟩
def RJ10 : String := "java/lang/System"
def TJ10 : u_T := fun k => match k with
  | _ => ("", "", "", false)
def tyJ10 : Nat → FieldType := fun k => match k with
  | _ => .int
theorem nmJ10 : ∀ a, a < 0 → ∀ b, b < 0 → a ≠ b → (TJ10 a).2.1 ≠ (TJ10 b).2.1 := by decide +kernel
theorem tyJ10_ok : ∀ k, k < 0 → parseFieldDescriptor (TJ10 k).2.2.1 = some (tyJ10 k) := by decide +kernel
def RJxfd54e : String := "java/lang/constant/Constable"
def TJxfd54e : u_T := fun k => match k with
  | _ => ("", "", "", false)
def tyJxfd54e : Nat → FieldType := fun k => match k with
  | _ => .int
theorem nmJxfd54e : ∀ a, a < 0 → ∀ b, b < 0 → a ≠ b → (TJxfd54e a).2.1 ≠ (TJxfd54e b).2.1 := by decide +kernel
theorem tyJxfd54e_ok : ∀ k, k < 0 → parseFieldDescriptor (TJxfd54e k).2.2.1 = some (tyJxfd54e k) := by decide +kernel
def RJx3cf43 : String := "java/lang/constant/ConstantDesc"
def TJx3cf43 : u_T := fun k => match k with
  | _ => ("", "", "", false)
def tyJx3cf43 : Nat → FieldType := fun k => match k with
  | _ => .int
theorem nmJx3cf43 : ∀ a, a < 0 → ∀ b, b < 0 → a ≠ b → (TJx3cf43 a).2.1 ≠ (TJx3cf43 b).2.1 := by decide +kernel
theorem tyJx3cf43_ok : ∀ k, k < 0 → parseFieldDescriptor (TJx3cf43 k).2.2.1 = some (tyJx3cf43 k) := by decide +kernel
def RJ7 : String := "java/util/Arrays"
def TJ7 : u_T := fun k => match k with
  | _ => ("", "", "", false)
def tyJ7 : Nat → FieldType := fun k => match k with
  | _ => .int
theorem nmJ7 : ∀ a, a < 0 → ∀ b, b < 0 → a ≠ b → (TJ7 a).2.1 ≠ (TJ7 b).2.1 := by decide +kernel
theorem tyJ7_ok : ∀ k, k < 0 → parseFieldDescriptor (TJ7 k).2.2.1 = some (tyJ7 k) := by decide +kernel
abbrev cJ7_fill_d0a16 : ByteArray := prog_16_method_101_code
def yJ7_fill_d0a16 : MethodName := ⟨RJ7, "fill", "([JJ)V"⟩
def RJ3 : String := "jdk/internal/util/Preconditions"
def TJ3 : u_T := fun k => match k with
  | _ => ("", "", "", false)
def tyJ3 : Nat → FieldType := fun k => match k with
  | _ => .int
theorem nmJ3 : ∀ a, a < 0 → ∀ b, b < 0 → a ≠ b → (TJ3 a).2.1 ≠ (TJ3 b).2.1 := by decide +kernel
theorem tyJ3_ok : ∀ k, k < 0 → parseFieldDescriptor (TJ3 k).2.2.1 = some (tyJ3 k) := by decide +kernel
abbrev cJ3_checkIndex_8e157 : ByteArray := prog_17_method_11_code
def yJ3_checkIndex_8e157 : MethodName := ⟨RJ3, "checkIndex", "(IILjava/util/function/BiFunction;)I"⟩
def RL : String := "InkNightsLaw"
abbrev cL_law : ByteArray := code
def yL_law : MethodName := ⟨RL, "law", "([I)Z"⟩
abbrev vwCl : List vw_C := [(RX1, TX1, 5), (RX2, TX2, 9), (RX3, TX3, 3), (RX4, TX4, 6), (RX6, TX6, 7), (RX7, TX7, 19)]
end
section
theorem dX0_isKind_0 : decode cX0_isKind 0 = .ok (.iload_n 0, 1) := by decide +kernel
theorem dX0_isKind_1 : decode cX0_isKind 1 = .ok (.iconst 0, 1) := by decide +kernel
theorem dX0_isKind_2 : decode cX0_isKind 2 = .ok (.iconst 5, 1) := by decide +kernel
theorem dX0_isKind_3 : decode cX0_isKind 3 = .ok (.invokestatic 9, 3) := by decide +kernel
theorem dX0_isKind_6 : decode cX0_isKind 6 = .ok (.ireturn, 1) := by decide +kernel
theorem dX0_nameOf_0 : decode cX0_nameOf 0 = .ok (.iload_n 0, 1) := by decide +kernel
theorem dX0_nameOf_1 : decode cX0_nameOf 1 = .ok (.tableswitch 50 1 5 #[35, 38, 41, 44, 47], 35) := by decide +kernel
theorem dX0_nameOf_36 : decode cX0_nameOf 36 = .ok (.ldc 15, 2) := by decide +kernel
theorem dX0_nameOf_38 : decode cX0_nameOf 38 = .ok (.areturn, 1) := by decide +kernel
theorem dX0_nameOf_39 : decode cX0_nameOf 39 = .ok (.ldc 17, 2) := by decide +kernel
theorem dX0_nameOf_41 : decode cX0_nameOf 41 = .ok (.areturn, 1) := by decide +kernel
theorem dX0_nameOf_42 : decode cX0_nameOf 42 = .ok (.ldc 19, 2) := by decide +kernel
theorem dX0_nameOf_44 : decode cX0_nameOf 44 = .ok (.areturn, 1) := by decide +kernel
theorem dX0_nameOf_45 : decode cX0_nameOf 45 = .ok (.ldc 21, 2) := by decide +kernel
theorem dX0_nameOf_47 : decode cX0_nameOf 47 = .ok (.areturn, 1) := by decide +kernel
theorem dX0_nameOf_48 : decode cX0_nameOf 48 = .ok (.ldc 23, 2) := by decide +kernel
theorem dX0_nameOf_50 : decode cX0_nameOf 50 = .ok (.areturn, 1) := by decide +kernel
theorem dX0_nameOf_51 : decode cX0_nameOf 51 = .ok (.ldc 25, 2) := by decide +kernel
theorem dX0_nameOf_53 : decode cX0_nameOf 53 = .ok (.areturn, 1) := by decide +kernel
theorem dX0_isOneOf_0 : decode cX0_isOneOf 0 = .ok (.iload_n 1, 1) := by decide +kernel
theorem dX0_isOneOf_1 : decode cX0_isOneOf 1 = .ok (.tableswitch 61 0 2 #[27, 29, 45], 27) := by decide +kernel
theorem dX0_isOneOf_28 : decode cX0_isOneOf 28 = .ok (.iconst 1, 1) := by decide +kernel
theorem dX0_isOneOf_29 : decode cX0_isOneOf 29 = .ok (.ireturn, 1) := by decide +kernel
theorem dX0_isOneOf_30 : decode cX0_isOneOf 30 = .ok (.iload_n 0, 1) := by decide +kernel
theorem dX0_isOneOf_31 : decode cX0_isOneOf 31 = .ok (.iconst 1, 1) := by decide +kernel
theorem dX0_isOneOf_32 : decode cX0_isOneOf 32 = .ok (.if_icmp .eq 8, 3) := by decide +kernel
theorem dX0_isOneOf_35 : decode cX0_isOneOf 35 = .ok (.iload_n 0, 1) := by decide +kernel
theorem dX0_isOneOf_36 : decode cX0_isOneOf 36 = .ok (.iconst 4, 1) := by decide +kernel
theorem dX0_isOneOf_37 : decode cX0_isOneOf 37 = .ok (.if_icmp .ne 7, 3) := by decide +kernel
theorem dX0_isOneOf_40 : decode cX0_isOneOf 40 = .ok (.iconst 1, 1) := by decide +kernel
theorem dX0_isOneOf_41 : decode cX0_isOneOf 41 = .ok (.goto 4, 3) := by decide +kernel
theorem dX0_isOneOf_44 : decode cX0_isOneOf 44 = .ok (.iconst 0, 1) := by decide +kernel
theorem dX0_isOneOf_45 : decode cX0_isOneOf 45 = .ok (.ireturn, 1) := by decide +kernel
theorem dX0_isOneOf_46 : decode cX0_isOneOf 46 = .ok (.iload_n 0, 1) := by decide +kernel
theorem dX0_isOneOf_47 : decode cX0_isOneOf 47 = .ok (.iconst 2, 1) := by decide +kernel
theorem dX0_isOneOf_48 : decode cX0_isOneOf 48 = .ok (.if_icmp .eq 8, 3) := by decide +kernel
theorem dX0_isOneOf_51 : decode cX0_isOneOf 51 = .ok (.iload_n 0, 1) := by decide +kernel
theorem dX0_isOneOf_52 : decode cX0_isOneOf 52 = .ok (.iconst 5, 1) := by decide +kernel
theorem dX0_isOneOf_53 : decode cX0_isOneOf 53 = .ok (.if_icmp .ne 7, 3) := by decide +kernel
theorem dX0_isOneOf_56 : decode cX0_isOneOf 56 = .ok (.iconst 1, 1) := by decide +kernel
theorem dX0_isOneOf_57 : decode cX0_isOneOf 57 = .ok (.goto 4, 3) := by decide +kernel
theorem dX0_isOneOf_60 : decode cX0_isOneOf 60 = .ok (.iconst 0, 1) := by decide +kernel
theorem dX0_isOneOf_61 : decode cX0_isOneOf 61 = .ok (.ireturn, 1) := by decide +kernel
theorem dX0_isOneOf_62 : decode cX0_isOneOf 62 = .ok (.iload_n 0, 1) := by decide +kernel
theorem dX0_isOneOf_63 : decode cX0_isOneOf 63 = .ok (.iload_n 1, 1) := by decide +kernel
theorem dX0_isOneOf_64 : decode cX0_isOneOf 64 = .ok (.if_icmp .ne 7, 3) := by decide +kernel
theorem dX0_isOneOf_67 : decode cX0_isOneOf 67 = .ok (.iconst 1, 1) := by decide +kernel
theorem dX0_isOneOf_68 : decode cX0_isOneOf 68 = .ok (.goto 4, 3) := by decide +kernel
theorem dX0_isOneOf_71 : decode cX0_isOneOf 71 = .ok (.iconst 0, 1) := by decide +kernel
theorem dX0_isOneOf_72 : decode cX0_isOneOf 72 = .ok (.ireturn, 1) := by decide +kernel
theorem dX0_costs_0 : decode cX0_costs 0 = .ok (.iconst 1, 1) := by decide +kernel
theorem dX0_costs_1 : decode cX0_costs 1 = .ok (.iload_n 1, 1) := by decide +kernel
theorem dX0_costs_2 : decode cX0_costs 2 = .ok (.bipush 20, 2) := by decide +kernel
theorem dX0_costs_4 : decode cX0_costs 4 = .ok (.idiv, 1) := by decide +kernel
theorem dX0_costs_5 : decode cX0_costs 5 = .ok (.iadd, 1) := by decide +kernel
theorem dX0_costs_6 : decode cX0_costs 6 = .ok (.istore_n 2, 1) := by decide +kernel
theorem dX0_costs_7 : decode cX0_costs 7 = .ok (.iload_n 2, 1) := by decide +kernel
theorem dX0_costs_8 : decode cX0_costs 8 = .ok (.iconst 2, 1) := by decide +kernel
theorem dX0_costs_9 : decode cX0_costs 9 = .ok (.iadd, 1) := by decide +kernel
theorem dX0_costs_10 : decode cX0_costs 10 = .ok (.istore_n 3, 1) := by decide +kernel
theorem dX0_costs_11 : decode cX0_costs 11 = .ok (.iconst 1, 1) := by decide +kernel
theorem dX0_costs_12 : decode cX0_costs 12 = .ok (.iload_n 2, 1) := by decide +kernel
theorem dX0_costs_13 : decode cX0_costs 13 = .ok (.iconst 2, 1) := by decide +kernel
theorem dX0_costs_14 : decode cX0_costs 14 = .ok (.idiv, 1) := by decide +kernel
theorem dX0_costs_15 : decode cX0_costs 15 = .ok (.invokestatic 27, 3) := by decide +kernel
theorem dX0_costs_18 : decode cX0_costs 18 = .ok (.istore 4, 2) := by decide +kernel
theorem dX0_costs_20 : decode cX0_costs 20 = .ok (.iload_n 0, 1) := by decide +kernel
theorem dX0_costs_21 : decode cX0_costs 21 = .ok (.tableswitch 53 1 5 #[35, 37, 40, 44, 48], 35) := by decide +kernel
theorem dX0_costs_56 : decode cX0_costs 56 = .ok (.iload_n 3, 1) := by decide +kernel
theorem dX0_costs_57 : decode cX0_costs 57 = .ok (.ireturn, 1) := by decide +kernel
theorem dX0_costs_58 : decode cX0_costs 58 = .ok (.iload 4, 2) := by decide +kernel
theorem dX0_costs_60 : decode cX0_costs 60 = .ok (.ireturn, 1) := by decide +kernel
theorem dX0_costs_61 : decode cX0_costs 61 = .ok (.iconst 2, 1) := by decide +kernel
theorem dX0_costs_62 : decode cX0_costs 62 = .ok (.iload_n 2, 1) := by decide +kernel
theorem dX0_costs_63 : decode cX0_costs 63 = .ok (.imul, 1) := by decide +kernel
theorem dX0_costs_64 : decode cX0_costs 64 = .ok (.ireturn, 1) := by decide +kernel
theorem dX0_costs_65 : decode cX0_costs 65 = .ok (.iload_n 3, 1) := by decide +kernel
theorem dX0_costs_66 : decode cX0_costs 66 = .ok (.iconst 1, 1) := by decide +kernel
theorem dX0_costs_67 : decode cX0_costs 67 = .ok (.isub, 1) := by decide +kernel
theorem dX0_costs_68 : decode cX0_costs 68 = .ok (.ireturn, 1) := by decide +kernel
theorem dX0_costs_69 : decode cX0_costs 69 = .ok (.iload 4, 2) := by decide +kernel
theorem dX0_costs_71 : decode cX0_costs 71 = .ok (.iconst 1, 1) := by decide +kernel
theorem dX0_costs_72 : decode cX0_costs 72 = .ok (.iadd, 1) := by decide +kernel
theorem dX0_costs_73 : decode cX0_costs 73 = .ok (.ireturn, 1) := by decide +kernel
theorem dX0_costs_74 : decode cX0_costs 74 = .ok (.iload_n 2, 1) := by decide +kernel
theorem dX0_costs_75 : decode cX0_costs 75 = .ok (.ireturn, 1) := by decide +kernel
theorem dX0_takes_0 : decode cX0_takes 0 = .ok (.iconst 4, 1) := by decide +kernel
theorem dX0_takes_1 : decode cX0_takes 1 = .ok (.iload_n 1, 1) := by decide +kernel
theorem dX0_takes_2 : decode cX0_takes 2 = .ok (.imul, 1) := by decide +kernel
theorem dX0_takes_3 : decode cX0_takes 3 = .ok (.istore_n 2, 1) := by decide +kernel
theorem dX0_takes_4 : decode cX0_takes 4 = .ok (.iload_n 0, 1) := by decide +kernel
theorem dX0_takes_5 : decode cX0_takes 5 = .ok (.iconst 1, 1) := by decide +kernel
theorem dX0_takes_6 : decode cX0_takes 6 = .ok (.if_icmp .eq 8, 3) := by decide +kernel
theorem dX0_takes_9 : decode cX0_takes 9 = .ok (.iload_n 0, 1) := by decide +kernel
theorem dX0_takes_10 : decode cX0_takes 10 = .ok (.iconst 4, 1) := by decide +kernel
theorem dX0_takes_11 : decode cX0_takes 11 = .ok (.if_icmp .ne 9, 3) := by decide +kernel
theorem dX0_takes_14 : decode cX0_takes 14 = .ok (.iinc 2 10, 3) := by decide +kernel
theorem dX0_takes_17 : decode cX0_takes 17 = .ok (.goto 34, 3) := by decide +kernel
theorem dX0_takes_20 : decode cX0_takes 20 = .ok (.iload_n 0, 1) := by decide +kernel
theorem dX0_takes_21 : decode cX0_takes 21 = .ok (.iconst 3, 1) := by decide +kernel
theorem dX0_takes_22 : decode cX0_takes 22 = .ok (.if_icmp .ne 16, 3) := by decide +kernel
theorem dX0_takes_25 : decode cX0_takes 25 = .ok (.iload_n 1, 1) := by decide +kernel
theorem dX0_takes_26 : decode cX0_takes 26 = .ok (.bipush 15, 2) := by decide +kernel
theorem dX0_takes_28 : decode cX0_takes 28 = .ok (.if_icmp .lt 10, 3) := by decide +kernel
theorem dX0_takes_31 : decode cX0_takes 31 = .ok (.iconst 5, 1) := by decide +kernel
theorem dX0_takes_32 : decode cX0_takes 32 = .ok (.iload_n 1, 1) := by decide +kernel
theorem dX0_takes_33 : decode cX0_takes 33 = .ok (.imul, 1) := by decide +kernel
theorem dX0_takes_34 : decode cX0_takes 34 = .ok (.istore_n 2, 1) := by decide +kernel
theorem dX0_takes_35 : decode cX0_takes 35 = .ok (.goto 16, 3) := by decide +kernel
theorem dX0_takes_38 : decode cX0_takes 38 = .ok (.iload_n 0, 1) := by decide +kernel
theorem dX0_takes_39 : decode cX0_takes 39 = .ok (.iconst 5, 1) := by decide +kernel
theorem dX0_takes_40 : decode cX0_takes 40 = .ok (.if_icmp .ne 11, 3) := by decide +kernel
theorem dX0_takes_43 : decode cX0_takes 43 = .ok (.iconst 0, 1) := by decide +kernel
theorem dX0_takes_44 : decode cX0_takes 44 = .ok (.iload_n 2, 1) := by decide +kernel
theorem dX0_takes_45 : decode cX0_takes 45 = .ok (.iconst 5, 1) := by decide +kernel
theorem dX0_takes_46 : decode cX0_takes 46 = .ok (.isub, 1) := by decide +kernel
theorem dX0_takes_47 : decode cX0_takes 47 = .ok (.invokestatic 27, 3) := by decide +kernel
theorem dX0_takes_50 : decode cX0_takes 50 = .ok (.istore_n 2, 1) := by decide +kernel
theorem dX0_takes_51 : decode cX0_takes 51 = .ok (.bipush 99, 2) := by decide +kernel
theorem dX0_takes_53 : decode cX0_takes 53 = .ok (.iload_n 2, 1) := by decide +kernel
theorem dX0_takes_54 : decode cX0_takes 54 = .ok (.invokestatic 35, 3) := by decide +kernel
theorem dX0_takes_57 : decode cX0_takes 57 = .ok (.ireturn, 1) := by decide +kernel
theorem dX0_fades_0 : decode cX0_fades 0 = .ok (.iload_n 1, 1) := by decide +kernel
theorem dX0_fades_1 : decode cX0_fades 1 = .ok (.iconst 1, 1) := by decide +kernel
theorem dX0_fades_2 : decode cX0_fades 2 = .ok (.if_icmp .ne 8, 3) := by decide +kernel
theorem dX0_fades_5 : decode cX0_fades 5 = .ok (.bipush 9, 2) := by decide +kernel
theorem dX0_fades_7 : decode cX0_fades 7 = .ok (.goto 4, 3) := by decide +kernel
theorem dX0_fades_10 : decode cX0_fades 10 = .ok (.iconst 0, 1) := by decide +kernel
theorem dX0_fades_11 : decode cX0_fades 11 = .ok (.istore_n 3, 1) := by decide +kernel
theorem dX0_fades_12 : decode cX0_fades 12 = .ok (.iload_n 3, 1) := by decide +kernel
theorem dX0_fades_13 : decode cX0_fades 13 = .ok (.iconst 2, 1) := by decide +kernel
theorem dX0_fades_14 : decode cX0_fades 14 = .ok (.idiv, 1) := by decide +kernel
theorem dX0_fades_15 : decode cX0_fades 15 = .ok (.istore 4, 2) := by decide +kernel
theorem dX0_fades_17 : decode cX0_fades 17 = .ok (.iload_n 3, 1) := by decide +kernel
theorem dX0_fades_18 : decode cX0_fades 18 = .ok (.iconst 1, 1) := by decide +kernel
theorem dX0_fades_19 : decode cX0_fades 19 = .ok (.iadd, 1) := by decide +kernel
theorem dX0_fades_20 : decode cX0_fades 20 = .ok (.istore 5, 2) := by decide +kernel
theorem dX0_fades_22 : decode cX0_fades 22 = .ok (.iload_n 0, 1) := by decide +kernel
theorem dX0_fades_23 : decode cX0_fades 23 = .ok (.tableswitch 57 1 5 #[33, 36, 57, 39, 50], 33) := by decide +kernel
theorem dX0_fades_56 : decode cX0_fades 56 = .ok (.iload 4, 2) := by decide +kernel
theorem dX0_fades_58 : decode cX0_fades 58 = .ok (.ireturn, 1) := by decide +kernel
theorem dX0_fades_59 : decode cX0_fades 59 = .ok (.iload 5, 2) := by decide +kernel
theorem dX0_fades_61 : decode cX0_fades 61 = .ok (.ireturn, 1) := by decide +kernel
theorem dX0_fades_62 : decode cX0_fades 62 = .ok (.iload_n 2, 1) := by decide +kernel
theorem dX0_fades_63 : decode cX0_fades 63 = .ok (.ifCond .ne 7, 3) := by decide +kernel
theorem dX0_fades_66 : decode cX0_fades 66 = .ok (.iconst 0, 1) := by decide +kernel
theorem dX0_fades_67 : decode cX0_fades 67 = .ok (.goto 5, 3) := by decide +kernel
theorem dX0_fades_70 : decode cX0_fades 70 = .ok (.iload 4, 2) := by decide +kernel
theorem dX0_fades_72 : decode cX0_fades 72 = .ok (.ireturn, 1) := by decide +kernel
theorem dX0_fades_73 : decode cX0_fades 73 = .ok (.iload 5, 2) := by decide +kernel
theorem dX0_fades_75 : decode cX0_fades 75 = .ok (.iload_n 2, 1) := by decide +kernel
theorem dX0_fades_76 : decode cX0_fades 76 = .ok (.iconst 4, 1) := by decide +kernel
theorem dX0_fades_77 : decode cX0_fades 77 = .ok (.idiv, 1) := by decide +kernel
theorem dX0_fades_78 : decode cX0_fades 78 = .ok (.iadd, 1) := by decide +kernel
theorem dX0_fades_79 : decode cX0_fades 79 = .ok (.ireturn, 1) := by decide +kernel
theorem dX0_fades_80 : decode cX0_fades 80 = .ok (.iload_n 3, 1) := by decide +kernel
theorem dX0_fades_81 : decode cX0_fades 81 = .ok (.ireturn, 1) := by decide +kernel
theorem dX0_believed_0 : decode cX0_believed 0 = .ok (.iload_n 1, 1) := by decide +kernel
theorem dX0_believed_1 : decode cX0_believed 1 = .ok (.ifCond .ne 5, 3) := by decide +kernel
theorem dX0_believed_4 : decode cX0_believed 4 = .ok (.iconst 0, 1) := by decide +kernel
theorem dX0_believed_5 : decode cX0_believed 5 = .ok (.ireturn, 1) := by decide +kernel
theorem dX0_believed_6 : decode cX0_believed 6 = .ok (.iload_n 1, 1) := by decide +kernel
theorem dX0_believed_7 : decode cX0_believed 7 = .ok (.iload_n 3, 1) := by decide +kernel
theorem dX0_believed_8 : decode cX0_believed 8 = .ok (.imul, 1) := by decide +kernel
theorem dX0_believed_9 : decode cX0_believed 9 = .ok (.bipush 9, 2) := by decide +kernel
theorem dX0_believed_11 : decode cX0_believed 11 = .ok (.idiv, 1) := by decide +kernel
theorem dX0_believed_12 : decode cX0_believed 12 = .ok (.istore 4, 2) := by decide +kernel
theorem dX0_believed_14 : decode cX0_believed 14 = .ok (.iload_n 1, 1) := by decide +kernel
theorem dX0_believed_15 : decode cX0_believed 15 = .ok (.bipush 50, 2) := by decide +kernel
theorem dX0_believed_17 : decode cX0_believed 17 = .ok (.if_icmp .le 10, 3) := by decide +kernel
theorem dX0_believed_20 : decode cX0_believed 20 = .ok (.iload 4, 2) := by decide +kernel
theorem dX0_believed_22 : decode cX0_believed 22 = .ok (.iconst 5, 1) := by decide +kernel
theorem dX0_believed_23 : decode cX0_believed 23 = .ok (.iadd, 1) := by decide +kernel
theorem dX0_believed_24 : decode cX0_believed 24 = .ok (.goto 5, 3) := by decide +kernel
theorem dX0_believed_27 : decode cX0_believed 27 = .ok (.iload 4, 2) := by decide +kernel
theorem dX0_believed_29 : decode cX0_believed 29 = .ok (.istore 5, 2) := by decide +kernel
theorem dX0_believed_31 : decode cX0_believed 31 = .ok (.iconst 0, 1) := by decide +kernel
theorem dX0_believed_32 : decode cX0_believed 32 = .ok (.iload 4, 2) := by decide +kernel
theorem dX0_believed_34 : decode cX0_believed 34 = .ok (.iload_n 2, 1) := by decide +kernel
theorem dX0_believed_35 : decode cX0_believed 35 = .ok (.isub, 1) := by decide +kernel
theorem dX0_believed_36 : decode cX0_believed 36 = .ok (.invokestatic 27, 3) := by decide +kernel
theorem dX0_believed_39 : decode cX0_believed 39 = .ok (.istore 6, 2) := by decide +kernel
theorem dX0_believed_41 : decode cX0_believed 41 = .ok (.iload_n 0, 1) := by decide +kernel
theorem dX0_believed_42 : decode cX0_believed 42 = .ok (.tableswitch 61 1 5 #[34, 37, 40, 51, 56], 34) := by decide +kernel
theorem dX0_believed_76 : decode cX0_believed 76 = .ok (.iload 5, 2) := by decide +kernel
theorem dX0_believed_78 : decode cX0_believed 78 = .ok (.ireturn, 1) := by decide +kernel
theorem dX0_believed_79 : decode cX0_believed 79 = .ok (.iload 6, 2) := by decide +kernel
theorem dX0_believed_81 : decode cX0_believed 81 = .ok (.ireturn, 1) := by decide +kernel
theorem dX0_believed_82 : decode cX0_believed 82 = .ok (.iload_n 3, 1) := by decide +kernel
theorem dX0_believed_83 : decode cX0_believed 83 = .ok (.iconst 5, 1) := by decide +kernel
theorem dX0_believed_84 : decode cX0_believed 84 = .ok (.if_icmp .lt 7, 3) := by decide +kernel
theorem dX0_believed_87 : decode cX0_believed 87 = .ok (.iload_n 1, 1) := by decide +kernel
theorem dX0_believed_88 : decode cX0_believed 88 = .ok (.goto 4, 3) := by decide +kernel
theorem dX0_believed_91 : decode cX0_believed 91 = .ok (.iconst 0, 1) := by decide +kernel
theorem dX0_believed_92 : decode cX0_believed 92 = .ok (.ireturn, 1) := by decide +kernel
theorem dX0_believed_93 : decode cX0_believed 93 = .ok (.iconst 2, 1) := by decide +kernel
theorem dX0_believed_94 : decode cX0_believed 94 = .ok (.iload 5, 2) := by decide +kernel
theorem dX0_believed_96 : decode cX0_believed 96 = .ok (.imul, 1) := by decide +kernel
theorem dX0_believed_97 : decode cX0_believed 97 = .ok (.ireturn, 1) := by decide +kernel
theorem dX0_believed_98 : decode cX0_believed 98 = .ok (.iload 6, 2) := by decide +kernel
theorem dX0_believed_100 : decode cX0_believed 100 = .ok (.iload_n 3, 1) := by decide +kernel
theorem dX0_believed_101 : decode cX0_believed 101 = .ok (.iadd, 1) := by decide +kernel
theorem dX0_believed_102 : decode cX0_believed 102 = .ok (.ireturn, 1) := by decide +kernel
theorem dX0_believed_103 : decode cX0_believed 103 = .ok (.iload 4, 2) := by decide +kernel
theorem dX0_believed_105 : decode cX0_believed 105 = .ok (.ireturn, 1) := by decide +kernel
theorem dX1_init_0 : decode cX1_init 0 = .ok (.aload_n 0, 1) := by decide +kernel
theorem dX1_init_1 : decode cX1_init 1 = .ok (.invokespecial 1, 3) := by decide +kernel
theorem dX1_init_4 : decode cX1_init 4 = .ok (.return_, 1) := by decide +kernel
theorem dX1_become_0 : decode cX1_become 0 = .ok (.aload_n 0, 1) := by decide +kernel
theorem dX1_become_1 : decode cX1_become 1 = .ok (.aload_n 1, 1) := by decide +kernel
theorem dX1_become_2 : decode cX1_become 2 = .ok (.getfield 7, 3) := by decide +kernel
theorem dX1_become_5 : decode cX1_become 5 = .ok (.putfield 7, 3) := by decide +kernel
theorem dX1_become_8 : decode cX1_become 8 = .ok (.aload_n 0, 1) := by decide +kernel
theorem dX1_become_9 : decode cX1_become 9 = .ok (.aload_n 1, 1) := by decide +kernel
theorem dX1_become_10 : decode cX1_become 10 = .ok (.getfield 13, 3) := by decide +kernel
theorem dX1_become_13 : decode cX1_become 13 = .ok (.putfield 13, 3) := by decide +kernel
theorem dX1_become_16 : decode cX1_become 16 = .ok (.aload_n 0, 1) := by decide +kernel
theorem dX1_become_17 : decode cX1_become 17 = .ok (.aload_n 1, 1) := by decide +kernel
theorem dX1_become_18 : decode cX1_become 18 = .ok (.getfield 16, 3) := by decide +kernel
theorem dX1_become_21 : decode cX1_become 21 = .ok (.putfield 16, 3) := by decide +kernel
theorem dX1_become_24 : decode cX1_become 24 = .ok (.aload_n 0, 1) := by decide +kernel
theorem dX1_become_25 : decode cX1_become 25 = .ok (.aload_n 1, 1) := by decide +kernel
theorem dX1_become_26 : decode cX1_become 26 = .ok (.getfield 19, 3) := by decide +kernel
theorem dX1_become_29 : decode cX1_become 29 = .ok (.putfield 19, 3) := by decide +kernel
theorem dX1_become_32 : decode cX1_become 32 = .ok (.aload_n 0, 1) := by decide +kernel
theorem dX1_become_33 : decode cX1_become 33 = .ok (.aload_n 1, 1) := by decide +kernel
theorem dX1_become_34 : decode cX1_become 34 = .ok (.getfield 22, 3) := by decide +kernel
theorem dX1_become_37 : decode cX1_become 37 = .ok (.putfield 22, 3) := by decide +kernel
theorem dX1_become_40 : decode cX1_become 40 = .ok (.return_, 1) := by decide +kernel
theorem dX1_least_0 : decode cX1_least 0 = .ok (.iload_n 0, 1) := by decide +kernel
theorem dX1_least_1 : decode cX1_least 1 = .ok (.iconst 1, 1) := by decide +kernel
theorem dX1_least_2 : decode cX1_least 2 = .ok (.if_icmp .ne 7, 3) := by decide +kernel
theorem dX1_least_5 : decode cX1_least 5 = .ok (.iconst 1, 1) := by decide +kernel
theorem dX1_least_6 : decode cX1_least 6 = .ok (.goto 4, 3) := by decide +kernel
theorem dX1_least_9 : decode cX1_least 9 = .ok (.iconst 0, 1) := by decide +kernel
theorem dX1_least_10 : decode cX1_least 10 = .ok (.ireturn, 1) := by decide +kernel
theorem dX1_most_0 : decode cX1_most 0 = .ok (.iload_n 0, 1) := by decide +kernel
theorem dX1_most_1 : decode cX1_most 1 = .ok (.tableswitch 43 1 4 #[31, 34, 37, 39], 31) := by decide +kernel
theorem dX1_most_32 : decode cX1_most 32 = .ok (.bipush 99, 2) := by decide +kernel
theorem dX1_most_34 : decode cX1_most 34 = .ok (.ireturn, 1) := by decide +kernel
theorem dX1_most_35 : decode cX1_most 35 = .ok (.bipush 99, 2) := by decide +kernel
theorem dX1_most_37 : decode cX1_most 37 = .ok (.ireturn, 1) := by decide +kernel
theorem dX1_most_38 : decode cX1_most 38 = .ok (.iconst 1, 1) := by decide +kernel
theorem dX1_most_39 : decode cX1_most 39 = .ok (.ireturn, 1) := by decide +kernel
theorem dX1_most_40 : decode cX1_most 40 = .ok (.sipush 9999, 3) := by decide +kernel
theorem dX1_most_43 : decode cX1_most 43 = .ok (.ireturn, 1) := by decide +kernel
theorem dX1_most_44 : decode cX1_most 44 = .ok (.iconst (-1), 1) := by decide +kernel
theorem dX1_most_45 : decode cX1_most 45 = .ok (.ireturn, 1) := by decide +kernel
theorem dX1_has_0 : decode cX1_has 0 = .ok (.iload_n 1, 1) := by decide +kernel
theorem dX1_has_1 : decode cX1_has 1 = .ok (.tableswitch 42 1 3 #[27, 32, 37], 27) := by decide +kernel
theorem dX1_has_28 : decode cX1_has 28 = .ok (.aload_n 0, 1) := by decide +kernel
theorem dX1_has_29 : decode cX1_has 29 = .ok (.getfield 13, 3) := by decide +kernel
theorem dX1_has_32 : decode cX1_has 32 = .ok (.ireturn, 1) := by decide +kernel
theorem dX1_has_33 : decode cX1_has 33 = .ok (.aload_n 0, 1) := by decide +kernel
theorem dX1_has_34 : decode cX1_has 34 = .ok (.getfield 16, 3) := by decide +kernel
theorem dX1_has_37 : decode cX1_has 37 = .ok (.ireturn, 1) := by decide +kernel
theorem dX1_has_38 : decode cX1_has 38 = .ok (.aload_n 0, 1) := by decide +kernel
theorem dX1_has_39 : decode cX1_has 39 = .ok (.getfield 19, 3) := by decide +kernel
theorem dX1_has_42 : decode cX1_has 42 = .ok (.ireturn, 1) := by decide +kernel
theorem dX1_has_43 : decode cX1_has 43 = .ok (.aload_n 0, 1) := by decide +kernel
theorem dX1_has_44 : decode cX1_has 44 = .ok (.getfield 22, 3) := by decide +kernel
theorem dX1_has_47 : decode cX1_has 47 = .ok (.ireturn, 1) := by decide +kernel
theorem dX1_put_0 : decode cX1_put 0 = .ok (.iload_n 1, 1) := by decide +kernel
theorem dX1_put_1 : decode cX1_put 1 = .ok (.tableswitch 51 1 3 #[27, 35, 43], 27) := by decide +kernel
theorem dX1_put_28 : decode cX1_put 28 = .ok (.aload_n 0, 1) := by decide +kernel
theorem dX1_put_29 : decode cX1_put 29 = .ok (.iload_n 2, 1) := by decide +kernel
theorem dX1_put_30 : decode cX1_put 30 = .ok (.putfield 13, 3) := by decide +kernel
theorem dX1_put_33 : decode cX1_put 33 = .ok (.goto 24, 3) := by decide +kernel
theorem dX1_put_36 : decode cX1_put 36 = .ok (.aload_n 0, 1) := by decide +kernel
theorem dX1_put_37 : decode cX1_put 37 = .ok (.iload_n 2, 1) := by decide +kernel
theorem dX1_put_38 : decode cX1_put 38 = .ok (.putfield 16, 3) := by decide +kernel
theorem dX1_put_41 : decode cX1_put 41 = .ok (.goto 16, 3) := by decide +kernel
theorem dX1_put_44 : decode cX1_put 44 = .ok (.aload_n 0, 1) := by decide +kernel
theorem dX1_put_45 : decode cX1_put 45 = .ok (.iload_n 2, 1) := by decide +kernel
theorem dX1_put_46 : decode cX1_put 46 = .ok (.putfield 19, 3) := by decide +kernel
theorem dX1_put_49 : decode cX1_put 49 = .ok (.goto 8, 3) := by decide +kernel
theorem dX1_put_52 : decode cX1_put 52 = .ok (.aload_n 0, 1) := by decide +kernel
theorem dX1_put_53 : decode cX1_put 53 = .ok (.iload_n 2, 1) := by decide +kernel
theorem dX1_put_54 : decode cX1_put 54 = .ok (.putfield 22, 3) := by decide +kernel
theorem dX1_put_57 : decode cX1_put 57 = .ok (.return_, 1) := by decide +kernel
theorem dX1_blackOn_0 : decode cX1_blackOn 0 = .ok (.aload_n 0, 1) := by decide +kernel
theorem dX1_blackOn_1 : decode cX1_blackOn 1 = .ok (.getfield 16, 3) := by decide +kernel
theorem dX1_blackOn_4 : decode cX1_blackOn 4 = .ok (.aload_n 0, 1) := by decide +kernel
theorem dX1_blackOn_5 : decode cX1_blackOn 5 = .ok (.getfield 7, 3) := by decide +kernel
theorem dX1_blackOn_8 : decode cX1_blackOn 8 = .ok (.aload_n 0, 1) := by decide +kernel
theorem dX1_blackOn_9 : decode cX1_blackOn 9 = .ok (.getfield 19, 3) := by decide +kernel
theorem dX1_blackOn_12 : decode cX1_blackOn 12 = .ok (.aload_n 0, 1) := by decide +kernel
theorem dX1_blackOn_13 : decode cX1_blackOn 13 = .ok (.getfield 22, 3) := by decide +kernel
theorem dX1_blackOn_16 : decode cX1_blackOn 16 = .ok (.invokestatic 25, 3) := by decide +kernel
theorem dX1_blackOn_19 : decode cX1_blackOn 19 = .ok (.iload_n 1, 1) := by decide +kernel
theorem dX1_blackOn_20 : decode cX1_blackOn 20 = .ok (.invokestatic 31, 3) := by decide +kernel
theorem dX1_blackOn_23 : decode cX1_blackOn 23 = .ok (.ireturn, 1) := by decide +kernel
theorem dX1_believedOn_0 : decode cX1_believedOn 0 = .ok (.aload_n 0, 1) := by decide +kernel
theorem dX1_believedOn_1 : decode cX1_believedOn 1 = .ok (.aload_n 0, 1) := by decide +kernel
theorem dX1_believedOn_2 : decode cX1_believedOn 2 = .ok (.getfield 7, 3) := by decide +kernel
theorem dX1_believedOn_5 : decode cX1_believedOn 5 = .ok (.aload_n 0, 1) := by decide +kernel
theorem dX1_believedOn_6 : decode cX1_believedOn 6 = .ok (.getfield 19, 3) := by decide +kernel
theorem dX1_believedOn_9 : decode cX1_believedOn 9 = .ok (.iload_n 1, 1) := by decide +kernel
theorem dX1_believedOn_10 : decode cX1_believedOn 10 = .ok (.iload_n 2, 1) := by decide +kernel
theorem dX1_believedOn_11 : decode cX1_believedOn 11 = .ok (.invokevirtual 34, 3) := by decide +kernel
theorem dX1_believedOn_14 : decode cX1_believedOn 14 = .ok (.ireturn, 1) := by decide +kernel
theorem dX1_believedAs_0 : decode cX1_believedAs 0 = .ok (.aload_n 0, 1) := by decide +kernel
theorem dX1_believedAs_1 : decode cX1_believedAs 1 = .ok (.getfield 16, 3) := by decide +kernel
theorem dX1_believedAs_4 : decode cX1_believedAs 4 = .ok (.iload_n 1, 1) := by decide +kernel
theorem dX1_believedAs_5 : decode cX1_believedAs 5 = .ok (.iload_n 2, 1) := by decide +kernel
theorem dX1_believedAs_6 : decode cX1_believedAs 6 = .ok (.aload_n 0, 1) := by decide +kernel
theorem dX1_believedAs_7 : decode cX1_believedAs 7 = .ok (.getfield 22, 3) := by decide +kernel
theorem dX1_believedAs_10 : decode cX1_believedAs 10 = .ok (.invokestatic 25, 3) := by decide +kernel
theorem dX1_believedAs_13 : decode cX1_believedAs 13 = .ok (.iload_n 3, 1) := by decide +kernel
theorem dX1_believedAs_14 : decode cX1_believedAs 14 = .ok (.invokestatic 31, 3) := by decide +kernel
theorem dX1_believedAs_17 : decode cX1_believedAs 17 = .ok (.istore 5, 2) := by decide +kernel
theorem dX1_believedAs_19 : decode cX1_believedAs 19 = .ok (.iload_n 1, 1) := by decide +kernel
theorem dX1_believedAs_20 : decode cX1_believedAs 20 = .ok (.iload 5, 2) := by decide +kernel
theorem dX1_believedAs_22 : decode cX1_believedAs 22 = .ok (.aload_n 0, 1) := by decide +kernel
theorem dX1_believedAs_23 : decode cX1_believedAs 23 = .ok (.getfield 22, 3) := by decide +kernel
theorem dX1_believedAs_26 : decode cX1_believedAs 26 = .ok (.iload 4, 2) := by decide +kernel
theorem dX1_believedAs_28 : decode cX1_believedAs 28 = .ok (.invokestatic 38, 3) := by decide +kernel
theorem dX1_believedAs_31 : decode cX1_believedAs 31 = .ok (.ireturn, 1) := by decide +kernel
theorem dX1_firstWhite_0 : decode cX1_firstWhite 0 = .ok (.iconst 0, 1) := by decide +kernel
theorem dX1_firstWhite_1 : decode cX1_firstWhite 1 = .ok (.istore_n 2, 1) := by decide +kernel
theorem dX1_firstWhite_2 : decode cX1_firstWhite 2 = .ok (.iload_n 2, 1) := by decide +kernel
theorem dX1_firstWhite_3 : decode cX1_firstWhite 3 = .ok (.iload_n 1, 1) := by decide +kernel
theorem dX1_firstWhite_4 : decode cX1_firstWhite 4 = .ok (.if_icmp .gt 19, 3) := by decide +kernel
theorem dX1_firstWhite_7 : decode cX1_firstWhite 7 = .ok (.aload_n 0, 1) := by decide +kernel
theorem dX1_firstWhite_8 : decode cX1_firstWhite 8 = .ok (.iload_n 2, 1) := by decide +kernel
theorem dX1_firstWhite_9 : decode cX1_firstWhite 9 = .ok (.invokevirtual 41, 3) := by decide +kernel
theorem dX1_firstWhite_12 : decode cX1_firstWhite 12 = .ok (.ifCond .ne 5, 3) := by decide +kernel
theorem dX1_firstWhite_15 : decode cX1_firstWhite 15 = .ok (.iload_n 2, 1) := by decide +kernel
theorem dX1_firstWhite_16 : decode cX1_firstWhite 16 = .ok (.ireturn, 1) := by decide +kernel
theorem dX1_firstWhite_17 : decode cX1_firstWhite 17 = .ok (.iinc 2 1, 3) := by decide +kernel
theorem dX1_firstWhite_20 : decode cX1_firstWhite 20 = .ok (.goto (-18), 3) := by decide +kernel
theorem dX1_firstWhite_23 : decode cX1_firstWhite 23 = .ok (.iconst (-1), 1) := by decide +kernel
theorem dX1_firstWhite_24 : decode cX1_firstWhite 24 = .ok (.ireturn, 1) := by decide +kernel
theorem dX1_mostBelievedKind_0 : decode cX1_mostBelievedKind 0 = .ok (.iconst 0, 1) := by decide +kernel
theorem dX1_mostBelievedKind_1 : decode cX1_mostBelievedKind 1 = .ok (.istore_n 3, 1) := by decide +kernel
theorem dX1_mostBelievedKind_2 : decode cX1_mostBelievedKind 2 = .ok (.iconst (-1), 1) := by decide +kernel
theorem dX1_mostBelievedKind_3 : decode cX1_mostBelievedKind 3 = .ok (.istore 4, 2) := by decide +kernel
theorem dX1_mostBelievedKind_5 : decode cX1_mostBelievedKind 5 = .ok (.iconst 0, 1) := by decide +kernel
theorem dX1_mostBelievedKind_6 : decode cX1_mostBelievedKind 6 = .ok (.istore 5, 2) := by decide +kernel
theorem dX1_mostBelievedKind_8 : decode cX1_mostBelievedKind 8 = .ok (.iload 5, 2) := by decide +kernel
theorem dX1_mostBelievedKind_10 : decode cX1_mostBelievedKind 10 = .ok (.bipush 6, 2) := by decide +kernel
theorem dX1_mostBelievedKind_12 : decode cX1_mostBelievedKind 12 = .ok (.if_icmp .ge 37, 3) := by decide +kernel
theorem dX1_mostBelievedKind_15 : decode cX1_mostBelievedKind 15 = .ok (.aload_n 0, 1) := by decide +kernel
theorem dX1_mostBelievedKind_16 : decode cX1_mostBelievedKind 16 = .ok (.iload 5, 2) := by decide +kernel
theorem dX1_mostBelievedKind_18 : decode cX1_mostBelievedKind 18 = .ok (.aload_n 0, 1) := by decide +kernel
theorem dX1_mostBelievedKind_19 : decode cX1_mostBelievedKind 19 = .ok (.getfield 19, 3) := by decide +kernel
theorem dX1_mostBelievedKind_22 : decode cX1_mostBelievedKind 22 = .ok (.iload_n 1, 1) := by decide +kernel
theorem dX1_mostBelievedKind_23 : decode cX1_mostBelievedKind 23 = .ok (.iload_n 2, 1) := by decide +kernel
theorem dX1_mostBelievedKind_24 : decode cX1_mostBelievedKind 24 = .ok (.invokevirtual 34, 3) := by decide +kernel
theorem dX1_mostBelievedKind_27 : decode cX1_mostBelievedKind 27 = .ok (.istore 6, 2) := by decide +kernel
theorem dX1_mostBelievedKind_29 : decode cX1_mostBelievedKind 29 = .ok (.iload 6, 2) := by decide +kernel
theorem dX1_mostBelievedKind_31 : decode cX1_mostBelievedKind 31 = .ok (.iload 4, 2) := by decide +kernel
theorem dX1_mostBelievedKind_33 : decode cX1_mostBelievedKind 33 = .ok (.if_icmp .le 10, 3) := by decide +kernel
theorem dX1_mostBelievedKind_36 : decode cX1_mostBelievedKind 36 = .ok (.iload 5, 2) := by decide +kernel
theorem dX1_mostBelievedKind_38 : decode cX1_mostBelievedKind 38 = .ok (.istore_n 3, 1) := by decide +kernel
theorem dX1_mostBelievedKind_39 : decode cX1_mostBelievedKind 39 = .ok (.iload 6, 2) := by decide +kernel
theorem dX1_mostBelievedKind_41 : decode cX1_mostBelievedKind 41 = .ok (.istore 4, 2) := by decide +kernel
theorem dX1_mostBelievedKind_43 : decode cX1_mostBelievedKind 43 = .ok (.iinc 5 1, 3) := by decide +kernel
theorem dX1_mostBelievedKind_46 : decode cX1_mostBelievedKind 46 = .ok (.goto (-38), 3) := by decide +kernel
theorem dX1_mostBelievedKind_49 : decode cX1_mostBelievedKind 49 = .ok (.iload_n 3, 1) := by decide +kernel
theorem dX1_mostBelievedKind_50 : decode cX1_mostBelievedKind 50 = .ok (.ireturn, 1) := by decide +kernel
theorem dX1_waysToFadeAs_0 : decode cX1_waysToFadeAs 0 = .ok (.iconst 0, 1) := by decide +kernel
theorem dX1_waysToFadeAs_1 : decode cX1_waysToFadeAs 1 = .ok (.istore_n 2, 1) := by decide +kernel
theorem dX1_waysToFadeAs_2 : decode cX1_waysToFadeAs 2 = .ok (.iconst 0, 1) := by decide +kernel
theorem dX1_waysToFadeAs_3 : decode cX1_waysToFadeAs 3 = .ok (.istore_n 3, 1) := by decide +kernel
theorem dX1_waysToFadeAs_4 : decode cX1_waysToFadeAs 4 = .ok (.iload_n 3, 1) := by decide +kernel
theorem dX1_waysToFadeAs_5 : decode cX1_waysToFadeAs 5 = .ok (.bipush 6, 2) := by decide +kernel
theorem dX1_waysToFadeAs_7 : decode cX1_waysToFadeAs 7 = .ok (.if_icmp .ge 53, 3) := by decide +kernel
theorem dX1_waysToFadeAs_10 : decode cX1_waysToFadeAs 10 = .ok (.iload_n 3, 1) := by decide +kernel
theorem dX1_waysToFadeAs_11 : decode cX1_waysToFadeAs 11 = .ok (.aload_n 0, 1) := by decide +kernel
theorem dX1_waysToFadeAs_12 : decode cX1_waysToFadeAs 12 = .ok (.getfield 19, 3) := by decide +kernel
theorem dX1_waysToFadeAs_15 : decode cX1_waysToFadeAs 15 = .ok (.aload_n 0, 1) := by decide +kernel
theorem dX1_waysToFadeAs_16 : decode cX1_waysToFadeAs 16 = .ok (.getfield 22, 3) := by decide +kernel
theorem dX1_waysToFadeAs_19 : decode cX1_waysToFadeAs 19 = .ok (.invokestatic 25, 3) := by decide +kernel
theorem dX1_waysToFadeAs_22 : decode cX1_waysToFadeAs 22 = .ok (.istore 4, 2) := by decide +kernel
theorem dX1_waysToFadeAs_24 : decode cX1_waysToFadeAs 24 = .ok (.iconst 0, 1) := by decide +kernel
theorem dX1_waysToFadeAs_25 : decode cX1_waysToFadeAs 25 = .ok (.istore 5, 2) := by decide +kernel
theorem dX1_waysToFadeAs_27 : decode cX1_waysToFadeAs 27 = .ok (.iload 5, 2) := by decide +kernel
theorem dX1_waysToFadeAs_29 : decode cX1_waysToFadeAs 29 = .ok (.bipush 99, 2) := by decide +kernel
theorem dX1_waysToFadeAs_31 : decode cX1_waysToFadeAs 31 = .ok (.if_icmp .gt 23, 3) := by decide +kernel
theorem dX1_waysToFadeAs_34 : decode cX1_waysToFadeAs 34 = .ok (.aload_n 1, 1) := by decide +kernel
theorem dX1_waysToFadeAs_35 : decode cX1_waysToFadeAs 35 = .ok (.iload 5, 2) := by decide +kernel
theorem dX1_waysToFadeAs_37 : decode cX1_waysToFadeAs 37 = .ok (.iload 4, 2) := by decide +kernel
theorem dX1_waysToFadeAs_39 : decode cX1_waysToFadeAs 39 = .ok (.invokestatic 45, 3) := by decide +kernel
theorem dX1_waysToFadeAs_42 : decode cX1_waysToFadeAs 42 = .ok (.ifCond .eq 6, 3) := by decide +kernel
theorem dX1_waysToFadeAs_45 : decode cX1_waysToFadeAs 45 = .ok (.iinc 2 1, 3) := by decide +kernel
theorem dX1_waysToFadeAs_48 : decode cX1_waysToFadeAs 48 = .ok (.iinc 5 1, 3) := by decide +kernel
theorem dX1_waysToFadeAs_51 : decode cX1_waysToFadeAs 51 = .ok (.goto (-24), 3) := by decide +kernel
theorem dX1_waysToFadeAs_54 : decode cX1_waysToFadeAs 54 = .ok (.iinc 3 1, 3) := by decide +kernel
theorem dX1_waysToFadeAs_57 : decode cX1_waysToFadeAs 57 = .ok (.goto (-53), 3) := by decide +kernel
theorem dX1_waysToFadeAs_60 : decode cX1_waysToFadeAs 60 = .ok (.iload_n 2, 1) := by decide +kernel
theorem dX1_waysToFadeAs_61 : decode cX1_waysToFadeAs 61 = .ok (.ireturn, 1) := by decide +kernel
theorem dX1_tells_0 : decode cX1_tells 0 = .ok (.iconst 0, 1) := by decide +kernel
theorem dX1_tells_1 : decode cX1_tells 1 = .ok (.istore_n 3, 1) := by decide +kernel
theorem dX1_tells_2 : decode cX1_tells 2 = .ok (.iload_n 3, 1) := by decide +kernel
theorem dX1_tells_3 : decode cX1_tells 3 = .ok (.aload_n 0, 1) := by decide +kernel
theorem dX1_tells_4 : decode cX1_tells 4 = .ok (.getfield 49, 3) := by decide +kernel
theorem dX1_tells_7 : decode cX1_tells 7 = .ok (.if_icmp .ge 28, 3) := by decide +kernel
theorem dX1_tells_10 : decode cX1_tells 10 = .ok (.aload_n 0, 1) := by decide +kernel
theorem dX1_tells_11 : decode cX1_tells 11 = .ok (.getfield 54, 3) := by decide +kernel
theorem dX1_tells_14 : decode cX1_tells 14 = .ok (.iload_n 3, 1) := by decide +kernel
theorem dX1_tells_15 : decode cX1_tells 15 = .ok (.laload, 1) := by decide +kernel
theorem dX1_tells_16 : decode cX1_tells 16 = .ok (.iload_n 1, 1) := by decide +kernel
theorem dX1_tells_17 : decode cX1_tells 17 = .ok (.iload_n 2, 1) := by decide +kernel
theorem dX1_tells_18 : decode cX1_tells 18 = .ok (.iload_n 3, 1) := by decide +kernel
theorem dX1_tells_19 : decode cX1_tells 19 = .ok (.invokestatic 31, 3) := by decide +kernel
theorem dX1_tells_22 : decode cX1_tells 22 = .ok (.i2l, 1) := by decide +kernel
theorem dX1_tells_23 : decode cX1_tells 23 = .ok (.lcmp, 1) := by decide +kernel
theorem dX1_tells_24 : decode cX1_tells 24 = .ok (.ifCond .eq 5, 3) := by decide +kernel
theorem dX1_tells_27 : decode cX1_tells 27 = .ok (.iconst 0, 1) := by decide +kernel
theorem dX1_tells_28 : decode cX1_tells 28 = .ok (.ireturn, 1) := by decide +kernel
theorem dX1_tells_29 : decode cX1_tells 29 = .ok (.iinc 3 1, 3) := by decide +kernel
theorem dX1_tells_32 : decode cX1_tells 32 = .ok (.goto (-30), 3) := by decide +kernel
theorem dX1_tells_35 : decode cX1_tells 35 = .ok (.iconst 1, 1) := by decide +kernel
theorem dX1_tells_36 : decode cX1_tells 36 = .ok (.ireturn, 1) := by decide +kernel
theorem dX1_faded_0 : decode cX1_faded 0 = .ok (.iconst 0, 1) := by decide +kernel
theorem dX1_faded_1 : decode cX1_faded 1 = .ok (.iload_n 0, 1) := by decide +kernel
theorem dX1_faded_2 : decode cX1_faded 2 = .ok (.iload_n 2, 1) := by decide +kernel
theorem dX1_faded_3 : decode cX1_faded 3 = .ok (.iload_n 1, 1) := by decide +kernel
theorem dX1_faded_4 : decode cX1_faded 4 = .ok (.imul, 1) := by decide +kernel
theorem dX1_faded_5 : decode cX1_faded 5 = .ok (.isub, 1) := by decide +kernel
theorem dX1_faded_6 : decode cX1_faded 6 = .ok (.invokestatic 58, 3) := by decide +kernel
theorem dX1_faded_9 : decode cX1_faded 9 = .ok (.ireturn, 1) := by decide +kernel
theorem dX2_init_0 : decode cX2_init 0 = .ok (.aload_n 0, 1) := by decide +kernel
theorem dX2_init_1 : decode cX2_init 1 = .ok (.invokespecial 1, 3) := by decide +kernel
theorem dX2_init_4 : decode cX2_init 4 = .ok (.aload_n 0, 1) := by decide +kernel
theorem dX2_init_5 : decode cX2_init 5 = .ok (.iconst 0, 1) := by decide +kernel
theorem dX2_init_6 : decode cX2_init 6 = .ok (.putfield 7, 3) := by decide +kernel
theorem dX2_init_9 : decode cX2_init 9 = .ok (.aload_n 0, 1) := by decide +kernel
theorem dX2_init_10 : decode cX2_init 10 = .ok (.iconst 3, 1) := by decide +kernel
theorem dX2_init_11 : decode cX2_init 11 = .ok (.putfield 13, 3) := by decide +kernel
theorem dX2_init_14 : decode cX2_init 14 = .ok (.aload_n 0, 1) := by decide +kernel
theorem dX2_init_15 : decode cX2_init 15 = .ok (.iconst 0, 1) := by decide +kernel
theorem dX2_init_16 : decode cX2_init 16 = .ok (.putfield 16, 3) := by decide +kernel
theorem dX2_init_19 : decode cX2_init 19 = .ok (.aload_n 0, 1) := by decide +kernel
theorem dX2_init_20 : decode cX2_init 20 = .ok (.iconst 5, 1) := by decide +kernel
theorem dX2_init_21 : decode cX2_init 21 = .ok (.putfield 19, 3) := by decide +kernel
theorem dX2_init_24 : decode cX2_init 24 = .ok (.aload_n 0, 1) := by decide +kernel
theorem dX2_init_25 : decode cX2_init 25 = .ok (.iconst 5, 1) := by decide +kernel
theorem dX2_init_26 : decode cX2_init 26 = .ok (.putfield 22, 3) := by decide +kernel
theorem dX2_init_29 : decode cX2_init 29 = .ok (.aload_n 0, 1) := by decide +kernel
theorem dX2_init_30 : decode cX2_init 30 = .ok (.iconst 0, 1) := by decide +kernel
theorem dX2_init_31 : decode cX2_init 31 = .ok (.putfield 25, 3) := by decide +kernel
theorem dX2_init_34 : decode cX2_init 34 = .ok (.aload_n 0, 1) := by decide +kernel
theorem dX2_init_35 : decode cX2_init 35 = .ok (.bipush 12, 2) := by decide +kernel
theorem dX2_init_37 : decode cX2_init 37 = .ok (.newarray .int, 2) := by decide +kernel
theorem dX2_init_39 : decode cX2_init 39 = .ok (.putfield 28, 3) := by decide +kernel
theorem dX2_init_42 : decode cX2_init 42 = .ok (.aload_n 0, 1) := by decide +kernel
theorem dX2_init_43 : decode cX2_init 43 = .ok (.bipush 8, 2) := by decide +kernel
theorem dX2_init_45 : decode cX2_init 45 = .ok (.anewarray 32, 3) := by decide +kernel
theorem dX2_init_48 : decode cX2_init 48 = .ok (.putfield 34, 3) := by decide +kernel
theorem dX2_init_51 : decode cX2_init 51 = .ok (.aload_n 0, 1) := by decide +kernel
theorem dX2_init_52 : decode cX2_init 52 = .ok (.bipush 8, 2) := by decide +kernel
theorem dX2_init_54 : decode cX2_init 54 = .ok (.newarray .int, 2) := by decide +kernel
theorem dX2_init_56 : decode cX2_init 56 = .ok (.putfield 38, 3) := by decide +kernel
theorem dX2_init_59 : decode cX2_init 59 = .ok (.iconst 0, 1) := by decide +kernel
theorem dX2_init_60 : decode cX2_init 60 = .ok (.istore_n 1, 1) := by decide +kernel
theorem dX2_init_61 : decode cX2_init 61 = .ok (.iload_n 1, 1) := by decide +kernel
theorem dX2_init_62 : decode cX2_init 62 = .ok (.bipush 12, 2) := by decide +kernel
theorem dX2_init_64 : decode cX2_init 64 = .ok (.if_icmp .ge 23, 3) := by decide +kernel
theorem dX2_init_67 : decode cX2_init 67 = .ok (.aload_n 0, 1) := by decide +kernel
theorem dX2_init_68 : decode cX2_init 68 = .ok (.getfield 28, 3) := by decide +kernel
theorem dX2_init_71 : decode cX2_init 71 = .ok (.iload_n 1, 1) := by decide +kernel
theorem dX2_init_72 : decode cX2_init 72 = .ok (.iconst 4, 1) := by decide +kernel
theorem dX2_init_73 : decode cX2_init 73 = .ok (.iconst 5, 1) := by decide +kernel
theorem dX2_init_74 : decode cX2_init 74 = .ok (.iload_n 1, 1) := by decide +kernel
theorem dX2_init_75 : decode cX2_init 75 = .ok (.imul, 1) := by decide +kernel
theorem dX2_init_76 : decode cX2_init 76 = .ok (.bipush 13, 2) := by decide +kernel
theorem dX2_init_78 : decode cX2_init 78 = .ok (.irem, 1) := by decide +kernel
theorem dX2_init_79 : decode cX2_init 79 = .ok (.iadd, 1) := by decide +kernel
theorem dX2_init_80 : decode cX2_init 80 = .ok (.iastore, 1) := by decide +kernel
theorem dX2_init_81 : decode cX2_init 81 = .ok (.iinc 1 1, 3) := by decide +kernel
theorem dX2_init_84 : decode cX2_init 84 = .ok (.goto (-23), 3) := by decide +kernel
theorem dX2_init_87 : decode cX2_init 87 = .ok (.iconst 0, 1) := by decide +kernel
theorem dX2_init_88 : decode cX2_init 88 = .ok (.istore_n 1, 1) := by decide +kernel
theorem dX2_init_89 : decode cX2_init 89 = .ok (.iload_n 1, 1) := by decide +kernel
theorem dX2_init_90 : decode cX2_init 90 = .ok (.bipush 8, 2) := by decide +kernel
theorem dX2_init_92 : decode cX2_init 92 = .ok (.if_icmp .ge 22, 3) := by decide +kernel
theorem dX2_init_95 : decode cX2_init 95 = .ok (.aload_n 0, 1) := by decide +kernel
theorem dX2_init_96 : decode cX2_init 96 = .ok (.getfield 34, 3) := by decide +kernel
theorem dX2_init_99 : decode cX2_init 99 = .ok (.iload_n 1, 1) := by decide +kernel
theorem dX2_init_100 : decode cX2_init 100 = .ok (.new 32, 3) := by decide +kernel
theorem dX2_init_103 : decode cX2_init 103 = .ok (.dup, 1) := by decide +kernel
theorem dX2_init_104 : decode cX2_init 104 = .ok (.invokespecial 41, 3) := by decide +kernel
theorem dX2_init_107 : decode cX2_init 107 = .ok (.aastore, 1) := by decide +kernel
theorem dX2_init_108 : decode cX2_init 108 = .ok (.iinc 1 1, 3) := by decide +kernel
theorem dX2_init_111 : decode cX2_init 111 = .ok (.goto (-22), 3) := by decide +kernel
theorem dX2_init_114 : decode cX2_init 114 = .ok (.return_, 1) := by decide +kernel
theorem dX2_become_0 : decode cX2_become 0 = .ok (.aload_n 0, 1) := by decide +kernel
theorem dX2_become_1 : decode cX2_become 1 = .ok (.aload_n 1, 1) := by decide +kernel
theorem dX2_become_2 : decode cX2_become 2 = .ok (.getfield 7, 3) := by decide +kernel
theorem dX2_become_5 : decode cX2_become 5 = .ok (.putfield 7, 3) := by decide +kernel
theorem dX2_become_8 : decode cX2_become 8 = .ok (.aload_n 0, 1) := by decide +kernel
theorem dX2_become_9 : decode cX2_become 9 = .ok (.aload_n 1, 1) := by decide +kernel
theorem dX2_become_10 : decode cX2_become 10 = .ok (.getfield 13, 3) := by decide +kernel
theorem dX2_become_13 : decode cX2_become 13 = .ok (.putfield 13, 3) := by decide +kernel
theorem dX2_become_16 : decode cX2_become 16 = .ok (.aload_n 0, 1) := by decide +kernel
theorem dX2_become_17 : decode cX2_become 17 = .ok (.aload_n 1, 1) := by decide +kernel
theorem dX2_become_18 : decode cX2_become 18 = .ok (.getfield 16, 3) := by decide +kernel
theorem dX2_become_21 : decode cX2_become 21 = .ok (.putfield 16, 3) := by decide +kernel
theorem dX2_become_24 : decode cX2_become 24 = .ok (.aload_n 0, 1) := by decide +kernel
theorem dX2_become_25 : decode cX2_become 25 = .ok (.aload_n 1, 1) := by decide +kernel
theorem dX2_become_26 : decode cX2_become 26 = .ok (.getfield 19, 3) := by decide +kernel
theorem dX2_become_29 : decode cX2_become 29 = .ok (.putfield 19, 3) := by decide +kernel
theorem dX2_become_32 : decode cX2_become 32 = .ok (.aload_n 0, 1) := by decide +kernel
theorem dX2_become_33 : decode cX2_become 33 = .ok (.aload_n 1, 1) := by decide +kernel
theorem dX2_become_34 : decode cX2_become 34 = .ok (.getfield 22, 3) := by decide +kernel
theorem dX2_become_37 : decode cX2_become 37 = .ok (.putfield 22, 3) := by decide +kernel
theorem dX2_become_40 : decode cX2_become 40 = .ok (.aload_n 0, 1) := by decide +kernel
theorem dX2_become_41 : decode cX2_become 41 = .ok (.aload_n 1, 1) := by decide +kernel
theorem dX2_become_42 : decode cX2_become 42 = .ok (.getfield 25, 3) := by decide +kernel
theorem dX2_become_45 : decode cX2_become 45 = .ok (.putfield 25, 3) := by decide +kernel
theorem dX2_become_48 : decode cX2_become 48 = .ok (.aload_n 1, 1) := by decide +kernel
theorem dX2_become_49 : decode cX2_become 49 = .ok (.getfield 28, 3) := by decide +kernel
theorem dX2_become_52 : decode cX2_become 52 = .ok (.iconst 0, 1) := by decide +kernel
theorem dX2_become_53 : decode cX2_become 53 = .ok (.aload_n 0, 1) := by decide +kernel
theorem dX2_become_54 : decode cX2_become 54 = .ok (.getfield 28, 3) := by decide +kernel
theorem dX2_become_57 : decode cX2_become 57 = .ok (.iconst 0, 1) := by decide +kernel
theorem dX2_become_58 : decode cX2_become 58 = .ok (.bipush 12, 2) := by decide +kernel
theorem dX2_become_60 : decode cX2_become 60 = .ok (.invokestatic 42, 3) := by decide +kernel
theorem dX2_become_63 : decode cX2_become 63 = .ok (.iconst 0, 1) := by decide +kernel
theorem dX2_become_64 : decode cX2_become 64 = .ok (.istore_n 2, 1) := by decide +kernel
theorem dX2_become_65 : decode cX2_become 65 = .ok (.iload_n 2, 1) := by decide +kernel
theorem dX2_become_66 : decode cX2_become 66 = .ok (.bipush 8, 2) := by decide +kernel
theorem dX2_become_68 : decode cX2_become 68 = .ok (.if_icmp .ge 24, 3) := by decide +kernel
theorem dX2_become_71 : decode cX2_become 71 = .ok (.aload_n 0, 1) := by decide +kernel
theorem dX2_become_72 : decode cX2_become 72 = .ok (.getfield 34, 3) := by decide +kernel
theorem dX2_become_75 : decode cX2_become 75 = .ok (.iload_n 2, 1) := by decide +kernel
theorem dX2_become_76 : decode cX2_become 76 = .ok (.aaload, 1) := by decide +kernel
theorem dX2_become_77 : decode cX2_become 77 = .ok (.aload_n 1, 1) := by decide +kernel
theorem dX2_become_78 : decode cX2_become 78 = .ok (.getfield 34, 3) := by decide +kernel
theorem dX2_become_81 : decode cX2_become 81 = .ok (.iload_n 2, 1) := by decide +kernel
theorem dX2_become_82 : decode cX2_become 82 = .ok (.aaload, 1) := by decide +kernel
theorem dX2_become_83 : decode cX2_become 83 = .ok (.invokevirtual 48, 3) := by decide +kernel
theorem dX2_become_86 : decode cX2_become 86 = .ok (.iinc 2 1, 3) := by decide +kernel
theorem dX2_become_89 : decode cX2_become 89 = .ok (.goto (-24), 3) := by decide +kernel
theorem dX2_become_92 : decode cX2_become 92 = .ok (.return_, 1) := by decide +kernel
theorem dX2_mostInJar_0 : decode cX2_mostInJar 0 = .ok (.iload_n 0, 1) := by decide +kernel
theorem dX2_mostInJar_1 : decode cX2_mostInJar 1 = .ok (.tableswitch 44 0 3 #[31, 34, 37, 41], 31) := by decide +kernel
theorem dX2_mostInJar_32 : decode cX2_mostInJar 32 = .ok (.bipush 9, 2) := by decide +kernel
theorem dX2_mostInJar_34 : decode cX2_mostInJar 34 = .ok (.ireturn, 1) := by decide +kernel
theorem dX2_mostInJar_35 : decode cX2_mostInJar 35 = .ok (.bipush 8, 2) := by decide +kernel
theorem dX2_mostInJar_37 : decode cX2_mostInJar 37 = .ok (.ireturn, 1) := by decide +kernel
theorem dX2_mostInJar_38 : decode cX2_mostInJar 38 = .ok (.sipush 999, 3) := by decide +kernel
theorem dX2_mostInJar_41 : decode cX2_mostInJar 41 = .ok (.ireturn, 1) := by decide +kernel
theorem dX2_mostInJar_42 : decode cX2_mostInJar 42 = .ok (.bipush 9, 2) := by decide +kernel
theorem dX2_mostInJar_44 : decode cX2_mostInJar 44 = .ok (.ireturn, 1) := by decide +kernel
theorem dX2_mostInJar_45 : decode cX2_mostInJar 45 = .ok (.iconst (-1), 1) := by decide +kernel
theorem dX2_mostInJar_46 : decode cX2_mostInJar 46 = .ok (.ireturn, 1) := by decide +kernel
theorem dX2_jarHolds_0 : decode cX2_jarHolds 0 = .ok (.iload_n 1, 1) := by decide +kernel
theorem dX2_jarHolds_1 : decode cX2_jarHolds 1 = .ok (.tableswitch 42 0 2 #[27, 32, 37], 27) := by decide +kernel
theorem dX2_jarHolds_28 : decode cX2_jarHolds 28 = .ok (.aload_n 0, 1) := by decide +kernel
theorem dX2_jarHolds_29 : decode cX2_jarHolds 29 = .ok (.getfield 13, 3) := by decide +kernel
theorem dX2_jarHolds_32 : decode cX2_jarHolds 32 = .ok (.ireturn, 1) := by decide +kernel
theorem dX2_jarHolds_33 : decode cX2_jarHolds 33 = .ok (.aload_n 0, 1) := by decide +kernel
theorem dX2_jarHolds_34 : decode cX2_jarHolds 34 = .ok (.getfield 16, 3) := by decide +kernel
theorem dX2_jarHolds_37 : decode cX2_jarHolds 37 = .ok (.ireturn, 1) := by decide +kernel
theorem dX2_jarHolds_38 : decode cX2_jarHolds 38 = .ok (.aload_n 0, 1) := by decide +kernel
theorem dX2_jarHolds_39 : decode cX2_jarHolds 39 = .ok (.getfield 19, 3) := by decide +kernel
theorem dX2_jarHolds_42 : decode cX2_jarHolds 42 = .ok (.ireturn, 1) := by decide +kernel
theorem dX2_jarHolds_43 : decode cX2_jarHolds 43 = .ok (.aload_n 0, 1) := by decide +kernel
theorem dX2_jarHolds_44 : decode cX2_jarHolds 44 = .ok (.getfield 22, 3) := by decide +kernel
theorem dX2_jarHolds_47 : decode cX2_jarHolds 47 = .ok (.ireturn, 1) := by decide +kernel
theorem dX2_fillJar_0 : decode cX2_fillJar 0 = .ok (.iload_n 1, 1) := by decide +kernel
theorem dX2_fillJar_1 : decode cX2_fillJar 1 = .ok (.tableswitch 51 0 2 #[27, 35, 43], 27) := by decide +kernel
theorem dX2_fillJar_28 : decode cX2_fillJar 28 = .ok (.aload_n 0, 1) := by decide +kernel
theorem dX2_fillJar_29 : decode cX2_fillJar 29 = .ok (.iload_n 2, 1) := by decide +kernel
theorem dX2_fillJar_30 : decode cX2_fillJar 30 = .ok (.putfield 13, 3) := by decide +kernel
theorem dX2_fillJar_33 : decode cX2_fillJar 33 = .ok (.goto 24, 3) := by decide +kernel
theorem dX2_fillJar_36 : decode cX2_fillJar 36 = .ok (.aload_n 0, 1) := by decide +kernel
theorem dX2_fillJar_37 : decode cX2_fillJar 37 = .ok (.iload_n 2, 1) := by decide +kernel
theorem dX2_fillJar_38 : decode cX2_fillJar 38 = .ok (.putfield 16, 3) := by decide +kernel
theorem dX2_fillJar_41 : decode cX2_fillJar 41 = .ok (.goto 16, 3) := by decide +kernel
theorem dX2_fillJar_44 : decode cX2_fillJar 44 = .ok (.aload_n 0, 1) := by decide +kernel
theorem dX2_fillJar_45 : decode cX2_fillJar 45 = .ok (.iload_n 2, 1) := by decide +kernel
theorem dX2_fillJar_46 : decode cX2_fillJar 46 = .ok (.putfield 19, 3) := by decide +kernel
theorem dX2_fillJar_49 : decode cX2_fillJar 49 = .ok (.goto 8, 3) := by decide +kernel
theorem dX2_fillJar_52 : decode cX2_fillJar 52 = .ok (.aload_n 0, 1) := by decide +kernel
theorem dX2_fillJar_53 : decode cX2_fillJar 53 = .ok (.iload_n 2, 1) := by decide +kernel
theorem dX2_fillJar_54 : decode cX2_fillJar 54 = .ok (.putfield 22, 3) := by decide +kernel
theorem dX2_fillJar_57 : decode cX2_fillJar 57 = .ok (.return_, 1) := by decide +kernel
theorem dX2_hasPage_0 : decode cX2_hasPage 0 = .ok (.iload_n 1, 1) := by decide +kernel
theorem dX2_hasPage_1 : decode cX2_hasPage 1 = .ok (.ifCond .lt 15, 3) := by decide +kernel
theorem dX2_hasPage_4 : decode cX2_hasPage 4 = .ok (.iload_n 1, 1) := by decide +kernel
theorem dX2_hasPage_5 : decode cX2_hasPage 5 = .ok (.aload_n 0, 1) := by decide +kernel
theorem dX2_hasPage_6 : decode cX2_hasPage 6 = .ok (.getfield 25, 3) := by decide +kernel
theorem dX2_hasPage_9 : decode cX2_hasPage 9 = .ok (.if_icmp .ge 7, 3) := by decide +kernel
theorem dX2_hasPage_12 : decode cX2_hasPage 12 = .ok (.iconst 1, 1) := by decide +kernel
theorem dX2_hasPage_13 : decode cX2_hasPage 13 = .ok (.goto 4, 3) := by decide +kernel
theorem dX2_hasPage_16 : decode cX2_hasPage 16 = .ok (.iconst 0, 1) := by decide +kernel
theorem dX2_hasPage_17 : decode cX2_hasPage 17 = .ok (.ireturn, 1) := by decide +kernel
theorem dX2_isFull_0 : decode cX2_isFull 0 = .ok (.aload_n 0, 1) := by decide +kernel
theorem dX2_isFull_1 : decode cX2_isFull 1 = .ok (.getfield 25, 3) := by decide +kernel
theorem dX2_isFull_4 : decode cX2_isFull 4 = .ok (.bipush 8, 2) := by decide +kernel
theorem dX2_isFull_6 : decode cX2_isFull 6 = .ok (.if_icmp .lt 7, 3) := by decide +kernel
theorem dX2_isFull_9 : decode cX2_isFull 9 = .ok (.iconst 1, 1) := by decide +kernel
theorem dX2_isFull_10 : decode cX2_isFull 10 = .ok (.goto 4, 3) := by decide +kernel
theorem dX2_isFull_13 : decode cX2_isFull 13 = .ok (.iconst 0, 1) := by decide +kernel
theorem dX2_isFull_14 : decode cX2_isFull 14 = .ok (.ireturn, 1) := by decide +kernel
theorem dX2_hasInkFor_0 : decode cX2_hasInkFor 0 = .ok (.aload_n 0, 1) := by decide +kernel
theorem dX2_hasInkFor_1 : decode cX2_hasInkFor 1 = .ok (.getfield 19, 3) := by decide +kernel
theorem dX2_hasInkFor_4 : decode cX2_hasInkFor 4 = .ok (.iload_n 1, 1) := by decide +kernel
theorem dX2_hasInkFor_5 : decode cX2_hasInkFor 5 = .ok (.iload_n 2, 1) := by decide +kernel
theorem dX2_hasInkFor_6 : decode cX2_hasInkFor 6 = .ok (.invokestatic 52, 3) := by decide +kernel
theorem dX2_hasInkFor_9 : decode cX2_hasInkFor 9 = .ok (.if_icmp .lt 7, 3) := by decide +kernel
theorem dX2_hasInkFor_12 : decode cX2_hasInkFor 12 = .ok (.iconst 1, 1) := by decide +kernel
theorem dX2_hasInkFor_13 : decode cX2_hasInkFor 13 = .ok (.goto 4, 3) := by decide +kernel
theorem dX2_hasInkFor_16 : decode cX2_hasInkFor 16 = .ok (.iconst 0, 1) := by decide +kernel
theorem dX2_hasInkFor_17 : decode cX2_hasInkFor 17 = .ok (.ireturn, 1) := by decide +kernel
theorem dX2_addPage_0 : decode cX2_addPage 0 = .ok (.aload_n 0, 1) := by decide +kernel
theorem dX2_addPage_1 : decode cX2_addPage 1 = .ok (.invokevirtual 58, 3) := by decide +kernel
theorem dX2_addPage_4 : decode cX2_addPage 4 = .ok (.ifCond .eq 5, 3) := by decide +kernel
theorem dX2_addPage_7 : decode cX2_addPage 7 = .ok (.iconst (-1), 1) := by decide +kernel
theorem dX2_addPage_8 : decode cX2_addPage 8 = .ok (.ireturn, 1) := by decide +kernel
theorem dX2_addPage_9 : decode cX2_addPage 9 = .ok (.aload_n 0, 1) := by decide +kernel
theorem dX2_addPage_10 : decode cX2_addPage 10 = .ok (.getfield 34, 3) := by decide +kernel
theorem dX2_addPage_13 : decode cX2_addPage 13 = .ok (.aload_n 0, 1) := by decide +kernel
theorem dX2_addPage_14 : decode cX2_addPage 14 = .ok (.getfield 25, 3) := by decide +kernel
theorem dX2_addPage_17 : decode cX2_addPage 17 = .ok (.aaload, 1) := by decide +kernel
theorem dX2_addPage_18 : decode cX2_addPage 18 = .ok (.astore_n 3, 1) := by decide +kernel
theorem dX2_addPage_19 : decode cX2_addPage 19 = .ok (.aload_n 3, 1) := by decide +kernel
theorem dX2_addPage_20 : decode cX2_addPage 20 = .ok (.iload_n 1, 1) := by decide +kernel
theorem dX2_addPage_21 : decode cX2_addPage 21 = .ok (.putfield 62, 3) := by decide +kernel
theorem dX2_addPage_24 : decode cX2_addPage 24 = .ok (.aload_n 3, 1) := by decide +kernel
theorem dX2_addPage_25 : decode cX2_addPage 25 = .ok (.iload_n 2, 1) := by decide +kernel
theorem dX2_addPage_26 : decode cX2_addPage 26 = .ok (.putfield 65, 3) := by decide +kernel
theorem dX2_addPage_29 : decode cX2_addPage 29 = .ok (.aload_n 3, 1) := by decide +kernel
theorem dX2_addPage_30 : decode cX2_addPage 30 = .ok (.iconst 0, 1) := by decide +kernel
theorem dX2_addPage_31 : decode cX2_addPage 31 = .ok (.putfield 68, 3) := by decide +kernel
theorem dX2_addPage_34 : decode cX2_addPage 34 = .ok (.aload_n 0, 1) := by decide +kernel
theorem dX2_addPage_35 : decode cX2_addPage 35 = .ok (.aload_n 3, 1) := by decide +kernel
theorem dX2_addPage_36 : decode cX2_addPage 36 = .ok (.invokevirtual 71, 3) := by decide +kernel
theorem dX2_addPage_39 : decode cX2_addPage 39 = .ok (.aload_n 0, 1) := by decide +kernel
theorem dX2_addPage_40 : decode cX2_addPage 40 = .ok (.dup, 1) := by decide +kernel
theorem dX2_addPage_41 : decode cX2_addPage 41 = .ok (.getfield 25, 3) := by decide +kernel
theorem dX2_addPage_44 : decode cX2_addPage 44 = .ok (.iconst 1, 1) := by decide +kernel
theorem dX2_addPage_45 : decode cX2_addPage 45 = .ok (.iadd, 1) := by decide +kernel
theorem dX2_addPage_46 : decode cX2_addPage 46 = .ok (.putfield 25, 3) := by decide +kernel
theorem dX2_addPage_49 : decode cX2_addPage 49 = .ok (.aload_n 0, 1) := by decide +kernel
theorem dX2_addPage_50 : decode cX2_addPage 50 = .ok (.getfield 25, 3) := by decide +kernel
theorem dX2_addPage_53 : decode cX2_addPage 53 = .ok (.iconst 1, 1) := by decide +kernel
theorem dX2_addPage_54 : decode cX2_addPage 54 = .ok (.isub, 1) := by decide +kernel
theorem dX2_addPage_55 : decode cX2_addPage 55 = .ok (.ireturn, 1) := by decide +kernel
theorem dX2_spendInkOn_0 : decode cX2_spendInkOn 0 = .ok (.aload_n 0, 1) := by decide +kernel
theorem dX2_spendInkOn_1 : decode cX2_spendInkOn 1 = .ok (.dup, 1) := by decide +kernel
theorem dX2_spendInkOn_2 : decode cX2_spendInkOn 2 = .ok (.getfield 19, 3) := by decide +kernel
theorem dX2_spendInkOn_5 : decode cX2_spendInkOn 5 = .ok (.aload_n 1, 1) := by decide +kernel
theorem dX2_spendInkOn_6 : decode cX2_spendInkOn 6 = .ok (.getfield 62, 3) := by decide +kernel
theorem dX2_spendInkOn_9 : decode cX2_spendInkOn 9 = .ok (.aload_n 1, 1) := by decide +kernel
theorem dX2_spendInkOn_10 : decode cX2_spendInkOn 10 = .ok (.getfield 65, 3) := by decide +kernel
theorem dX2_spendInkOn_13 : decode cX2_spendInkOn 13 = .ok (.invokestatic 52, 3) := by decide +kernel
theorem dX2_spendInkOn_16 : decode cX2_spendInkOn 16 = .ok (.isub, 1) := by decide +kernel
theorem dX2_spendInkOn_17 : decode cX2_spendInkOn 17 = .ok (.putfield 19, 3) := by decide +kernel
theorem dX2_spendInkOn_20 : decode cX2_spendInkOn 20 = .ok (.aload_n 1, 1) := by decide +kernel
theorem dX2_spendInkOn_21 : decode cX2_spendInkOn 21 = .ok (.aload_n 1, 1) := by decide +kernel
theorem dX2_spendInkOn_22 : decode cX2_spendInkOn 22 = .ok (.getfield 62, 3) := by decide +kernel
theorem dX2_spendInkOn_25 : decode cX2_spendInkOn 25 = .ok (.aload_n 0, 1) := by decide +kernel
theorem dX2_spendInkOn_26 : decode cX2_spendInkOn 26 = .ok (.iconst 0, 1) := by decide +kernel
theorem dX2_spendInkOn_27 : decode cX2_spendInkOn 27 = .ok (.invokevirtual 74, 3) := by decide +kernel
theorem dX2_spendInkOn_30 : decode cX2_spendInkOn 30 = .ok (.invokestatic 78, 3) := by decide +kernel
theorem dX2_spendInkOn_33 : decode cX2_spendInkOn 33 = .ok (.putfield 81, 3) := by decide +kernel
theorem dX2_spendInkOn_36 : decode cX2_spendInkOn 36 = .ok (.aload_n 1, 1) := by decide +kernel
theorem dX2_spendInkOn_37 : decode cX2_spendInkOn 37 = .ok (.iconst 0, 1) := by decide +kernel
theorem dX2_spendInkOn_38 : decode cX2_spendInkOn 38 = .ok (.putfield 84, 3) := by decide +kernel
theorem dX2_spendInkOn_41 : decode cX2_spendInkOn 41 = .ok (.return_, 1) := by decide +kernel
theorem dX2_darkOn_0 : decode cX2_darkOn 0 = .ok (.aload_n 0, 1) := by decide +kernel
theorem dX2_darkOn_1 : decode cX2_darkOn 1 = .ok (.getfield 28, 3) := by decide +kernel
theorem dX2_darkOn_4 : decode cX2_darkOn 4 = .ok (.aload_n 0, 1) := by decide +kernel
theorem dX2_darkOn_5 : decode cX2_darkOn 5 = .ok (.getfield 7, 3) := by decide +kernel
theorem dX2_darkOn_8 : decode cX2_darkOn 8 = .ok (.iload_n 1, 1) := by decide +kernel
theorem dX2_darkOn_9 : decode cX2_darkOn 9 = .ok (.iadd, 1) := by decide +kernel
theorem dX2_darkOn_10 : decode cX2_darkOn 10 = .ok (.bipush 12, 2) := by decide +kernel
theorem dX2_darkOn_12 : decode cX2_darkOn 12 = .ok (.invokestatic 87, 3) := by decide +kernel
theorem dX2_darkOn_15 : decode cX2_darkOn 15 = .ok (.iaload, 1) := by decide +kernel
theorem dX2_darkOn_16 : decode cX2_darkOn 16 = .ok (.ireturn, 1) := by decide +kernel
theorem dX2_darkTogether_0 : decode cX2_darkTogether 0 = .ok (.iconst 0, 1) := by decide +kernel
theorem dX2_darkTogether_1 : decode cX2_darkTogether 1 = .ok (.istore_n 2, 1) := by decide +kernel
theorem dX2_darkTogether_2 : decode cX2_darkTogether 2 = .ok (.iconst 0, 1) := by decide +kernel
theorem dX2_darkTogether_3 : decode cX2_darkTogether 3 = .ok (.istore_n 3, 1) := by decide +kernel
theorem dX2_darkTogether_4 : decode cX2_darkTogether 4 = .ok (.iload_n 3, 1) := by decide +kernel
theorem dX2_darkTogether_5 : decode cX2_darkTogether 5 = .ok (.iload_n 1, 1) := by decide +kernel
theorem dX2_darkTogether_6 : decode cX2_darkTogether 6 = .ok (.if_icmp .ge 17, 3) := by decide +kernel
theorem dX2_darkTogether_9 : decode cX2_darkTogether 9 = .ok (.iload_n 2, 1) := by decide +kernel
theorem dX2_darkTogether_10 : decode cX2_darkTogether 10 = .ok (.aload_n 0, 1) := by decide +kernel
theorem dX2_darkTogether_11 : decode cX2_darkTogether 11 = .ok (.iload_n 3, 1) := by decide +kernel
theorem dX2_darkTogether_12 : decode cX2_darkTogether 12 = .ok (.invokevirtual 74, 3) := by decide +kernel
theorem dX2_darkTogether_15 : decode cX2_darkTogether 15 = .ok (.iadd, 1) := by decide +kernel
theorem dX2_darkTogether_16 : decode cX2_darkTogether 16 = .ok (.istore_n 2, 1) := by decide +kernel
theorem dX2_darkTogether_17 : decode cX2_darkTogether 17 = .ok (.iinc 3 1, 3) := by decide +kernel
theorem dX2_darkTogether_20 : decode cX2_darkTogether 20 = .ok (.goto (-16), 3) := by decide +kernel
theorem dX2_darkTogether_23 : decode cX2_darkTogether 23 = .ok (.iload_n 2, 1) := by decide +kernel
theorem dX2_darkTogether_24 : decode cX2_darkTogether 24 = .ok (.ireturn, 1) := by decide +kernel
theorem dX2_inkWith_0 : decode cX2_inkWith 0 = .ok (.sipush 999, 3) := by decide +kernel
theorem dX2_inkWith_3 : decode cX2_inkWith 3 = .ok (.aload_n 0, 1) := by decide +kernel
theorem dX2_inkWith_4 : decode cX2_inkWith 4 = .ok (.getfield 19, 3) := by decide +kernel
theorem dX2_inkWith_7 : decode cX2_inkWith 7 = .ok (.iload_n 1, 1) := by decide +kernel
theorem dX2_inkWith_8 : decode cX2_inkWith 8 = .ok (.bipush 9, 2) := by decide +kernel
theorem dX2_inkWith_10 : decode cX2_inkWith 10 = .ok (.idiv, 1) := by decide +kernel
theorem dX2_inkWith_11 : decode cX2_inkWith 11 = .ok (.iadd, 1) := by decide +kernel
theorem dX2_inkWith_12 : decode cX2_inkWith 12 = .ok (.invokestatic 92, 3) := by decide +kernel
theorem dX2_inkWith_15 : decode cX2_inkWith 15 = .ok (.ireturn, 1) := by decide +kernel
theorem dX2_inkOn_0 : decode cX2_inkOn 0 = .ok (.aload_n 0, 1) := by decide +kernel
theorem dX2_inkOn_1 : decode cX2_inkOn 1 = .ok (.aload_n 0, 1) := by decide +kernel
theorem dX2_inkOn_2 : decode cX2_inkOn 2 = .ok (.getfield 16, 3) := by decide +kernel
theorem dX2_inkOn_5 : decode cX2_inkOn 5 = .ok (.iload_n 2, 1) := by decide +kernel
theorem dX2_inkOn_6 : decode cX2_inkOn 6 = .ok (.aload_n 0, 1) := by decide +kernel
theorem dX2_inkOn_7 : decode cX2_inkOn 7 = .ok (.iload_n 1, 1) := by decide +kernel
theorem dX2_inkOn_8 : decode cX2_inkOn 8 = .ok (.invokevirtual 95, 3) := by decide +kernel
theorem dX2_inkOn_11 : decode cX2_inkOn 11 = .ok (.imul, 1) := by decide +kernel
theorem dX2_inkOn_12 : decode cX2_inkOn 12 = .ok (.iadd, 1) := by decide +kernel
theorem dX2_inkOn_13 : decode cX2_inkOn 13 = .ok (.invokevirtual 98, 3) := by decide +kernel
theorem dX2_inkOn_16 : decode cX2_inkOn 16 = .ok (.ireturn, 1) := by decide +kernel
theorem dX2_letGo_0 : decode cX2_letGo 0 = .ok (.aload_n 0, 1) := by decide +kernel
theorem dX2_letGo_1 : decode cX2_letGo 1 = .ok (.getfield 16, 3) := by decide +kernel
theorem dX2_letGo_4 : decode cX2_letGo 4 = .ok (.aload_n 0, 1) := by decide +kernel
theorem dX2_letGo_5 : decode cX2_letGo 5 = .ok (.getfield 13, 3) := by decide +kernel
theorem dX2_letGo_8 : decode cX2_letGo 8 = .ok (.aload_n 0, 1) := by decide +kernel
theorem dX2_letGo_9 : decode cX2_letGo 9 = .ok (.iload_n 1, 1) := by decide +kernel
theorem dX2_letGo_10 : decode cX2_letGo 10 = .ok (.invokevirtual 95, 3) := by decide +kernel
theorem dX2_letGo_13 : decode cX2_letGo 13 = .ok (.imul, 1) := by decide +kernel
theorem dX2_letGo_14 : decode cX2_letGo 14 = .ok (.iadd, 1) := by decide +kernel
theorem dX2_letGo_15 : decode cX2_letGo 15 = .ok (.istore_n 2, 1) := by decide +kernel
theorem dX2_letGo_16 : decode cX2_letGo 16 = .ok (.aload_n 0, 1) := by decide +kernel
theorem dX2_letGo_17 : decode cX2_letGo 17 = .ok (.aload_n 0, 1) := by decide +kernel
theorem dX2_letGo_18 : decode cX2_letGo 18 = .ok (.iload_n 2, 1) := by decide +kernel
theorem dX2_letGo_19 : decode cX2_letGo 19 = .ok (.invokevirtual 98, 3) := by decide +kernel
theorem dX2_letGo_22 : decode cX2_letGo 22 = .ok (.putfield 19, 3) := by decide +kernel
theorem dX2_letGo_25 : decode cX2_letGo 25 = .ok (.aload_n 0, 1) := by decide +kernel
theorem dX2_letGo_26 : decode cX2_letGo 26 = .ok (.iload_n 2, 1) := by decide +kernel
theorem dX2_letGo_27 : decode cX2_letGo 27 = .ok (.bipush 9, 2) := by decide +kernel
theorem dX2_letGo_29 : decode cX2_letGo 29 = .ok (.irem, 1) := by decide +kernel
theorem dX2_letGo_30 : decode cX2_letGo 30 = .ok (.putfield 16, 3) := by decide +kernel
theorem dX2_letGo_33 : decode cX2_letGo 33 = .ok (.iconst 0, 1) := by decide +kernel
theorem dX2_letGo_34 : decode cX2_letGo 34 = .ok (.istore_n 3, 1) := by decide +kernel
theorem dX2_letGo_35 : decode cX2_letGo 35 = .ok (.iload_n 3, 1) := by decide +kernel
theorem dX2_letGo_36 : decode cX2_letGo 36 = .ok (.aload_n 0, 1) := by decide +kernel
theorem dX2_letGo_37 : decode cX2_letGo 37 = .ok (.getfield 25, 3) := by decide +kernel
theorem dX2_letGo_40 : decode cX2_letGo 40 = .ok (.if_icmp .ge 28, 3) := by decide +kernel
theorem dX2_letGo_43 : decode cX2_letGo 43 = .ok (.aload_n 0, 1) := by decide +kernel
theorem dX2_letGo_44 : decode cX2_letGo 44 = .ok (.getfield 34, 3) := by decide +kernel
theorem dX2_letGo_47 : decode cX2_letGo 47 = .ok (.iload_n 3, 1) := by decide +kernel
theorem dX2_letGo_48 : decode cX2_letGo 48 = .ok (.aaload, 1) := by decide +kernel
theorem dX2_letGo_49 : decode cX2_letGo 49 = .ok (.aload_n 0, 1) := by decide +kernel
theorem dX2_letGo_50 : decode cX2_letGo 50 = .ok (.getfield 34, 3) := by decide +kernel
theorem dX2_letGo_53 : decode cX2_letGo 53 = .ok (.iload_n 3, 1) := by decide +kernel
theorem dX2_letGo_54 : decode cX2_letGo 54 = .ok (.aaload, 1) := by decide +kernel
theorem dX2_letGo_55 : decode cX2_letGo 55 = .ok (.iload_n 1, 1) := by decide +kernel
theorem dX2_letGo_56 : decode cX2_letGo 56 = .ok (.invokevirtual 101, 3) := by decide +kernel
theorem dX2_letGo_59 : decode cX2_letGo 59 = .ok (.putfield 81, 3) := by decide +kernel
theorem dX2_letGo_62 : decode cX2_letGo 62 = .ok (.iinc 3 1, 3) := by decide +kernel
theorem dX2_letGo_65 : decode cX2_letGo 65 = .ok (.goto (-30), 3) := by decide +kernel
theorem dX2_letGo_68 : decode cX2_letGo 68 = .ok (.aload_n 0, 1) := by decide +kernel
theorem dX2_letGo_69 : decode cX2_letGo 69 = .ok (.dup, 1) := by decide +kernel
theorem dX2_letGo_70 : decode cX2_letGo 70 = .ok (.getfield 7, 3) := by decide +kernel
theorem dX2_letGo_73 : decode cX2_letGo 73 = .ok (.iload_n 1, 1) := by decide +kernel
theorem dX2_letGo_74 : decode cX2_letGo 74 = .ok (.iadd, 1) := by decide +kernel
theorem dX2_letGo_75 : decode cX2_letGo 75 = .ok (.putfield 7, 3) := by decide +kernel
theorem dX2_letGo_78 : decode cX2_letGo 78 = .ok (.return_, 1) := by decide +kernel
theorem dX2_notWhite_0 : decode cX2_notWhite 0 = .ok (.iconst 0, 1) := by decide +kernel
theorem dX2_notWhite_1 : decode cX2_notWhite 1 = .ok (.istore_n 1, 1) := by decide +kernel
theorem dX2_notWhite_2 : decode cX2_notWhite 2 = .ok (.iconst 0, 1) := by decide +kernel
theorem dX2_notWhite_3 : decode cX2_notWhite 3 = .ok (.istore_n 2, 1) := by decide +kernel
theorem dX2_notWhite_4 : decode cX2_notWhite 4 = .ok (.iload_n 2, 1) := by decide +kernel
theorem dX2_notWhite_5 : decode cX2_notWhite 5 = .ok (.aload_n 0, 1) := by decide +kernel
theorem dX2_notWhite_6 : decode cX2_notWhite 6 = .ok (.getfield 25, 3) := by decide +kernel
theorem dX2_notWhite_9 : decode cX2_notWhite 9 = .ok (.if_icmp .ge 27, 3) := by decide +kernel
theorem dX2_notWhite_12 : decode cX2_notWhite 12 = .ok (.aload_n 0, 1) := by decide +kernel
theorem dX2_notWhite_13 : decode cX2_notWhite 13 = .ok (.getfield 34, 3) := by decide +kernel
theorem dX2_notWhite_16 : decode cX2_notWhite 16 = .ok (.iload_n 2, 1) := by decide +kernel
theorem dX2_notWhite_17 : decode cX2_notWhite 17 = .ok (.aaload, 1) := by decide +kernel
theorem dX2_notWhite_18 : decode cX2_notWhite 18 = .ok (.getfield 81, 3) := by decide +kernel
theorem dX2_notWhite_21 : decode cX2_notWhite 21 = .ok (.ifCond .le 9, 3) := by decide +kernel
theorem dX2_notWhite_24 : decode cX2_notWhite 24 = .ok (.iload_n 1, 1) := by decide +kernel
theorem dX2_notWhite_25 : decode cX2_notWhite 25 = .ok (.iconst 1, 1) := by decide +kernel
theorem dX2_notWhite_26 : decode cX2_notWhite 26 = .ok (.iload_n 2, 1) := by decide +kernel
theorem dX2_notWhite_27 : decode cX2_notWhite 27 = .ok (.ishl, 1) := by decide +kernel
theorem dX2_notWhite_28 : decode cX2_notWhite 28 = .ok (.ior, 1) := by decide +kernel
theorem dX2_notWhite_29 : decode cX2_notWhite 29 = .ok (.istore_n 1, 1) := by decide +kernel
theorem dX2_notWhite_30 : decode cX2_notWhite 30 = .ok (.iinc 2 1, 3) := by decide +kernel
theorem dX2_notWhite_33 : decode cX2_notWhite 33 = .ok (.goto (-29), 3) := by decide +kernel
theorem dX2_notWhite_36 : decode cX2_notWhite 36 = .ok (.iload_n 1, 1) := by decide +kernel
theorem dX2_notWhite_37 : decode cX2_notWhite 37 = .ok (.ireturn, 1) := by decide +kernel
theorem dX2_believedTogether_0 : decode cX2_believedTogether 0 = .ok (.iconst 0, 1) := by decide +kernel
theorem dX2_believedTogether_1 : decode cX2_believedTogether 1 = .ok (.istore_n 3, 1) := by decide +kernel
theorem dX2_believedTogether_2 : decode cX2_believedTogether 2 = .ok (.iconst 0, 1) := by decide +kernel
theorem dX2_believedTogether_3 : decode cX2_believedTogether 3 = .ok (.istore 4, 2) := by decide +kernel
theorem dX2_believedTogether_5 : decode cX2_believedTogether 5 = .ok (.iload 4, 2) := by decide +kernel
theorem dX2_believedTogether_7 : decode cX2_believedTogether 7 = .ok (.aload_n 0, 1) := by decide +kernel
theorem dX2_believedTogether_8 : decode cX2_believedTogether 8 = .ok (.getfield 25, 3) := by decide +kernel
theorem dX2_believedTogether_11 : decode cX2_believedTogether 11 = .ok (.if_icmp .ge 24, 3) := by decide +kernel
theorem dX2_believedTogether_14 : decode cX2_believedTogether 14 = .ok (.iload_n 3, 1) := by decide +kernel
theorem dX2_believedTogether_15 : decode cX2_believedTogether 15 = .ok (.aload_n 0, 1) := by decide +kernel
theorem dX2_believedTogether_16 : decode cX2_believedTogether 16 = .ok (.getfield 34, 3) := by decide +kernel
theorem dX2_believedTogether_19 : decode cX2_believedTogether 19 = .ok (.iload 4, 2) := by decide +kernel
theorem dX2_believedTogether_21 : decode cX2_believedTogether 21 = .ok (.aaload, 1) := by decide +kernel
theorem dX2_believedTogether_22 : decode cX2_believedTogether 22 = .ok (.iload_n 1, 1) := by decide +kernel
theorem dX2_believedTogether_23 : decode cX2_believedTogether 23 = .ok (.iload_n 2, 1) := by decide +kernel
theorem dX2_believedTogether_24 : decode cX2_believedTogether 24 = .ok (.invokevirtual 104, 3) := by decide +kernel
theorem dX2_believedTogether_27 : decode cX2_believedTogether 27 = .ok (.iadd, 1) := by decide +kernel
theorem dX2_believedTogether_28 : decode cX2_believedTogether 28 = .ok (.istore_n 3, 1) := by decide +kernel
theorem dX2_believedTogether_29 : decode cX2_believedTogether 29 = .ok (.iinc 4 1, 3) := by decide +kernel
theorem dX2_believedTogether_32 : decode cX2_believedTogether 32 = .ok (.goto (-27), 3) := by decide +kernel
theorem dX2_believedTogether_35 : decode cX2_believedTogether 35 = .ok (.iload_n 3, 1) := by decide +kernel
theorem dX2_believedTogether_36 : decode cX2_believedTogether 36 = .ok (.ireturn, 1) := by decide +kernel
theorem dX2_pagesInSun_0 : decode cX2_pagesInSun 0 = .ok (.iconst 0, 1) := by decide +kernel
theorem dX2_pagesInSun_1 : decode cX2_pagesInSun 1 = .ok (.istore_n 1, 1) := by decide +kernel
theorem dX2_pagesInSun_2 : decode cX2_pagesInSun 2 = .ok (.iconst 0, 1) := by decide +kernel
theorem dX2_pagesInSun_3 : decode cX2_pagesInSun 3 = .ok (.istore_n 2, 1) := by decide +kernel
theorem dX2_pagesInSun_4 : decode cX2_pagesInSun 4 = .ok (.iload_n 2, 1) := by decide +kernel
theorem dX2_pagesInSun_5 : decode cX2_pagesInSun 5 = .ok (.aload_n 0, 1) := by decide +kernel
theorem dX2_pagesInSun_6 : decode cX2_pagesInSun 6 = .ok (.getfield 25, 3) := by decide +kernel
theorem dX2_pagesInSun_9 : decode cX2_pagesInSun 9 = .ok (.if_icmp .ge 21, 3) := by decide +kernel
theorem dX2_pagesInSun_12 : decode cX2_pagesInSun 12 = .ok (.iload_n 1, 1) := by decide +kernel
theorem dX2_pagesInSun_13 : decode cX2_pagesInSun 13 = .ok (.aload_n 0, 1) := by decide +kernel
theorem dX2_pagesInSun_14 : decode cX2_pagesInSun 14 = .ok (.getfield 34, 3) := by decide +kernel
theorem dX2_pagesInSun_17 : decode cX2_pagesInSun 17 = .ok (.iload_n 2, 1) := by decide +kernel
theorem dX2_pagesInSun_18 : decode cX2_pagesInSun 18 = .ok (.aaload, 1) := by decide +kernel
theorem dX2_pagesInSun_19 : decode cX2_pagesInSun 19 = .ok (.getfield 68, 3) := by decide +kernel
theorem dX2_pagesInSun_22 : decode cX2_pagesInSun 22 = .ok (.iadd, 1) := by decide +kernel
theorem dX2_pagesInSun_23 : decode cX2_pagesInSun 23 = .ok (.istore_n 1, 1) := by decide +kernel
theorem dX2_pagesInSun_24 : decode cX2_pagesInSun 24 = .ok (.iinc 2 1, 3) := by decide +kernel
theorem dX2_pagesInSun_27 : decode cX2_pagesInSun 27 = .ok (.goto (-23), 3) := by decide +kernel
theorem dX2_pagesInSun_30 : decode cX2_pagesInSun 30 = .ok (.iload_n 1, 1) := by decide +kernel
theorem dX2_pagesInSun_31 : decode cX2_pagesInSun 31 = .ok (.ireturn, 1) := by decide +kernel
theorem dX2_wordsTogether_0 : decode cX2_wordsTogether 0 = .ok (.iconst 0, 1) := by decide +kernel
theorem dX2_wordsTogether_1 : decode cX2_wordsTogether 1 = .ok (.istore_n 1, 1) := by decide +kernel
theorem dX2_wordsTogether_2 : decode cX2_wordsTogether 2 = .ok (.iconst 0, 1) := by decide +kernel
theorem dX2_wordsTogether_3 : decode cX2_wordsTogether 3 = .ok (.istore_n 2, 1) := by decide +kernel
theorem dX2_wordsTogether_4 : decode cX2_wordsTogether 4 = .ok (.iload_n 2, 1) := by decide +kernel
theorem dX2_wordsTogether_5 : decode cX2_wordsTogether 5 = .ok (.aload_n 0, 1) := by decide +kernel
theorem dX2_wordsTogether_6 : decode cX2_wordsTogether 6 = .ok (.getfield 25, 3) := by decide +kernel
theorem dX2_wordsTogether_9 : decode cX2_wordsTogether 9 = .ok (.if_icmp .ge 21, 3) := by decide +kernel
theorem dX2_wordsTogether_12 : decode cX2_wordsTogether 12 = .ok (.iload_n 1, 1) := by decide +kernel
theorem dX2_wordsTogether_13 : decode cX2_wordsTogether 13 = .ok (.aload_n 0, 1) := by decide +kernel
theorem dX2_wordsTogether_14 : decode cX2_wordsTogether 14 = .ok (.getfield 34, 3) := by decide +kernel
theorem dX2_wordsTogether_17 : decode cX2_wordsTogether 17 = .ok (.iload_n 2, 1) := by decide +kernel
theorem dX2_wordsTogether_18 : decode cX2_wordsTogether 18 = .ok (.aaload, 1) := by decide +kernel
theorem dX2_wordsTogether_19 : decode cX2_wordsTogether 19 = .ok (.getfield 65, 3) := by decide +kernel
theorem dX2_wordsTogether_22 : decode cX2_wordsTogether 22 = .ok (.iadd, 1) := by decide +kernel
theorem dX2_wordsTogether_23 : decode cX2_wordsTogether 23 = .ok (.istore_n 1, 1) := by decide +kernel
theorem dX2_wordsTogether_24 : decode cX2_wordsTogether 24 = .ok (.iinc 2 1, 3) := by decide +kernel
theorem dX2_wordsTogether_27 : decode cX2_wordsTogether 27 = .ok (.goto (-23), 3) := by decide +kernel
theorem dX2_wordsTogether_30 : decode cX2_wordsTogether 30 = .ok (.iload_n 1, 1) := by decide +kernel
theorem dX2_wordsTogether_31 : decode cX2_wordsTogether 31 = .ok (.ireturn, 1) := by decide +kernel
theorem dX2_firstWithInk_0 : decode cX2_firstWithInk 0 = .ok (.aload_n 0, 1) := by decide +kernel
theorem dX2_firstWithInk_1 : decode cX2_firstWithInk 1 = .ok (.getfield 16, 3) := by decide +kernel
theorem dX2_firstWithInk_4 : decode cX2_firstWithInk 4 = .ok (.istore_n 3, 1) := by decide +kernel
theorem dX2_firstWithInk_5 : decode cX2_firstWithInk 5 = .ok (.iconst 0, 1) := by decide +kernel
theorem dX2_firstWithInk_6 : decode cX2_firstWithInk 6 = .ok (.istore 4, 2) := by decide +kernel
theorem dX2_firstWithInk_8 : decode cX2_firstWithInk 8 = .ok (.iload 4, 2) := by decide +kernel
theorem dX2_firstWithInk_10 : decode cX2_firstWithInk 10 = .ok (.iload_n 2, 1) := by decide +kernel
theorem dX2_firstWithInk_11 : decode cX2_firstWithInk 11 = .ok (.if_icmp .gt 35, 3) := by decide +kernel
theorem dX2_firstWithInk_14 : decode cX2_firstWithInk 14 = .ok (.aload_n 0, 1) := by decide +kernel
theorem dX2_firstWithInk_15 : decode cX2_firstWithInk 15 = .ok (.iload_n 3, 1) := by decide +kernel
theorem dX2_firstWithInk_16 : decode cX2_firstWithInk 16 = .ok (.invokevirtual 98, 3) := by decide +kernel
theorem dX2_firstWithInk_19 : decode cX2_firstWithInk 19 = .ok (.iload_n 1, 1) := by decide +kernel
theorem dX2_firstWithInk_20 : decode cX2_firstWithInk 20 = .ok (.if_icmp .lt 6, 3) := by decide +kernel
theorem dX2_firstWithInk_23 : decode cX2_firstWithInk 23 = .ok (.iload 4, 2) := by decide +kernel
theorem dX2_firstWithInk_25 : decode cX2_firstWithInk 25 = .ok (.ireturn, 1) := by decide +kernel
theorem dX2_firstWithInk_26 : decode cX2_firstWithInk 26 = .ok (.iload_n 3, 1) := by decide +kernel
theorem dX2_firstWithInk_27 : decode cX2_firstWithInk 27 = .ok (.aload_n 0, 1) := by decide +kernel
theorem dX2_firstWithInk_28 : decode cX2_firstWithInk 28 = .ok (.getfield 13, 3) := by decide +kernel
theorem dX2_firstWithInk_31 : decode cX2_firstWithInk 31 = .ok (.aload_n 0, 1) := by decide +kernel
theorem dX2_firstWithInk_32 : decode cX2_firstWithInk 32 = .ok (.iload 4, 2) := by decide +kernel
theorem dX2_firstWithInk_34 : decode cX2_firstWithInk 34 = .ok (.invokevirtual 74, 3) := by decide +kernel
theorem dX2_firstWithInk_37 : decode cX2_firstWithInk 37 = .ok (.imul, 1) := by decide +kernel
theorem dX2_firstWithInk_38 : decode cX2_firstWithInk 38 = .ok (.iadd, 1) := by decide +kernel
theorem dX2_firstWithInk_39 : decode cX2_firstWithInk 39 = .ok (.istore_n 3, 1) := by decide +kernel
theorem dX2_firstWithInk_40 : decode cX2_firstWithInk 40 = .ok (.iinc 4 1, 3) := by decide +kernel
theorem dX2_firstWithInk_43 : decode cX2_firstWithInk 43 = .ok (.goto (-35), 3) := by decide +kernel
theorem dX2_firstWithInk_46 : decode cX2_firstWithInk 46 = .ok (.iconst (-1), 1) := by decide +kernel
theorem dX2_firstWithInk_47 : decode cX2_firstWithInk 47 = .ok (.ireturn, 1) := by decide +kernel
theorem dX2_blackestNight_0 : decode cX2_blackestNight 0 = .ok (.iload_n 1, 1) := by decide +kernel
theorem dX2_blackestNight_1 : decode cX2_blackestNight 1 = .ok (.iload_n 2, 1) := by decide +kernel
theorem dX2_blackestNight_2 : decode cX2_blackestNight 2 = .ok (.invokestatic 52, 3) := by decide +kernel
theorem dX2_blackestNight_5 : decode cX2_blackestNight 5 = .ok (.istore_n 3, 1) := by decide +kernel
theorem dX2_blackestNight_6 : decode cX2_blackestNight 6 = .ok (.aload_n 0, 1) := by decide +kernel
theorem dX2_blackestNight_7 : decode cX2_blackestNight 7 = .ok (.getfield 16, 3) := by decide +kernel
theorem dX2_blackestNight_10 : decode cX2_blackestNight 10 = .ok (.istore 4, 2) := by decide +kernel
theorem dX2_blackestNight_12 : decode cX2_blackestNight 12 = .ok (.iconst (-1), 1) := by decide +kernel
theorem dX2_blackestNight_13 : decode cX2_blackestNight 13 = .ok (.istore 5, 2) := by decide +kernel
theorem dX2_blackestNight_15 : decode cX2_blackestNight 15 = .ok (.iconst (-1), 1) := by decide +kernel
theorem dX2_blackestNight_16 : decode cX2_blackestNight 16 = .ok (.istore 6, 2) := by decide +kernel
theorem dX2_blackestNight_18 : decode cX2_blackestNight 18 = .ok (.iconst 0, 1) := by decide +kernel
theorem dX2_blackestNight_19 : decode cX2_blackestNight 19 = .ok (.istore 7, 2) := by decide +kernel
theorem dX2_blackestNight_21 : decode cX2_blackestNight 21 = .ok (.iload 7, 2) := by decide +kernel
theorem dX2_blackestNight_23 : decode cX2_blackestNight 23 = .ok (.bipush 12, 2) := by decide +kernel
theorem dX2_blackestNight_25 : decode cX2_blackestNight 25 = .ok (.if_icmp .ge 62, 3) := by decide +kernel
theorem dX2_blackestNight_28 : decode cX2_blackestNight 28 = .ok (.iload_n 1, 1) := by decide +kernel
theorem dX2_blackestNight_29 : decode cX2_blackestNight 29 = .ok (.aload_n 0, 1) := by decide +kernel
theorem dX2_blackestNight_30 : decode cX2_blackestNight 30 = .ok (.iload 7, 2) := by decide +kernel
theorem dX2_blackestNight_32 : decode cX2_blackestNight 32 = .ok (.invokevirtual 74, 3) := by decide +kernel
theorem dX2_blackestNight_35 : decode cX2_blackestNight 35 = .ok (.invokestatic 78, 3) := by decide +kernel
theorem dX2_blackestNight_38 : decode cX2_blackestNight 38 = .ok (.istore 8, 2) := by decide +kernel
theorem dX2_blackestNight_40 : decode cX2_blackestNight 40 = .ok (.aload_n 0, 1) := by decide +kernel
theorem dX2_blackestNight_41 : decode cX2_blackestNight 41 = .ok (.iload 4, 2) := by decide +kernel
theorem dX2_blackestNight_43 : decode cX2_blackestNight 43 = .ok (.invokevirtual 98, 3) := by decide +kernel
theorem dX2_blackestNight_46 : decode cX2_blackestNight 46 = .ok (.iload_n 3, 1) := by decide +kernel
theorem dX2_blackestNight_47 : decode cX2_blackestNight 47 = .ok (.if_icmp .lt 18, 3) := by decide +kernel
theorem dX2_blackestNight_50 : decode cX2_blackestNight 50 = .ok (.iload 8, 2) := by decide +kernel
theorem dX2_blackestNight_52 : decode cX2_blackestNight 52 = .ok (.iload 6, 2) := by decide +kernel
theorem dX2_blackestNight_54 : decode cX2_blackestNight 54 = .ok (.if_icmp .le 11, 3) := by decide +kernel
theorem dX2_blackestNight_57 : decode cX2_blackestNight 57 = .ok (.iload 7, 2) := by decide +kernel
theorem dX2_blackestNight_59 : decode cX2_blackestNight 59 = .ok (.istore 5, 2) := by decide +kernel
theorem dX2_blackestNight_61 : decode cX2_blackestNight 61 = .ok (.iload 8, 2) := by decide +kernel
theorem dX2_blackestNight_63 : decode cX2_blackestNight 63 = .ok (.istore 6, 2) := by decide +kernel
theorem dX2_blackestNight_65 : decode cX2_blackestNight 65 = .ok (.iload 4, 2) := by decide +kernel
theorem dX2_blackestNight_67 : decode cX2_blackestNight 67 = .ok (.aload_n 0, 1) := by decide +kernel
theorem dX2_blackestNight_68 : decode cX2_blackestNight 68 = .ok (.getfield 13, 3) := by decide +kernel
theorem dX2_blackestNight_71 : decode cX2_blackestNight 71 = .ok (.aload_n 0, 1) := by decide +kernel
theorem dX2_blackestNight_72 : decode cX2_blackestNight 72 = .ok (.iload 7, 2) := by decide +kernel
theorem dX2_blackestNight_74 : decode cX2_blackestNight 74 = .ok (.invokevirtual 74, 3) := by decide +kernel
theorem dX2_blackestNight_77 : decode cX2_blackestNight 77 = .ok (.imul, 1) := by decide +kernel
theorem dX2_blackestNight_78 : decode cX2_blackestNight 78 = .ok (.iadd, 1) := by decide +kernel
theorem dX2_blackestNight_79 : decode cX2_blackestNight 79 = .ok (.istore 4, 2) := by decide +kernel
theorem dX2_blackestNight_81 : decode cX2_blackestNight 81 = .ok (.iinc 7 1, 3) := by decide +kernel
theorem dX2_blackestNight_84 : decode cX2_blackestNight 84 = .ok (.goto (-63), 3) := by decide +kernel
theorem dX2_blackestNight_87 : decode cX2_blackestNight 87 = .ok (.iload 5, 2) := by decide +kernel
theorem dX2_blackestNight_89 : decode cX2_blackestNight 89 = .ok (.ireturn, 1) := by decide +kernel
theorem dX2_bestShaded_0 : decode cX2_bestShaded 0 = .ok (.aload_n 0, 1) := by decide +kernel
theorem dX2_bestShaded_1 : decode cX2_bestShaded 1 = .ok (.iload_n 1, 1) := by decide +kernel
theorem dX2_bestShaded_2 : decode cX2_bestShaded 2 = .ok (.invokevirtual 107, 3) := by decide +kernel
theorem dX2_bestShaded_5 : decode cX2_bestShaded 5 = .ok (.pop, 1) := by decide +kernel
theorem dX2_bestShaded_6 : decode cX2_bestShaded 6 = .ok (.iconst (-1), 1) := by decide +kernel
theorem dX2_bestShaded_7 : decode cX2_bestShaded 7 = .ok (.istore_n 2, 1) := by decide +kernel
theorem dX2_bestShaded_8 : decode cX2_bestShaded 8 = .ok (.iconst 0, 1) := by decide +kernel
theorem dX2_bestShaded_9 : decode cX2_bestShaded 9 = .ok (.istore_n 3, 1) := by decide +kernel
theorem dX2_bestShaded_10 : decode cX2_bestShaded 10 = .ok (.iload_n 3, 1) := by decide +kernel
theorem dX2_bestShaded_11 : decode cX2_bestShaded 11 = .ok (.aload_n 0, 1) := by decide +kernel
theorem dX2_bestShaded_12 : decode cX2_bestShaded 12 = .ok (.getfield 25, 3) := by decide +kernel
theorem dX2_bestShaded_15 : decode cX2_bestShaded 15 = .ok (.if_icmp .ge 43, 3) := by decide +kernel
theorem dX2_bestShaded_18 : decode cX2_bestShaded 18 = .ok (.aload_n 0, 1) := by decide +kernel
theorem dX2_bestShaded_19 : decode cX2_bestShaded 19 = .ok (.getfield 34, 3) := by decide +kernel
theorem dX2_bestShaded_22 : decode cX2_bestShaded 22 = .ok (.iload_n 3, 1) := by decide +kernel
theorem dX2_bestShaded_23 : decode cX2_bestShaded 23 = .ok (.aaload, 1) := by decide +kernel
theorem dX2_bestShaded_24 : decode cX2_bestShaded 24 = .ok (.getfield 68, 3) := by decide +kernel
theorem dX2_bestShaded_27 : decode cX2_bestShaded 27 = .ok (.iconst 1, 1) := by decide +kernel
theorem dX2_bestShaded_28 : decode cX2_bestShaded 28 = .ok (.if_icmp .ne 24, 3) := by decide +kernel
theorem dX2_bestShaded_31 : decode cX2_bestShaded 31 = .ok (.iload_n 2, 1) := by decide +kernel
theorem dX2_bestShaded_32 : decode cX2_bestShaded 32 = .ok (.ifCond .lt 18, 3) := by decide +kernel
theorem dX2_bestShaded_35 : decode cX2_bestShaded 35 = .ok (.aload_n 0, 1) := by decide +kernel
theorem dX2_bestShaded_36 : decode cX2_bestShaded 36 = .ok (.getfield 38, 3) := by decide +kernel
theorem dX2_bestShaded_39 : decode cX2_bestShaded 39 = .ok (.iload_n 3, 1) := by decide +kernel
theorem dX2_bestShaded_40 : decode cX2_bestShaded 40 = .ok (.iaload, 1) := by decide +kernel
theorem dX2_bestShaded_41 : decode cX2_bestShaded 41 = .ok (.aload_n 0, 1) := by decide +kernel
theorem dX2_bestShaded_42 : decode cX2_bestShaded 42 = .ok (.getfield 38, 3) := by decide +kernel
theorem dX2_bestShaded_45 : decode cX2_bestShaded 45 = .ok (.iload_n 2, 1) := by decide +kernel
theorem dX2_bestShaded_46 : decode cX2_bestShaded 46 = .ok (.iaload, 1) := by decide +kernel
theorem dX2_bestShaded_47 : decode cX2_bestShaded 47 = .ok (.if_icmp .le 5, 3) := by decide +kernel
theorem dX2_bestShaded_50 : decode cX2_bestShaded 50 = .ok (.iload_n 3, 1) := by decide +kernel
theorem dX2_bestShaded_51 : decode cX2_bestShaded 51 = .ok (.istore_n 2, 1) := by decide +kernel
theorem dX2_bestShaded_52 : decode cX2_bestShaded 52 = .ok (.iinc 3 1, 3) := by decide +kernel
theorem dX2_bestShaded_55 : decode cX2_bestShaded 55 = .ok (.goto (-45), 3) := by decide +kernel
theorem dX2_bestShaded_58 : decode cX2_bestShaded 58 = .ok (.iload_n 2, 1) := by decide +kernel
theorem dX2_bestShaded_59 : decode cX2_bestShaded 59 = .ok (.ireturn, 1) := by decide +kernel
theorem dX2_fewestBrothers_0 : decode cX2_fewestBrothers 0 = .ok (.aload_n 0, 1) := by decide +kernel
theorem dX2_fewestBrothers_1 : decode cX2_fewestBrothers 1 = .ok (.iload_n 1, 1) := by decide +kernel
theorem dX2_fewestBrothers_2 : decode cX2_fewestBrothers 2 = .ok (.invokevirtual 95, 3) := by decide +kernel
theorem dX2_fewestBrothers_5 : decode cX2_fewestBrothers 5 = .ok (.istore_n 3, 1) := by decide +kernel
theorem dX2_fewestBrothers_6 : decode cX2_fewestBrothers 6 = .ok (.iconst 0, 1) := by decide +kernel
theorem dX2_fewestBrothers_7 : decode cX2_fewestBrothers 7 = .ok (.istore 4, 2) := by decide +kernel
theorem dX2_fewestBrothers_9 : decode cX2_fewestBrothers 9 = .ok (.iload 4, 2) := by decide +kernel
theorem dX2_fewestBrothers_11 : decode cX2_fewestBrothers 11 = .ok (.bipush 9, 2) := by decide +kernel
theorem dX2_fewestBrothers_13 : decode cX2_fewestBrothers 13 = .ok (.if_icmp .gt 29, 3) := by decide +kernel
theorem dX2_fewestBrothers_16 : decode cX2_fewestBrothers 16 = .ok (.aload_n 0, 1) := by decide +kernel
theorem dX2_fewestBrothers_17 : decode cX2_fewestBrothers 17 = .ok (.aload_n 0, 1) := by decide +kernel
theorem dX2_fewestBrothers_18 : decode cX2_fewestBrothers 18 = .ok (.getfield 16, 3) := by decide +kernel
theorem dX2_fewestBrothers_21 : decode cX2_fewestBrothers 21 = .ok (.iload 4, 2) := by decide +kernel
theorem dX2_fewestBrothers_23 : decode cX2_fewestBrothers 23 = .ok (.iload_n 3, 1) := by decide +kernel
theorem dX2_fewestBrothers_24 : decode cX2_fewestBrothers 24 = .ok (.imul, 1) := by decide +kernel
theorem dX2_fewestBrothers_25 : decode cX2_fewestBrothers 25 = .ok (.iadd, 1) := by decide +kernel
theorem dX2_fewestBrothers_26 : decode cX2_fewestBrothers 26 = .ok (.invokevirtual 98, 3) := by decide +kernel
theorem dX2_fewestBrothers_29 : decode cX2_fewestBrothers 29 = .ok (.iload_n 2, 1) := by decide +kernel
theorem dX2_fewestBrothers_30 : decode cX2_fewestBrothers 30 = .ok (.if_icmp .lt 6, 3) := by decide +kernel
theorem dX2_fewestBrothers_33 : decode cX2_fewestBrothers 33 = .ok (.iload 4, 2) := by decide +kernel
theorem dX2_fewestBrothers_35 : decode cX2_fewestBrothers 35 = .ok (.ireturn, 1) := by decide +kernel
theorem dX2_fewestBrothers_36 : decode cX2_fewestBrothers 36 = .ok (.iinc 4 1, 3) := by decide +kernel
theorem dX2_fewestBrothers_39 : decode cX2_fewestBrothers 39 = .ok (.goto (-30), 3) := by decide +kernel
theorem dX2_fewestBrothers_42 : decode cX2_fewestBrothers 42 = .ok (.iconst (-1), 1) := by decide +kernel
theorem dX2_fewestBrothers_43 : decode cX2_fewestBrothers 43 = .ok (.ireturn, 1) := by decide +kernel
theorem dX2_leastLamp_0 : decode cX2_leastLamp 0 = .ok (.iconst 0, 1) := by decide +kernel
theorem dX2_leastLamp_1 : decode cX2_leastLamp 1 = .ok (.istore_n 3, 1) := by decide +kernel
theorem dX2_leastLamp_2 : decode cX2_leastLamp 2 = .ok (.iload_n 3, 1) := by decide +kernel
theorem dX2_leastLamp_3 : decode cX2_leastLamp 3 = .ok (.bipush 9, 2) := by decide +kernel
theorem dX2_leastLamp_5 : decode cX2_leastLamp 5 = .ok (.if_icmp .gt 21, 3) := by decide +kernel
theorem dX2_leastLamp_8 : decode cX2_leastLamp 8 = .ok (.aload_n 0, 1) := by decide +kernel
theorem dX2_leastLamp_9 : decode cX2_leastLamp 9 = .ok (.iload_n 1, 1) := by decide +kernel
theorem dX2_leastLamp_10 : decode cX2_leastLamp 10 = .ok (.iload_n 3, 1) := by decide +kernel
theorem dX2_leastLamp_11 : decode cX2_leastLamp 11 = .ok (.invokevirtual 110, 3) := by decide +kernel
theorem dX2_leastLamp_14 : decode cX2_leastLamp 14 = .ok (.iload_n 2, 1) := by decide +kernel
theorem dX2_leastLamp_15 : decode cX2_leastLamp 15 = .ok (.if_icmp .lt 5, 3) := by decide +kernel
theorem dX2_leastLamp_18 : decode cX2_leastLamp 18 = .ok (.iload_n 3, 1) := by decide +kernel
theorem dX2_leastLamp_19 : decode cX2_leastLamp 19 = .ok (.ireturn, 1) := by decide +kernel
theorem dX2_leastLamp_20 : decode cX2_leastLamp 20 = .ok (.iinc 3 1, 3) := by decide +kernel
theorem dX2_leastLamp_23 : decode cX2_leastLamp 23 = .ok (.goto (-21), 3) := by decide +kernel
theorem dX2_leastLamp_26 : decode cX2_leastLamp 26 = .ok (.iconst (-1), 1) := by decide +kernel
theorem dX2_leastLamp_27 : decode cX2_leastLamp 27 = .ok (.ireturn, 1) := by decide +kernel
theorem dX2_mostWords_0 : decode cX2_mostWords 0 = .ok (.bipush 99, 2) := by decide +kernel
theorem dX2_mostWords_2 : decode cX2_mostWords 2 = .ok (.istore_n 2, 1) := by decide +kernel
theorem dX2_mostWords_3 : decode cX2_mostWords 3 = .ok (.iload_n 2, 1) := by decide +kernel
theorem dX2_mostWords_4 : decode cX2_mostWords 4 = .ok (.iconst 1, 1) := by decide +kernel
theorem dX2_mostWords_5 : decode cX2_mostWords 5 = .ok (.if_icmp .lt 20, 3) := by decide +kernel
theorem dX2_mostWords_8 : decode cX2_mostWords 8 = .ok (.aload_n 0, 1) := by decide +kernel
theorem dX2_mostWords_9 : decode cX2_mostWords 9 = .ok (.iload_n 1, 1) := by decide +kernel
theorem dX2_mostWords_10 : decode cX2_mostWords 10 = .ok (.iload_n 2, 1) := by decide +kernel
theorem dX2_mostWords_11 : decode cX2_mostWords 11 = .ok (.invokevirtual 113, 3) := by decide +kernel
theorem dX2_mostWords_14 : decode cX2_mostWords 14 = .ok (.ifCond .eq 5, 3) := by decide +kernel
theorem dX2_mostWords_17 : decode cX2_mostWords 17 = .ok (.iload_n 2, 1) := by decide +kernel
theorem dX2_mostWords_18 : decode cX2_mostWords 18 = .ok (.ireturn, 1) := by decide +kernel
theorem dX2_mostWords_19 : decode cX2_mostWords 19 = .ok (.iinc 2 (-1), 3) := by decide +kernel
theorem dX2_mostWords_22 : decode cX2_mostWords 22 = .ok (.goto (-19), 3) := by decide +kernel
theorem dX2_mostWords_25 : decode cX2_mostWords 25 = .ok (.iconst (-1), 1) := by decide +kernel
theorem dX2_mostWords_26 : decode cX2_mostWords 26 = .ok (.ireturn, 1) := by decide +kernel
theorem dX2_mostInSun_0 : decode cX2_mostInSun 0 = .ok (.aload_n 0, 1) := by decide +kernel
theorem dX2_mostInSun_1 : decode cX2_mostInSun 1 = .ok (.iload_n 1, 1) := by decide +kernel
theorem dX2_mostInSun_2 : decode cX2_mostInSun 2 = .ok (.invokevirtual 107, 3) := by decide +kernel
theorem dX2_mostInSun_5 : decode cX2_mostInSun 5 = .ok (.istore_n 3, 1) := by decide +kernel
theorem dX2_mostInSun_6 : decode cX2_mostInSun 6 = .ok (.iconst (-1), 1) := by decide +kernel
theorem dX2_mostInSun_7 : decode cX2_mostInSun 7 = .ok (.istore 4, 2) := by decide +kernel
theorem dX2_mostInSun_9 : decode cX2_mostInSun 9 = .ok (.iconst 0, 1) := by decide +kernel
theorem dX2_mostInSun_10 : decode cX2_mostInSun 10 = .ok (.istore 5, 2) := by decide +kernel
theorem dX2_mostInSun_12 : decode cX2_mostInSun 12 = .ok (.iload 5, 2) := by decide +kernel
theorem dX2_mostInSun_14 : decode cX2_mostInSun 14 = .ok (.iconst 1, 1) := by decide +kernel
theorem dX2_mostInSun_15 : decode cX2_mostInSun 15 = .ok (.aload_n 0, 1) := by decide +kernel
theorem dX2_mostInSun_16 : decode cX2_mostInSun 16 = .ok (.getfield 25, 3) := by decide +kernel
theorem dX2_mostInSun_19 : decode cX2_mostInSun 19 = .ok (.ishl, 1) := by decide +kernel
theorem dX2_mostInSun_20 : decode cX2_mostInSun 20 = .ok (.if_icmp .ge 55, 3) := by decide +kernel
theorem dX2_mostInSun_23 : decode cX2_mostInSun 23 = .ok (.iload 4, 2) := by decide +kernel
theorem dX2_mostInSun_25 : decode cX2_mostInSun 25 = .ok (.ifCond .lt 16, 3) := by decide +kernel
theorem dX2_mostInSun_28 : decode cX2_mostInSun 28 = .ok (.iload 5, 2) := by decide +kernel
theorem dX2_mostInSun_30 : decode cX2_mostInSun 30 = .ok (.invokestatic 117, 3) := by decide +kernel
theorem dX2_mostInSun_33 : decode cX2_mostInSun 33 = .ok (.iload 4, 2) := by decide +kernel
theorem dX2_mostInSun_35 : decode cX2_mostInSun 35 = .ok (.invokestatic 117, 3) := by decide +kernel
theorem dX2_mostInSun_38 : decode cX2_mostInSun 38 = .ok (.if_icmp .le 7, 3) := by decide +kernel
theorem dX2_mostInSun_41 : decode cX2_mostInSun 41 = .ok (.iconst 1, 1) := by decide +kernel
theorem dX2_mostInSun_42 : decode cX2_mostInSun 42 = .ok (.goto 4, 3) := by decide +kernel
theorem dX2_mostInSun_45 : decode cX2_mostInSun 45 = .ok (.iconst 0, 1) := by decide +kernel
theorem dX2_mostInSun_46 : decode cX2_mostInSun 46 = .ok (.istore 6, 2) := by decide +kernel
theorem dX2_mostInSun_48 : decode cX2_mostInSun 48 = .ok (.iload 6, 2) := by decide +kernel
theorem dX2_mostInSun_50 : decode cX2_mostInSun 50 = .ok (.ifCond .eq 19, 3) := by decide +kernel
theorem dX2_mostInSun_53 : decode cX2_mostInSun 53 = .ok (.iload_n 3, 1) := by decide +kernel
theorem dX2_mostInSun_54 : decode cX2_mostInSun 54 = .ok (.aload_n 0, 1) := by decide +kernel
theorem dX2_mostInSun_55 : decode cX2_mostInSun 55 = .ok (.iload 5, 2) := by decide +kernel
theorem dX2_mostInSun_57 : decode cX2_mostInSun 57 = .ok (.invokevirtual 122, 3) := by decide +kernel
theorem dX2_mostInSun_60 : decode cX2_mostInSun 60 = .ok (.isub, 1) := by decide +kernel
theorem dX2_mostInSun_61 : decode cX2_mostInSun 61 = .ok (.iload_n 2, 1) := by decide +kernel
theorem dX2_mostInSun_62 : decode cX2_mostInSun 62 = .ok (.if_icmp .lt 7, 3) := by decide +kernel
theorem dX2_mostInSun_65 : decode cX2_mostInSun 65 = .ok (.iload 5, 2) := by decide +kernel
theorem dX2_mostInSun_67 : decode cX2_mostInSun 67 = .ok (.istore 4, 2) := by decide +kernel
theorem dX2_mostInSun_69 : decode cX2_mostInSun 69 = .ok (.iinc 5 1, 3) := by decide +kernel
theorem dX2_mostInSun_72 : decode cX2_mostInSun 72 = .ok (.goto (-60), 3) := by decide +kernel
theorem dX2_mostInSun_75 : decode cX2_mostInSun 75 = .ok (.iload 4, 2) := by decide +kernel
theorem dX2_mostInSun_77 : decode cX2_mostInSun 77 = .ok (.ireturn, 1) := by decide +kernel
theorem dX2_measureSun_0 : decode cX2_measureSun 0 = .ok (.iconst 0, 1) := by decide +kernel
theorem dX2_measureSun_1 : decode cX2_measureSun 1 = .ok (.istore_n 2, 1) := by decide +kernel
theorem dX2_measureSun_2 : decode cX2_measureSun 2 = .ok (.iconst 0, 1) := by decide +kernel
theorem dX2_measureSun_3 : decode cX2_measureSun 3 = .ok (.istore_n 3, 1) := by decide +kernel
theorem dX2_measureSun_4 : decode cX2_measureSun 4 = .ok (.iload_n 3, 1) := by decide +kernel
theorem dX2_measureSun_5 : decode cX2_measureSun 5 = .ok (.aload_n 0, 1) := by decide +kernel
theorem dX2_measureSun_6 : decode cX2_measureSun 6 = .ok (.getfield 25, 3) := by decide +kernel
theorem dX2_measureSun_9 : decode cX2_measureSun 9 = .ok (.if_icmp .ge 73, 3) := by decide +kernel
theorem dX2_measureSun_12 : decode cX2_measureSun 12 = .ok (.aload_n 0, 1) := by decide +kernel
theorem dX2_measureSun_13 : decode cX2_measureSun 13 = .ok (.getfield 34, 3) := by decide +kernel
theorem dX2_measureSun_16 : decode cX2_measureSun 16 = .ok (.iload_n 3, 1) := by decide +kernel
theorem dX2_measureSun_17 : decode cX2_measureSun 17 = .ok (.aaload, 1) := by decide +kernel
theorem dX2_measureSun_18 : decode cX2_measureSun 18 = .ok (.aload_n 0, 1) := by decide +kernel
theorem dX2_measureSun_19 : decode cX2_measureSun 19 = .ok (.getfield 34, 3) := by decide +kernel
theorem dX2_measureSun_22 : decode cX2_measureSun 22 = .ok (.iload_n 3, 1) := by decide +kernel
theorem dX2_measureSun_23 : decode cX2_measureSun 23 = .ok (.aaload, 1) := by decide +kernel
theorem dX2_measureSun_24 : decode cX2_measureSun 24 = .ok (.getfield 62, 3) := by decide +kernel
theorem dX2_measureSun_27 : decode cX2_measureSun 27 = .ok (.iconst 0, 1) := by decide +kernel
theorem dX2_measureSun_28 : decode cX2_measureSun 28 = .ok (.iload_n 1, 1) := by decide +kernel
theorem dX2_measureSun_29 : decode cX2_measureSun 29 = .ok (.aload_n 0, 1) := by decide +kernel
theorem dX2_measureSun_30 : decode cX2_measureSun 30 = .ok (.getfield 22, 3) := by decide +kernel
theorem dX2_measureSun_33 : decode cX2_measureSun 33 = .ok (.invokevirtual 125, 3) := by decide +kernel
theorem dX2_measureSun_36 : decode cX2_measureSun 36 = .ok (.istore 4, 2) := by decide +kernel
theorem dX2_measureSun_38 : decode cX2_measureSun 38 = .ok (.aload_n 0, 1) := by decide +kernel
theorem dX2_measureSun_39 : decode cX2_measureSun 39 = .ok (.getfield 38, 3) := by decide +kernel
theorem dX2_measureSun_42 : decode cX2_measureSun 42 = .ok (.iload_n 3, 1) := by decide +kernel
theorem dX2_measureSun_43 : decode cX2_measureSun 43 = .ok (.iload 4, 2) := by decide +kernel
theorem dX2_measureSun_45 : decode cX2_measureSun 45 = .ok (.aload_n 0, 1) := by decide +kernel
theorem dX2_measureSun_46 : decode cX2_measureSun 46 = .ok (.getfield 34, 3) := by decide +kernel
theorem dX2_measureSun_49 : decode cX2_measureSun 49 = .ok (.iload_n 3, 1) := by decide +kernel
theorem dX2_measureSun_50 : decode cX2_measureSun 50 = .ok (.aaload, 1) := by decide +kernel
theorem dX2_measureSun_51 : decode cX2_measureSun 51 = .ok (.aload_n 0, 1) := by decide +kernel
theorem dX2_measureSun_52 : decode cX2_measureSun 52 = .ok (.getfield 34, 3) := by decide +kernel
theorem dX2_measureSun_55 : decode cX2_measureSun 55 = .ok (.iload_n 3, 1) := by decide +kernel
theorem dX2_measureSun_56 : decode cX2_measureSun 56 = .ok (.aaload, 1) := by decide +kernel
theorem dX2_measureSun_57 : decode cX2_measureSun 57 = .ok (.getfield 62, 3) := by decide +kernel
theorem dX2_measureSun_60 : decode cX2_measureSun 60 = .ok (.iconst 1, 1) := by decide +kernel
theorem dX2_measureSun_61 : decode cX2_measureSun 61 = .ok (.iload_n 1, 1) := by decide +kernel
theorem dX2_measureSun_62 : decode cX2_measureSun 62 = .ok (.aload_n 0, 1) := by decide +kernel
theorem dX2_measureSun_63 : decode cX2_measureSun 63 = .ok (.getfield 22, 3) := by decide +kernel
theorem dX2_measureSun_66 : decode cX2_measureSun 66 = .ok (.invokevirtual 125, 3) := by decide +kernel
theorem dX2_measureSun_69 : decode cX2_measureSun 69 = .ok (.isub, 1) := by decide +kernel
theorem dX2_measureSun_70 : decode cX2_measureSun 70 = .ok (.iastore, 1) := by decide +kernel
theorem dX2_measureSun_71 : decode cX2_measureSun 71 = .ok (.iload_n 2, 1) := by decide +kernel
theorem dX2_measureSun_72 : decode cX2_measureSun 72 = .ok (.iload 4, 2) := by decide +kernel
theorem dX2_measureSun_74 : decode cX2_measureSun 74 = .ok (.iadd, 1) := by decide +kernel
theorem dX2_measureSun_75 : decode cX2_measureSun 75 = .ok (.istore_n 2, 1) := by decide +kernel
theorem dX2_measureSun_76 : decode cX2_measureSun 76 = .ok (.iinc 3 1, 3) := by decide +kernel
theorem dX2_measureSun_79 : decode cX2_measureSun 79 = .ok (.goto (-75), 3) := by decide +kernel
theorem dX2_measureSun_82 : decode cX2_measureSun 82 = .ok (.iload_n 2, 1) := by decide +kernel
theorem dX2_measureSun_83 : decode cX2_measureSun 83 = .ok (.ireturn, 1) := by decide +kernel
theorem dX2_takenBySun_0 : decode cX2_takenBySun 0 = .ok (.iconst 0, 1) := by decide +kernel
theorem dX2_takenBySun_1 : decode cX2_takenBySun 1 = .ok (.istore_n 2, 1) := by decide +kernel
theorem dX2_takenBySun_2 : decode cX2_takenBySun 2 = .ok (.iconst 0, 1) := by decide +kernel
theorem dX2_takenBySun_3 : decode cX2_takenBySun 3 = .ok (.istore_n 3, 1) := by decide +kernel
theorem dX2_takenBySun_4 : decode cX2_takenBySun 4 = .ok (.iload_n 3, 1) := by decide +kernel
theorem dX2_takenBySun_5 : decode cX2_takenBySun 5 = .ok (.aload_n 0, 1) := by decide +kernel
theorem dX2_takenBySun_6 : decode cX2_takenBySun 6 = .ok (.getfield 25, 3) := by decide +kernel
theorem dX2_takenBySun_9 : decode cX2_takenBySun 9 = .ok (.if_icmp .ge 27, 3) := by decide +kernel
theorem dX2_takenBySun_12 : decode cX2_takenBySun 12 = .ok (.iload_n 1, 1) := by decide +kernel
theorem dX2_takenBySun_13 : decode cX2_takenBySun 13 = .ok (.iload_n 3, 1) := by decide +kernel
theorem dX2_takenBySun_14 : decode cX2_takenBySun 14 = .ok (.ishr, 1) := by decide +kernel
theorem dX2_takenBySun_15 : decode cX2_takenBySun 15 = .ok (.iconst 1, 1) := by decide +kernel
theorem dX2_takenBySun_16 : decode cX2_takenBySun 16 = .ok (.iand, 1) := by decide +kernel
theorem dX2_takenBySun_17 : decode cX2_takenBySun 17 = .ok (.iconst 1, 1) := by decide +kernel
theorem dX2_takenBySun_18 : decode cX2_takenBySun 18 = .ok (.if_icmp .ne 12, 3) := by decide +kernel
theorem dX2_takenBySun_21 : decode cX2_takenBySun 21 = .ok (.iload_n 2, 1) := by decide +kernel
theorem dX2_takenBySun_22 : decode cX2_takenBySun 22 = .ok (.aload_n 0, 1) := by decide +kernel
theorem dX2_takenBySun_23 : decode cX2_takenBySun 23 = .ok (.getfield 38, 3) := by decide +kernel
theorem dX2_takenBySun_26 : decode cX2_takenBySun 26 = .ok (.iload_n 3, 1) := by decide +kernel
theorem dX2_takenBySun_27 : decode cX2_takenBySun 27 = .ok (.iaload, 1) := by decide +kernel
theorem dX2_takenBySun_28 : decode cX2_takenBySun 28 = .ok (.iadd, 1) := by decide +kernel
theorem dX2_takenBySun_29 : decode cX2_takenBySun 29 = .ok (.istore_n 2, 1) := by decide +kernel
theorem dX2_takenBySun_30 : decode cX2_takenBySun 30 = .ok (.iinc 3 1, 3) := by decide +kernel
theorem dX2_takenBySun_33 : decode cX2_takenBySun 33 = .ok (.goto (-29), 3) := by decide +kernel
theorem dX2_takenBySun_36 : decode cX2_takenBySun 36 = .ok (.iload_n 2, 1) := by decide +kernel
theorem dX2_takenBySun_37 : decode cX2_takenBySun 37 = .ok (.ireturn, 1) := by decide +kernel
theorem dX2_blacken_0 : decode cX2_blacken 0 = .ok (.iconst 0, 1) := by decide +kernel
theorem dX2_blacken_1 : decode cX2_blacken 1 = .ok (.istore_n 2, 1) := by decide +kernel
theorem dX2_blacken_2 : decode cX2_blacken 2 = .ok (.iconst 0, 1) := by decide +kernel
theorem dX2_blacken_3 : decode cX2_blacken 3 = .ok (.istore_n 3, 1) := by decide +kernel
theorem dX2_blacken_4 : decode cX2_blacken 4 = .ok (.iload_n 3, 1) := by decide +kernel
theorem dX2_blacken_5 : decode cX2_blacken 5 = .ok (.aload_n 0, 1) := by decide +kernel
theorem dX2_blacken_6 : decode cX2_blacken 6 = .ok (.getfield 25, 3) := by decide +kernel
theorem dX2_blacken_9 : decode cX2_blacken 9 = .ok (.if_icmp .ge 56, 3) := by decide +kernel
theorem dX2_blacken_12 : decode cX2_blacken 12 = .ok (.iload_n 3, 1) := by decide +kernel
theorem dX2_blacken_13 : decode cX2_blacken 13 = .ok (.aload_n 1, 1) := by decide +kernel
theorem dX2_blacken_14 : decode cX2_blacken 14 = .ok (.getfield 129, 3) := by decide +kernel
theorem dX2_blacken_17 : decode cX2_blacken 17 = .ok (.if_icmp .ge 48, 3) := by decide +kernel
theorem dX2_blacken_20 : decode cX2_blacken 20 = .ok (.aload_n 1, 1) := by decide +kernel
theorem dX2_blacken_21 : decode cX2_blacken 21 = .ok (.getfield 134, 3) := by decide +kernel
theorem dX2_blacken_24 : decode cX2_blacken 24 = .ok (.iload_n 3, 1) := by decide +kernel
theorem dX2_blacken_25 : decode cX2_blacken 25 = .ok (.laload, 1) := by decide +kernel
theorem dX2_blacken_26 : decode cX2_blacken 26 = .ok (.lstore 4, 2) := by decide +kernel
theorem dX2_blacken_28 : decode cX2_blacken 28 = .ok (.lload 4, 2) := by decide +kernel
theorem dX2_blacken_30 : decode cX2_blacken 30 = .ok (.lconst 0, 1) := by decide +kernel
theorem dX2_blacken_31 : decode cX2_blacken 31 = .ok (.lcmp, 1) := by decide +kernel
theorem dX2_blacken_32 : decode cX2_blacken 32 = .ok (.ifCond .lt 27, 3) := by decide +kernel
theorem dX2_blacken_35 : decode cX2_blacken 35 = .ok (.lload 4, 2) := by decide +kernel
theorem dX2_blacken_37 : decode cX2_blacken 37 = .ok (.ldc2_w 138, 3) := by decide +kernel
theorem dX2_blacken_40 : decode cX2_blacken 40 = .ok (.lcmp, 1) := by decide +kernel
theorem dX2_blacken_41 : decode cX2_blacken 41 = .ok (.ifCond .gt 18, 3) := by decide +kernel
theorem dX2_blacken_44 : decode cX2_blacken 44 = .ok (.aload_n 0, 1) := by decide +kernel
theorem dX2_blacken_45 : decode cX2_blacken 45 = .ok (.getfield 34, 3) := by decide +kernel
theorem dX2_blacken_48 : decode cX2_blacken 48 = .ok (.iload_n 3, 1) := by decide +kernel
theorem dX2_blacken_49 : decode cX2_blacken 49 = .ok (.aaload, 1) := by decide +kernel
theorem dX2_blacken_50 : decode cX2_blacken 50 = .ok (.lload 4, 2) := by decide +kernel
theorem dX2_blacken_52 : decode cX2_blacken 52 = .ok (.l2i, 1) := by decide +kernel
theorem dX2_blacken_53 : decode cX2_blacken 53 = .ok (.putfield 81, 3) := by decide +kernel
theorem dX2_blacken_56 : decode cX2_blacken 56 = .ok (.iinc 2 1, 3) := by decide +kernel
theorem dX2_blacken_59 : decode cX2_blacken 59 = .ok (.iinc 3 1, 3) := by decide +kernel
theorem dX2_blacken_62 : decode cX2_blacken 62 = .ok (.goto (-58), 3) := by decide +kernel
theorem dX2_blacken_65 : decode cX2_blacken 65 = .ok (.iload_n 2, 1) := by decide +kernel
theorem dX2_blacken_66 : decode cX2_blacken 66 = .ok (.ireturn, 1) := by decide +kernel
theorem dX3_init_0 : decode cX3_init 0 = .ok (.aload_n 0, 1) := by decide +kernel
theorem dX3_init_1 : decode cX3_init 1 = .ok (.invokespecial 1, 3) := by decide +kernel
theorem dX3_init_4 : decode cX3_init 4 = .ok (.aload_n 0, 1) := by decide +kernel
theorem dX3_init_5 : decode cX3_init 5 = .ok (.iconst 0, 1) := by decide +kernel
theorem dX3_init_6 : decode cX3_init 6 = .ok (.putfield 7, 3) := by decide +kernel
theorem dX3_init_9 : decode cX3_init 9 = .ok (.aload_n 0, 1) := by decide +kernel
theorem dX3_init_10 : decode cX3_init 10 = .ok (.iconst 0, 1) := by decide +kernel
theorem dX3_init_11 : decode cX3_init 11 = .ok (.putfield 13, 3) := by decide +kernel
theorem dX3_init_14 : decode cX3_init 14 = .ok (.aload_n 0, 1) := by decide +kernel
theorem dX3_init_15 : decode cX3_init 15 = .ok (.bipush 40, 2) := by decide +kernel
theorem dX3_init_17 : decode cX3_init 17 = .ok (.newarray .long, 2) := by decide +kernel
theorem dX3_init_19 : decode cX3_init 19 = .ok (.putfield 16, 3) := by decide +kernel
theorem dX3_init_22 : decode cX3_init 22 = .ok (.return_, 1) := by decide +kernel
theorem dX3_mayHaveBits_0 : decode cX3_mayHaveBits 0 = .ok (.iload_n 0, 1) := by decide +kernel
theorem dX3_mayHaveBits_1 : decode cX3_mayHaveBits 1 = .ok (.ifCond .eq 21, 3) := by decide +kernel
theorem dX3_mayHaveBits_4 : decode cX3_mayHaveBits 4 = .ok (.iload_n 0, 1) := by decide +kernel
theorem dX3_mayHaveBits_5 : decode cX3_mayHaveBits 5 = .ok (.bipush 8, 2) := by decide +kernel
theorem dX3_mayHaveBits_7 : decode cX3_mayHaveBits 7 = .ok (.if_icmp .eq 15, 3) := by decide +kernel
theorem dX3_mayHaveBits_10 : decode cX3_mayHaveBits 10 = .ok (.iload_n 0, 1) := by decide +kernel
theorem dX3_mayHaveBits_11 : decode cX3_mayHaveBits 11 = .ok (.bipush 16, 2) := by decide +kernel
theorem dX3_mayHaveBits_13 : decode cX3_mayHaveBits 13 = .ok (.if_icmp .eq 9, 3) := by decide +kernel
theorem dX3_mayHaveBits_16 : decode cX3_mayHaveBits 16 = .ok (.iload_n 0, 1) := by decide +kernel
theorem dX3_mayHaveBits_17 : decode cX3_mayHaveBits 17 = .ok (.bipush 64, 2) := by decide +kernel
theorem dX3_mayHaveBits_19 : decode cX3_mayHaveBits 19 = .ok (.if_icmp .ne 7, 3) := by decide +kernel
theorem dX3_mayHaveBits_22 : decode cX3_mayHaveBits 22 = .ok (.iconst 1, 1) := by decide +kernel
theorem dX3_mayHaveBits_23 : decode cX3_mayHaveBits 23 = .ok (.goto 4, 3) := by decide +kernel
theorem dX3_mayHaveBits_26 : decode cX3_mayHaveBits 26 = .ok (.iconst 0, 1) := by decide +kernel
theorem dX3_mayHaveBits_27 : decode cX3_mayHaveBits 27 = .ok (.ireturn, 1) := by decide +kernel
theorem dX3_isMissing_0 : decode cX3_isMissing 0 = .ok (.aload_n 0, 1) := by decide +kernel
theorem dX3_isMissing_1 : decode cX3_isMissing 1 = .ok (.getfield 7, 3) := by decide +kernel
theorem dX3_isMissing_4 : decode cX3_isMissing 4 = .ok (.ifCond .ne 7, 3) := by decide +kernel
theorem dX3_isMissing_7 : decode cX3_isMissing 7 = .ok (.iconst 1, 1) := by decide +kernel
theorem dX3_isMissing_8 : decode cX3_isMissing 8 = .ok (.goto 4, 3) := by decide +kernel
theorem dX3_isMissing_11 : decode cX3_isMissing 11 = .ok (.iconst 0, 1) := by decide +kernel
theorem dX3_isMissing_12 : decode cX3_isMissing 12 = .ok (.ireturn, 1) := by decide +kernel
theorem dX3_layOut_0 : decode cX3_layOut 0 = .ok (.aload_n 0, 1) := by decide +kernel
theorem dX3_layOut_1 : decode cX3_layOut 1 = .ok (.iload_n 1, 1) := by decide +kernel
theorem dX3_layOut_2 : decode cX3_layOut 2 = .ok (.putfield 7, 3) := by decide +kernel
theorem dX3_layOut_5 : decode cX3_layOut 5 = .ok (.aload_n 0, 1) := by decide +kernel
theorem dX3_layOut_6 : decode cX3_layOut 6 = .ok (.iload_n 1, 1) := by decide +kernel
theorem dX3_layOut_7 : decode cX3_layOut 7 = .ok (.ifCond .ne 7, 3) := by decide +kernel
theorem dX3_layOut_10 : decode cX3_layOut 10 = .ok (.iconst 0, 1) := by decide +kernel
theorem dX3_layOut_11 : decode cX3_layOut 11 = .ok (.goto 4, 3) := by decide +kernel
theorem dX3_layOut_14 : decode cX3_layOut 14 = .ok (.iload_n 2, 1) := by decide +kernel
theorem dX3_layOut_15 : decode cX3_layOut 15 = .ok (.putfield 13, 3) := by decide +kernel
theorem dX3_layOut_18 : decode cX3_layOut 18 = .ok (.aload_n 0, 1) := by decide +kernel
theorem dX3_layOut_19 : decode cX3_layOut 19 = .ok (.getfield 16, 3) := by decide +kernel
theorem dX3_layOut_22 : decode cX3_layOut 22 = .ok (.lconst 0, 1) := by decide +kernel
theorem dX3_layOut_23 : decode cX3_layOut 23 = .ok (.invokestatic 20, 3) := by decide +kernel
theorem dX3_layOut_26 : decode cX3_layOut 26 = .ok (.return_, 1) := by decide +kernel
theorem dX3_lowestBits_0 : decode cX3_lowestBits 0 = .ok (.aload_n 0, 1) := by decide +kernel
theorem dX3_lowestBits_1 : decode cX3_lowestBits 1 = .ok (.getfield 7, 3) := by decide +kernel
theorem dX3_lowestBits_4 : decode cX3_lowestBits 4 = .ok (.lookupswitch 38 #[(8, 28), (16, 33)], 28) := by decide +kernel
theorem dX3_lowestBits_32 : decode cX3_lowestBits 32 = .ok (.lload_n 1, 1) := by decide +kernel
theorem dX3_lowestBits_33 : decode cX3_lowestBits 33 = .ok (.l2i, 1) := by decide +kernel
theorem dX3_lowestBits_34 : decode cX3_lowestBits 34 = .ok (.i2b, 1) := by decide +kernel
theorem dX3_lowestBits_35 : decode cX3_lowestBits 35 = .ok (.i2l, 1) := by decide +kernel
theorem dX3_lowestBits_36 : decode cX3_lowestBits 36 = .ok (.lreturn, 1) := by decide +kernel
theorem dX3_lowestBits_37 : decode cX3_lowestBits 37 = .ok (.lload_n 1, 1) := by decide +kernel
theorem dX3_lowestBits_38 : decode cX3_lowestBits 38 = .ok (.l2i, 1) := by decide +kernel
theorem dX3_lowestBits_39 : decode cX3_lowestBits 39 = .ok (.i2s, 1) := by decide +kernel
theorem dX3_lowestBits_40 : decode cX3_lowestBits 40 = .ok (.i2l, 1) := by decide +kernel
theorem dX3_lowestBits_41 : decode cX3_lowestBits 41 = .ok (.lreturn, 1) := by decide +kernel
theorem dX3_lowestBits_42 : decode cX3_lowestBits 42 = .ok (.lload_n 1, 1) := by decide +kernel
theorem dX3_lowestBits_43 : decode cX3_lowestBits 43 = .ok (.lreturn, 1) := by decide +kernel
theorem dX3_hasRow_0 : decode cX3_hasRow 0 = .ok (.iload_n 1, 1) := by decide +kernel
theorem dX3_hasRow_1 : decode cX3_hasRow 1 = .ok (.ifCond .lt 21, 3) := by decide +kernel
theorem dX3_hasRow_4 : decode cX3_hasRow 4 = .ok (.iload_n 2, 1) := by decide +kernel
theorem dX3_hasRow_5 : decode cX3_hasRow 5 = .ok (.ifCond .lt 17, 3) := by decide +kernel
theorem dX3_hasRow_8 : decode cX3_hasRow 8 = .ok (.iload_n 1, 1) := by decide +kernel
theorem dX3_hasRow_9 : decode cX3_hasRow 9 = .ok (.aload_n 0, 1) := by decide +kernel
theorem dX3_hasRow_10 : decode cX3_hasRow 10 = .ok (.getfield 13, 3) := by decide +kernel
theorem dX3_hasRow_13 : decode cX3_hasRow 13 = .ok (.iload_n 2, 1) := by decide +kernel
theorem dX3_hasRow_14 : decode cX3_hasRow 14 = .ok (.isub, 1) := by decide +kernel
theorem dX3_hasRow_15 : decode cX3_hasRow 15 = .ok (.if_icmp .gt 7, 3) := by decide +kernel
theorem dX3_hasRow_18 : decode cX3_hasRow 18 = .ok (.iconst 1, 1) := by decide +kernel
theorem dX3_hasRow_19 : decode cX3_hasRow 19 = .ok (.goto 4, 3) := by decide +kernel
theorem dX3_hasRow_22 : decode cX3_hasRow 22 = .ok (.iconst 0, 1) := by decide +kernel
theorem dX3_hasRow_23 : decode cX3_hasRow 23 = .ok (.ireturn, 1) := by decide +kernel
theorem dX4_init_0 : decode cX4_init 0 = .ok (.aload_n 0, 1) := by decide +kernel
theorem dX4_init_1 : decode cX4_init 1 = .ok (.invokespecial 1, 3) := by decide +kernel
theorem dX4_init_4 : decode cX4_init 4 = .ok (.aload_n 0, 1) := by decide +kernel
theorem dX4_init_5 : decode cX4_init 5 = .ok (.iconst 0, 1) := by decide +kernel
theorem dX4_init_6 : decode cX4_init 6 = .ok (.putfield 7, 3) := by decide +kernel
theorem dX4_init_9 : decode cX4_init 9 = .ok (.aload_n 0, 1) := by decide +kernel
theorem dX4_init_10 : decode cX4_init 10 = .ok (.iconst 0, 1) := by decide +kernel
theorem dX4_init_11 : decode cX4_init 11 = .ok (.putfield 13, 3) := by decide +kernel
theorem dX4_init_14 : decode cX4_init 14 = .ok (.aload_n 0, 1) := by decide +kernel
theorem dX4_init_15 : decode cX4_init 15 = .ok (.iconst 0, 1) := by decide +kernel
theorem dX4_init_16 : decode cX4_init 16 = .ok (.putfield 16, 3) := by decide +kernel
theorem dX4_init_19 : decode cX4_init 19 = .ok (.aload_n 0, 1) := by decide +kernel
theorem dX4_init_20 : decode cX4_init 20 = .ok (.iconst 0, 1) := by decide +kernel
theorem dX4_init_21 : decode cX4_init 21 = .ok (.putfield 19, 3) := by decide +kernel
theorem dX4_init_24 : decode cX4_init 24 = .ok (.aload_n 0, 1) := by decide +kernel
theorem dX4_init_25 : decode cX4_init 25 = .ok (.iconst 0, 1) := by decide +kernel
theorem dX4_init_26 : decode cX4_init 26 = .ok (.putfield 22, 3) := by decide +kernel
theorem dX4_init_29 : decode cX4_init 29 = .ok (.aload_n 0, 1) := by decide +kernel
theorem dX4_init_30 : decode cX4_init 30 = .ok (.bipush 120, 2) := by decide +kernel
theorem dX4_init_32 : decode cX4_init 32 = .ok (.newarray .int, 2) := by decide +kernel
theorem dX4_init_34 : decode cX4_init 34 = .ok (.putfield 25, 3) := by decide +kernel
theorem dX4_init_37 : decode cX4_init 37 = .ok (.return_, 1) := by decide +kernel
theorem dX4_addByte_0 : decode cX4_addByte 0 = .ok (.aload_n 0, 1) := by decide +kernel
theorem dX4_addByte_1 : decode cX4_addByte 1 = .ok (.getfield 7, 3) := by decide +kernel
theorem dX4_addByte_4 : decode cX4_addByte 4 = .ok (.bipush 120, 2) := by decide +kernel
theorem dX4_addByte_6 : decode cX4_addByte 6 = .ok (.if_icmp .ge 23, 3) := by decide +kernel
theorem dX4_addByte_9 : decode cX4_addByte 9 = .ok (.aload_n 0, 1) := by decide +kernel
theorem dX4_addByte_10 : decode cX4_addByte 10 = .ok (.getfield 25, 3) := by decide +kernel
theorem dX4_addByte_13 : decode cX4_addByte 13 = .ok (.aload_n 0, 1) := by decide +kernel
theorem dX4_addByte_14 : decode cX4_addByte 14 = .ok (.getfield 7, 3) := by decide +kernel
theorem dX4_addByte_17 : decode cX4_addByte 17 = .ok (.iload_n 1, 1) := by decide +kernel
theorem dX4_addByte_18 : decode cX4_addByte 18 = .ok (.iastore, 1) := by decide +kernel
theorem dX4_addByte_19 : decode cX4_addByte 19 = .ok (.aload_n 0, 1) := by decide +kernel
theorem dX4_addByte_20 : decode cX4_addByte 20 = .ok (.dup, 1) := by decide +kernel
theorem dX4_addByte_21 : decode cX4_addByte 21 = .ok (.getfield 7, 3) := by decide +kernel
theorem dX4_addByte_24 : decode cX4_addByte 24 = .ok (.iconst 1, 1) := by decide +kernel
theorem dX4_addByte_25 : decode cX4_addByte 25 = .ok (.iadd, 1) := by decide +kernel
theorem dX4_addByte_26 : decode cX4_addByte 26 = .ok (.putfield 7, 3) := by decide +kernel
theorem dX4_addByte_29 : decode cX4_addByte 29 = .ok (.return_, 1) := by decide +kernel
theorem dX4_toFirstToken_0 : decode cX4_toFirstToken 0 = .ok (.aload_n 0, 1) := by decide +kernel
theorem dX4_toFirstToken_1 : decode cX4_toFirstToken 1 = .ok (.iconst 0, 1) := by decide +kernel
theorem dX4_toFirstToken_2 : decode cX4_toFirstToken 2 = .ok (.putfield 19, 3) := by decide +kernel
theorem dX4_toFirstToken_5 : decode cX4_toFirstToken 5 = .ok (.aload_n 0, 1) := by decide +kernel
theorem dX4_toFirstToken_6 : decode cX4_toFirstToken 6 = .ok (.invokevirtual 29, 3) := by decide +kernel
theorem dX4_toFirstToken_9 : decode cX4_toFirstToken 9 = .ok (.return_, 1) := by decide +kernel
theorem dX4_toNextToken_0 : decode cX4_toNextToken 0 = .ok (.aload_n 0, 1) := by decide +kernel
theorem dX4_toNextToken_1 : decode cX4_toNextToken 1 = .ok (.getfield 19, 3) := by decide +kernel
theorem dX4_toNextToken_4 : decode cX4_toNextToken 4 = .ok (.aload_n 0, 1) := by decide +kernel
theorem dX4_toNextToken_5 : decode cX4_toNextToken 5 = .ok (.getfield 7, 3) := by decide +kernel
theorem dX4_toNextToken_8 : decode cX4_toNextToken 8 = .ok (.if_icmp .ge 30, 3) := by decide +kernel
theorem dX4_toNextToken_11 : decode cX4_toNextToken 11 = .ok (.aload_n 0, 1) := by decide +kernel
theorem dX4_toNextToken_12 : decode cX4_toNextToken 12 = .ok (.getfield 25, 3) := by decide +kernel
theorem dX4_toNextToken_15 : decode cX4_toNextToken 15 = .ok (.aload_n 0, 1) := by decide +kernel
theorem dX4_toNextToken_16 : decode cX4_toNextToken 16 = .ok (.getfield 19, 3) := by decide +kernel
theorem dX4_toNextToken_19 : decode cX4_toNextToken 19 = .ok (.iaload, 1) := by decide +kernel
theorem dX4_toNextToken_20 : decode cX4_toNextToken 20 = .ok (.bipush 32, 2) := by decide +kernel
theorem dX4_toNextToken_22 : decode cX4_toNextToken 22 = .ok (.if_icmp .ne 16, 3) := by decide +kernel
theorem dX4_toNextToken_25 : decode cX4_toNextToken 25 = .ok (.aload_n 0, 1) := by decide +kernel
theorem dX4_toNextToken_26 : decode cX4_toNextToken 26 = .ok (.dup, 1) := by decide +kernel
theorem dX4_toNextToken_27 : decode cX4_toNextToken 27 = .ok (.getfield 19, 3) := by decide +kernel
theorem dX4_toNextToken_30 : decode cX4_toNextToken 30 = .ok (.iconst 1, 1) := by decide +kernel
theorem dX4_toNextToken_31 : decode cX4_toNextToken 31 = .ok (.iadd, 1) := by decide +kernel
theorem dX4_toNextToken_32 : decode cX4_toNextToken 32 = .ok (.putfield 19, 3) := by decide +kernel
theorem dX4_toNextToken_35 : decode cX4_toNextToken 35 = .ok (.goto (-35), 3) := by decide +kernel
theorem dX4_toNextToken_38 : decode cX4_toNextToken 38 = .ok (.aload_n 0, 1) := by decide +kernel
theorem dX4_toNextToken_39 : decode cX4_toNextToken 39 = .ok (.aload_n 0, 1) := by decide +kernel
theorem dX4_toNextToken_40 : decode cX4_toNextToken 40 = .ok (.getfield 19, 3) := by decide +kernel
theorem dX4_toNextToken_43 : decode cX4_toNextToken 43 = .ok (.putfield 16, 3) := by decide +kernel
theorem dX4_toNextToken_46 : decode cX4_toNextToken 46 = .ok (.aload_n 0, 1) := by decide +kernel
theorem dX4_toNextToken_47 : decode cX4_toNextToken 47 = .ok (.getfield 19, 3) := by decide +kernel
theorem dX4_toNextToken_50 : decode cX4_toNextToken 50 = .ok (.aload_n 0, 1) := by decide +kernel
theorem dX4_toNextToken_51 : decode cX4_toNextToken 51 = .ok (.getfield 7, 3) := by decide +kernel
theorem dX4_toNextToken_54 : decode cX4_toNextToken 54 = .ok (.if_icmp .lt 11, 3) := by decide +kernel
theorem dX4_toNextToken_57 : decode cX4_toNextToken 57 = .ok (.aload_n 0, 1) := by decide +kernel
theorem dX4_toNextToken_58 : decode cX4_toNextToken 58 = .ok (.iconst 0, 1) := by decide +kernel
theorem dX4_toNextToken_59 : decode cX4_toNextToken 59 = .ok (.putfield 13, 3) := by decide +kernel
theorem dX4_toNextToken_62 : decode cX4_toNextToken 62 = .ok (.goto 90, 3) := by decide +kernel
theorem dX4_toNextToken_65 : decode cX4_toNextToken 65 = .ok (.aload_n 0, 1) := by decide +kernel
theorem dX4_toNextToken_66 : decode cX4_toNextToken 66 = .ok (.getfield 25, 3) := by decide +kernel
theorem dX4_toNextToken_69 : decode cX4_toNextToken 69 = .ok (.aload_n 0, 1) := by decide +kernel
theorem dX4_toNextToken_70 : decode cX4_toNextToken 70 = .ok (.getfield 19, 3) := by decide +kernel
theorem dX4_toNextToken_73 : decode cX4_toNextToken 73 = .ok (.iaload, 1) := by decide +kernel
theorem dX4_toNextToken_74 : decode cX4_toNextToken 74 = .ok (.invokestatic 32, 3) := by decide +kernel
theorem dX4_toNextToken_77 : decode cX4_toNextToken 77 = .ok (.ifCond .eq 15, 3) := by decide +kernel
theorem dX4_toNextToken_80 : decode cX4_toNextToken 80 = .ok (.aload_n 0, 1) := by decide +kernel
theorem dX4_toNextToken_81 : decode cX4_toNextToken 81 = .ok (.iconst 1, 1) := by decide +kernel
theorem dX4_toNextToken_82 : decode cX4_toNextToken 82 = .ok (.putfield 13, 3) := by decide +kernel
theorem dX4_toNextToken_85 : decode cX4_toNextToken 85 = .ok (.aload_n 0, 1) := by decide +kernel
theorem dX4_toNextToken_86 : decode cX4_toNextToken 86 = .ok (.invokevirtual 36, 3) := by decide +kernel
theorem dX4_toNextToken_89 : decode cX4_toNextToken 89 = .ok (.goto 63, 3) := by decide +kernel
theorem dX4_toNextToken_92 : decode cX4_toNextToken 92 = .ok (.aload_n 0, 1) := by decide +kernel
theorem dX4_toNextToken_93 : decode cX4_toNextToken 93 = .ok (.getfield 25, 3) := by decide +kernel
theorem dX4_toNextToken_96 : decode cX4_toNextToken 96 = .ok (.aload_n 0, 1) := by decide +kernel
theorem dX4_toNextToken_97 : decode cX4_toNextToken 97 = .ok (.getfield 19, 3) := by decide +kernel
theorem dX4_toNextToken_100 : decode cX4_toNextToken 100 = .ok (.iaload, 1) := by decide +kernel
theorem dX4_toNextToken_101 : decode cX4_toNextToken 101 = .ok (.invokestatic 39, 3) := by decide +kernel
theorem dX4_toNextToken_104 : decode cX4_toNextToken 104 = .ok (.ifCond .eq 15, 3) := by decide +kernel
theorem dX4_toNextToken_107 : decode cX4_toNextToken 107 = .ok (.aload_n 0, 1) := by decide +kernel
theorem dX4_toNextToken_108 : decode cX4_toNextToken 108 = .ok (.iconst 2, 1) := by decide +kernel
theorem dX4_toNextToken_109 : decode cX4_toNextToken 109 = .ok (.putfield 13, 3) := by decide +kernel
theorem dX4_toNextToken_112 : decode cX4_toNextToken 112 = .ok (.aload_n 0, 1) := by decide +kernel
theorem dX4_toNextToken_113 : decode cX4_toNextToken 113 = .ok (.invokevirtual 42, 3) := by decide +kernel
theorem dX4_toNextToken_116 : decode cX4_toNextToken 116 = .ok (.goto 36, 3) := by decide +kernel
theorem dX4_toNextToken_119 : decode cX4_toNextToken 119 = .ok (.aload_n 0, 1) := by decide +kernel
theorem dX4_toNextToken_120 : decode cX4_toNextToken 120 = .ok (.aload_n 0, 1) := by decide +kernel
theorem dX4_toNextToken_121 : decode cX4_toNextToken 121 = .ok (.getfield 25, 3) := by decide +kernel
theorem dX4_toNextToken_124 : decode cX4_toNextToken 124 = .ok (.aload_n 0, 1) := by decide +kernel
theorem dX4_toNextToken_125 : decode cX4_toNextToken 125 = .ok (.getfield 19, 3) := by decide +kernel
theorem dX4_toNextToken_128 : decode cX4_toNextToken 128 = .ok (.iaload, 1) := by decide +kernel
theorem dX4_toNextToken_129 : decode cX4_toNextToken 129 = .ok (.bipush 59, 2) := by decide +kernel
theorem dX4_toNextToken_131 : decode cX4_toNextToken 131 = .ok (.if_icmp .ne 7, 3) := by decide +kernel
theorem dX4_toNextToken_134 : decode cX4_toNextToken 134 = .ok (.iconst 3, 1) := by decide +kernel
theorem dX4_toNextToken_135 : decode cX4_toNextToken 135 = .ok (.goto 4, 3) := by decide +kernel
theorem dX4_toNextToken_138 : decode cX4_toNextToken 138 = .ok (.iconst 4, 1) := by decide +kernel
theorem dX4_toNextToken_139 : decode cX4_toNextToken 139 = .ok (.putfield 13, 3) := by decide +kernel
theorem dX4_toNextToken_142 : decode cX4_toNextToken 142 = .ok (.aload_n 0, 1) := by decide +kernel
theorem dX4_toNextToken_143 : decode cX4_toNextToken 143 = .ok (.dup, 1) := by decide +kernel
theorem dX4_toNextToken_144 : decode cX4_toNextToken 144 = .ok (.getfield 19, 3) := by decide +kernel
theorem dX4_toNextToken_147 : decode cX4_toNextToken 147 = .ok (.iconst 1, 1) := by decide +kernel
theorem dX4_toNextToken_148 : decode cX4_toNextToken 148 = .ok (.iadd, 1) := by decide +kernel
theorem dX4_toNextToken_149 : decode cX4_toNextToken 149 = .ok (.putfield 19, 3) := by decide +kernel
theorem dX4_toNextToken_152 : decode cX4_toNextToken 152 = .ok (.return_, 1) := by decide +kernel
theorem dX4_passLetters_0 : decode cX4_passLetters 0 = .ok (.aload_n 0, 1) := by decide +kernel
theorem dX4_passLetters_1 : decode cX4_passLetters 1 = .ok (.getfield 19, 3) := by decide +kernel
theorem dX4_passLetters_4 : decode cX4_passLetters 4 = .ok (.aload_n 0, 1) := by decide +kernel
theorem dX4_passLetters_5 : decode cX4_passLetters 5 = .ok (.getfield 7, 3) := by decide +kernel
theorem dX4_passLetters_8 : decode cX4_passLetters 8 = .ok (.if_icmp .ge 31, 3) := by decide +kernel
theorem dX4_passLetters_11 : decode cX4_passLetters 11 = .ok (.aload_n 0, 1) := by decide +kernel
theorem dX4_passLetters_12 : decode cX4_passLetters 12 = .ok (.getfield 25, 3) := by decide +kernel
theorem dX4_passLetters_15 : decode cX4_passLetters 15 = .ok (.aload_n 0, 1) := by decide +kernel
theorem dX4_passLetters_16 : decode cX4_passLetters 16 = .ok (.getfield 19, 3) := by decide +kernel
theorem dX4_passLetters_19 : decode cX4_passLetters 19 = .ok (.iaload, 1) := by decide +kernel
theorem dX4_passLetters_20 : decode cX4_passLetters 20 = .ok (.invokestatic 32, 3) := by decide +kernel
theorem dX4_passLetters_23 : decode cX4_passLetters 23 = .ok (.ifCond .eq 16, 3) := by decide +kernel
theorem dX4_passLetters_26 : decode cX4_passLetters 26 = .ok (.aload_n 0, 1) := by decide +kernel
theorem dX4_passLetters_27 : decode cX4_passLetters 27 = .ok (.dup, 1) := by decide +kernel
theorem dX4_passLetters_28 : decode cX4_passLetters 28 = .ok (.getfield 19, 3) := by decide +kernel
theorem dX4_passLetters_31 : decode cX4_passLetters 31 = .ok (.iconst 1, 1) := by decide +kernel
theorem dX4_passLetters_32 : decode cX4_passLetters 32 = .ok (.iadd, 1) := by decide +kernel
theorem dX4_passLetters_33 : decode cX4_passLetters 33 = .ok (.putfield 19, 3) := by decide +kernel
theorem dX4_passLetters_36 : decode cX4_passLetters 36 = .ok (.goto (-36), 3) := by decide +kernel
theorem dX4_passLetters_39 : decode cX4_passLetters 39 = .ok (.return_, 1) := by decide +kernel
theorem dX4_passDigits_0 : decode cX4_passDigits 0 = .ok (.aload_n 0, 1) := by decide +kernel
theorem dX4_passDigits_1 : decode cX4_passDigits 1 = .ok (.iconst 0, 1) := by decide +kernel
theorem dX4_passDigits_2 : decode cX4_passDigits 2 = .ok (.putfield 22, 3) := by decide +kernel
theorem dX4_passDigits_5 : decode cX4_passDigits 5 = .ok (.aload_n 0, 1) := by decide +kernel
theorem dX4_passDigits_6 : decode cX4_passDigits 6 = .ok (.getfield 19, 3) := by decide +kernel
theorem dX4_passDigits_9 : decode cX4_passDigits 9 = .ok (.aload_n 0, 1) := by decide +kernel
theorem dX4_passDigits_10 : decode cX4_passDigits 10 = .ok (.getfield 7, 3) := by decide +kernel
theorem dX4_passDigits_13 : decode cX4_passDigits 13 = .ok (.if_icmp .ge 61, 3) := by decide +kernel
theorem dX4_passDigits_16 : decode cX4_passDigits 16 = .ok (.aload_n 0, 1) := by decide +kernel
theorem dX4_passDigits_17 : decode cX4_passDigits 17 = .ok (.getfield 25, 3) := by decide +kernel
theorem dX4_passDigits_20 : decode cX4_passDigits 20 = .ok (.aload_n 0, 1) := by decide +kernel
theorem dX4_passDigits_21 : decode cX4_passDigits 21 = .ok (.getfield 19, 3) := by decide +kernel
theorem dX4_passDigits_24 : decode cX4_passDigits 24 = .ok (.iaload, 1) := by decide +kernel
theorem dX4_passDigits_25 : decode cX4_passDigits 25 = .ok (.invokestatic 39, 3) := by decide +kernel
theorem dX4_passDigits_28 : decode cX4_passDigits 28 = .ok (.ifCond .eq 46, 3) := by decide +kernel
theorem dX4_passDigits_31 : decode cX4_passDigits 31 = .ok (.aload_n 0, 1) := by decide +kernel
theorem dX4_passDigits_32 : decode cX4_passDigits 32 = .ok (.sipush 1000, 3) := by decide +kernel
theorem dX4_passDigits_35 : decode cX4_passDigits 35 = .ok (.bipush 10, 2) := by decide +kernel
theorem dX4_passDigits_37 : decode cX4_passDigits 37 = .ok (.aload_n 0, 1) := by decide +kernel
theorem dX4_passDigits_38 : decode cX4_passDigits 38 = .ok (.getfield 22, 3) := by decide +kernel
theorem dX4_passDigits_41 : decode cX4_passDigits 41 = .ok (.imul, 1) := by decide +kernel
theorem dX4_passDigits_42 : decode cX4_passDigits 42 = .ok (.aload_n 0, 1) := by decide +kernel
theorem dX4_passDigits_43 : decode cX4_passDigits 43 = .ok (.getfield 25, 3) := by decide +kernel
theorem dX4_passDigits_46 : decode cX4_passDigits 46 = .ok (.aload_n 0, 1) := by decide +kernel
theorem dX4_passDigits_47 : decode cX4_passDigits 47 = .ok (.getfield 19, 3) := by decide +kernel
theorem dX4_passDigits_50 : decode cX4_passDigits 50 = .ok (.iaload, 1) := by decide +kernel
theorem dX4_passDigits_51 : decode cX4_passDigits 51 = .ok (.iadd, 1) := by decide +kernel
theorem dX4_passDigits_52 : decode cX4_passDigits 52 = .ok (.bipush 48, 2) := by decide +kernel
theorem dX4_passDigits_54 : decode cX4_passDigits 54 = .ok (.isub, 1) := by decide +kernel
theorem dX4_passDigits_55 : decode cX4_passDigits 55 = .ok (.invokestatic 45, 3) := by decide +kernel
theorem dX4_passDigits_58 : decode cX4_passDigits 58 = .ok (.putfield 22, 3) := by decide +kernel
theorem dX4_passDigits_61 : decode cX4_passDigits 61 = .ok (.aload_n 0, 1) := by decide +kernel
theorem dX4_passDigits_62 : decode cX4_passDigits 62 = .ok (.dup, 1) := by decide +kernel
theorem dX4_passDigits_63 : decode cX4_passDigits 63 = .ok (.getfield 19, 3) := by decide +kernel
theorem dX4_passDigits_66 : decode cX4_passDigits 66 = .ok (.iconst 1, 1) := by decide +kernel
theorem dX4_passDigits_67 : decode cX4_passDigits 67 = .ok (.iadd, 1) := by decide +kernel
theorem dX4_passDigits_68 : decode cX4_passDigits 68 = .ok (.putfield 19, 3) := by decide +kernel
theorem dX4_passDigits_71 : decode cX4_passDigits 71 = .ok (.goto (-66), 3) := by decide +kernel
theorem dX4_passDigits_74 : decode cX4_passDigits 74 = .ok (.return_, 1) := by decide +kernel
theorem dX4_isWord_0 : decode cX4_isWord 0 = .ok (.aload_n 0, 1) := by decide +kernel
theorem dX4_isWord_1 : decode cX4_isWord 1 = .ok (.getfield 13, 3) := by decide +kernel
theorem dX4_isWord_4 : decode cX4_isWord 4 = .ok (.iconst 1, 1) := by decide +kernel
theorem dX4_isWord_5 : decode cX4_isWord 5 = .ok (.if_icmp .ne 19, 3) := by decide +kernel
theorem dX4_isWord_8 : decode cX4_isWord 8 = .ok (.aload_n 0, 1) := by decide +kernel
theorem dX4_isWord_9 : decode cX4_isWord 9 = .ok (.getfield 19, 3) := by decide +kernel
theorem dX4_isWord_12 : decode cX4_isWord 12 = .ok (.aload_n 0, 1) := by decide +kernel
theorem dX4_isWord_13 : decode cX4_isWord 13 = .ok (.getfield 16, 3) := by decide +kernel
theorem dX4_isWord_16 : decode cX4_isWord 16 = .ok (.isub, 1) := by decide +kernel
theorem dX4_isWord_17 : decode cX4_isWord 17 = .ok (.aload_n 1, 1) := by decide +kernel
theorem dX4_isWord_18 : decode cX4_isWord 18 = .ok (.invokevirtual 51, 3) := by decide +kernel
theorem dX4_isWord_21 : decode cX4_isWord 21 = .ok (.if_icmp .eq 5, 3) := by decide +kernel
theorem dX4_isWord_24 : decode cX4_isWord 24 = .ok (.iconst 0, 1) := by decide +kernel
theorem dX4_isWord_25 : decode cX4_isWord 25 = .ok (.ireturn, 1) := by decide +kernel
theorem dX4_isWord_26 : decode cX4_isWord 26 = .ok (.iconst 0, 1) := by decide +kernel
theorem dX4_isWord_27 : decode cX4_isWord 27 = .ok (.istore_n 2, 1) := by decide +kernel
theorem dX4_isWord_28 : decode cX4_isWord 28 = .ok (.iload_n 2, 1) := by decide +kernel
theorem dX4_isWord_29 : decode cX4_isWord 29 = .ok (.aload_n 1, 1) := by decide +kernel
theorem dX4_isWord_30 : decode cX4_isWord 30 = .ok (.invokevirtual 51, 3) := by decide +kernel
theorem dX4_isWord_33 : decode cX4_isWord 33 = .ok (.if_icmp .ge 30, 3) := by decide +kernel
theorem dX4_isWord_36 : decode cX4_isWord 36 = .ok (.aload_n 0, 1) := by decide +kernel
theorem dX4_isWord_37 : decode cX4_isWord 37 = .ok (.getfield 25, 3) := by decide +kernel
theorem dX4_isWord_40 : decode cX4_isWord 40 = .ok (.aload_n 0, 1) := by decide +kernel
theorem dX4_isWord_41 : decode cX4_isWord 41 = .ok (.getfield 16, 3) := by decide +kernel
theorem dX4_isWord_44 : decode cX4_isWord 44 = .ok (.iload_n 2, 1) := by decide +kernel
theorem dX4_isWord_45 : decode cX4_isWord 45 = .ok (.iadd, 1) := by decide +kernel
theorem dX4_isWord_46 : decode cX4_isWord 46 = .ok (.iaload, 1) := by decide +kernel
theorem dX4_isWord_47 : decode cX4_isWord 47 = .ok (.aload_n 1, 1) := by decide +kernel
theorem dX4_isWord_48 : decode cX4_isWord 48 = .ok (.iload_n 2, 1) := by decide +kernel
theorem dX4_isWord_49 : decode cX4_isWord 49 = .ok (.invokevirtual 56, 3) := by decide +kernel
theorem dX4_isWord_52 : decode cX4_isWord 52 = .ok (.if_icmp .eq 5, 3) := by decide +kernel
theorem dX4_isWord_55 : decode cX4_isWord 55 = .ok (.iconst 0, 1) := by decide +kernel
theorem dX4_isWord_56 : decode cX4_isWord 56 = .ok (.ireturn, 1) := by decide +kernel
theorem dX4_isWord_57 : decode cX4_isWord 57 = .ok (.iinc 2 1, 3) := by decide +kernel
theorem dX4_isWord_60 : decode cX4_isWord 60 = .ok (.goto (-32), 3) := by decide +kernel
theorem dX4_isWord_63 : decode cX4_isWord 63 = .ok (.iconst 1, 1) := by decide +kernel
theorem dX4_isWord_64 : decode cX4_isWord 64 = .ok (.ireturn, 1) := by decide +kernel
theorem dX4_number_0 : decode cX4_number 0 = .ok (.aload_n 0, 1) := by decide +kernel
theorem dX4_number_1 : decode cX4_number 1 = .ok (.getfield 13, 3) := by decide +kernel
theorem dX4_number_4 : decode cX4_number 4 = .ok (.iconst 2, 1) := by decide +kernel
theorem dX4_number_5 : decode cX4_number 5 = .ok (.if_icmp .ne 22, 3) := by decide +kernel
theorem dX4_number_8 : decode cX4_number 8 = .ok (.aload_n 0, 1) := by decide +kernel
theorem dX4_number_9 : decode cX4_number 9 = .ok (.getfield 22, 3) := by decide +kernel
theorem dX4_number_12 : decode cX4_number 12 = .ok (.iload_n 1, 1) := by decide +kernel
theorem dX4_number_13 : decode cX4_number 13 = .ok (.iload_n 2, 1) := by decide +kernel
theorem dX4_number_14 : decode cX4_number 14 = .ok (.invokestatic 60, 3) := by decide +kernel
theorem dX4_number_17 : decode cX4_number 17 = .ok (.ifCond .eq 10, 3) := by decide +kernel
theorem dX4_number_20 : decode cX4_number 20 = .ok (.aload_n 0, 1) := by decide +kernel
theorem dX4_number_21 : decode cX4_number 21 = .ok (.getfield 22, 3) := by decide +kernel
theorem dX4_number_24 : decode cX4_number 24 = .ok (.goto 4, 3) := by decide +kernel
theorem dX4_number_27 : decode cX4_number 27 = .ok (.iconst (-1), 1) := by decide +kernel
theorem dX4_number_28 : decode cX4_number 28 = .ok (.ireturn, 1) := by decide +kernel
theorem dX4_isLetter_0 : decode cX4_isLetter 0 = .ok (.iload_n 0, 1) := by decide +kernel
theorem dX4_isLetter_1 : decode cX4_isLetter 1 = .ok (.bipush 97, 2) := by decide +kernel
theorem dX4_isLetter_3 : decode cX4_isLetter 3 = .ok (.if_icmp .lt 13, 3) := by decide +kernel
theorem dX4_isLetter_6 : decode cX4_isLetter 6 = .ok (.iload_n 0, 1) := by decide +kernel
theorem dX4_isLetter_7 : decode cX4_isLetter 7 = .ok (.bipush 122, 2) := by decide +kernel
theorem dX4_isLetter_9 : decode cX4_isLetter 9 = .ok (.if_icmp .gt 7, 3) := by decide +kernel
theorem dX4_isLetter_12 : decode cX4_isLetter 12 = .ok (.iconst 1, 1) := by decide +kernel
theorem dX4_isLetter_13 : decode cX4_isLetter 13 = .ok (.goto 4, 3) := by decide +kernel
theorem dX4_isLetter_16 : decode cX4_isLetter 16 = .ok (.iconst 0, 1) := by decide +kernel
theorem dX4_isLetter_17 : decode cX4_isLetter 17 = .ok (.ireturn, 1) := by decide +kernel
theorem dX4_isDigit_0 : decode cX4_isDigit 0 = .ok (.iload_n 0, 1) := by decide +kernel
theorem dX4_isDigit_1 : decode cX4_isDigit 1 = .ok (.bipush 48, 2) := by decide +kernel
theorem dX4_isDigit_3 : decode cX4_isDigit 3 = .ok (.if_icmp .lt 13, 3) := by decide +kernel
theorem dX4_isDigit_6 : decode cX4_isDigit 6 = .ok (.iload_n 0, 1) := by decide +kernel
theorem dX4_isDigit_7 : decode cX4_isDigit 7 = .ok (.bipush 57, 2) := by decide +kernel
theorem dX4_isDigit_9 : decode cX4_isDigit 9 = .ok (.if_icmp .gt 7, 3) := by decide +kernel
theorem dX4_isDigit_12 : decode cX4_isDigit 12 = .ok (.iconst 1, 1) := by decide +kernel
theorem dX4_isDigit_13 : decode cX4_isDigit 13 = .ok (.goto 4, 3) := by decide +kernel
theorem dX4_isDigit_16 : decode cX4_isDigit 16 = .ok (.iconst 0, 1) := by decide +kernel
theorem dX4_isDigit_17 : decode cX4_isDigit 17 = .ok (.ireturn, 1) := by decide +kernel
theorem dX5_tell_0 : decode cX5_tell 0 = .ok (.aload_n 0, 1) := by decide +kernel
theorem dX5_tell_1 : decode cX5_tell 1 = .ok (.invokevirtual 7, 3) := by decide +kernel
theorem dX5_tell_4 : decode cX5_tell 4 = .ok (.iconst 1, 1) := by decide +kernel
theorem dX5_tell_5 : decode cX5_tell 5 = .ok (.istore_n 2, 1) := by decide +kernel
theorem dX5_tell_6 : decode cX5_tell 6 = .ok (.iload_n 2, 1) := by decide +kernel
theorem dX5_tell_7 : decode cX5_tell 7 = .ok (.bipush 120, 2) := by decide +kernel
theorem dX5_tell_9 : decode cX5_tell 9 = .ok (.if_icmp .gt 47, 3) := by decide +kernel
theorem dX5_tell_12 : decode cX5_tell 12 = .ok (.aload_n 0, 1) := by decide +kernel
theorem dX5_tell_13 : decode cX5_tell 13 = .ok (.aload_n 1, 1) := by decide +kernel
theorem dX5_tell_14 : decode cX5_tell 14 = .ok (.invokestatic 12, 3) := by decide +kernel
theorem dX5_tell_17 : decode cX5_tell 17 = .ok (.istore_n 3, 1) := by decide +kernel
theorem dX5_tell_18 : decode cX5_tell 18 = .ok (.iload_n 3, 1) := by decide +kernel
theorem dX5_tell_19 : decode cX5_tell 19 = .ok (.ifCond .eq 12, 3) := by decide +kernel
theorem dX5_tell_22 : decode cX5_tell 22 = .ok (.aload_n 0, 1) := by decide +kernel
theorem dX5_tell_23 : decode cX5_tell 23 = .ok (.getfield 18, 3) := by decide +kernel
theorem dX5_tell_26 : decode cX5_tell 26 = .ok (.ifCond .ne 5, 3) := by decide +kernel
theorem dX5_tell_29 : decode cX5_tell 29 = .ok (.iload_n 2, 1) := by decide +kernel
theorem dX5_tell_30 : decode cX5_tell 30 = .ok (.ireturn, 1) := by decide +kernel
theorem dX5_tell_31 : decode cX5_tell 31 = .ok (.iload_n 3, 1) := by decide +kernel
theorem dX5_tell_32 : decode cX5_tell 32 = .ok (.ifCond .eq 24, 3) := by decide +kernel
theorem dX5_tell_35 : decode cX5_tell 35 = .ok (.aload_n 0, 1) := by decide +kernel
theorem dX5_tell_36 : decode cX5_tell 36 = .ok (.getfield 18, 3) := by decide +kernel
theorem dX5_tell_39 : decode cX5_tell 39 = .ok (.iconst 3, 1) := by decide +kernel
theorem dX5_tell_40 : decode cX5_tell 40 = .ok (.if_icmp .eq 6, 3) := by decide +kernel
theorem dX5_tell_43 : decode cX5_tell 43 = .ok (.goto 13, 3) := by decide +kernel
theorem dX5_tell_46 : decode cX5_tell 46 = .ok (.aload_n 0, 1) := by decide +kernel
theorem dX5_tell_47 : decode cX5_tell 47 = .ok (.invokevirtual 22, 3) := by decide +kernel
theorem dX5_tell_50 : decode cX5_tell 50 = .ok (.iinc 2 1, 3) := by decide +kernel
theorem dX5_tell_53 : decode cX5_tell 53 = .ok (.goto (-47), 3) := by decide +kernel
theorem dX5_tell_56 : decode cX5_tell 56 = .ok (.iconst (-1), 1) := by decide +kernel
theorem dX5_tell_57 : decode cX5_tell 57 = .ok (.aload_n 0, 1) := by decide +kernel
theorem dX5_tell_58 : decode cX5_tell 58 = .ok (.getfield 25, 3) := by decide +kernel
theorem dX5_tell_61 : decode cX5_tell 61 = .ok (.isub, 1) := by decide +kernel
theorem dX5_tell_62 : decode cX5_tell 62 = .ok (.ireturn, 1) := by decide +kernel
theorem dX5_tellItem_0 : decode cX5_tellItem 0 = .ok (.iconst 0, 1) := by decide +kernel
theorem dX5_tellItem_1 : decode cX5_tellItem 1 = .ok (.istore_n 2, 1) := by decide +kernel
theorem dX5_tellItem_2 : decode cX5_tellItem 2 = .ok (.iload_n 2, 1) := by decide +kernel
theorem dX5_tellItem_3 : decode cX5_tellItem 3 = .ok (.bipush 6, 2) := by decide +kernel
theorem dX5_tellItem_5 : decode cX5_tellItem 5 = .ok (.if_icmp .ge 27, 3) := by decide +kernel
theorem dX5_tellItem_8 : decode cX5_tellItem 8 = .ok (.aload_n 0, 1) := by decide +kernel
theorem dX5_tellItem_9 : decode cX5_tellItem 9 = .ok (.iload_n 2, 1) := by decide +kernel
theorem dX5_tellItem_10 : decode cX5_tellItem 10 = .ok (.invokestatic 30, 3) := by decide +kernel
theorem dX5_tellItem_13 : decode cX5_tellItem 13 = .ok (.invokevirtual 34, 3) := by decide +kernel
theorem dX5_tellItem_16 : decode cX5_tellItem 16 = .ok (.ifCond .eq 10, 3) := by decide +kernel
theorem dX5_tellItem_19 : decode cX5_tellItem 19 = .ok (.aload_n 0, 1) := by decide +kernel
theorem dX5_tellItem_20 : decode cX5_tellItem 20 = .ok (.aload_n 1, 1) := by decide +kernel
theorem dX5_tellItem_21 : decode cX5_tellItem 21 = .ok (.iload_n 2, 1) := by decide +kernel
theorem dX5_tellItem_22 : decode cX5_tellItem 22 = .ok (.invokestatic 38, 3) := by decide +kernel
theorem dX5_tellItem_25 : decode cX5_tellItem 25 = .ok (.ireturn, 1) := by decide +kernel
theorem dX5_tellItem_26 : decode cX5_tellItem 26 = .ok (.iinc 2 1, 3) := by decide +kernel
theorem dX5_tellItem_29 : decode cX5_tellItem 29 = .ok (.goto (-27), 3) := by decide +kernel
theorem dX5_tellItem_32 : decode cX5_tellItem 32 = .ok (.aload_n 0, 1) := by decide +kernel
theorem dX5_tellItem_33 : decode cX5_tellItem 33 = .ok (.ldc 42, 2) := by decide +kernel
theorem dX5_tellItem_35 : decode cX5_tellItem 35 = .ok (.invokevirtual 34, 3) := by decide +kernel
theorem dX5_tellItem_38 : decode cX5_tellItem 38 = .ok (.ifCond .eq 9, 3) := by decide +kernel
theorem dX5_tellItem_41 : decode cX5_tellItem 41 = .ok (.aload_n 0, 1) := by decide +kernel
theorem dX5_tellItem_42 : decode cX5_tellItem 42 = .ok (.aload_n 1, 1) := by decide +kernel
theorem dX5_tellItem_43 : decode cX5_tellItem 43 = .ok (.invokestatic 44, 3) := by decide +kernel
theorem dX5_tellItem_46 : decode cX5_tellItem 46 = .ok (.ireturn, 1) := by decide +kernel
theorem dX5_tellItem_47 : decode cX5_tellItem 47 = .ok (.aload_n 0, 1) := by decide +kernel
theorem dX5_tellItem_48 : decode cX5_tellItem 48 = .ok (.ldc 47, 2) := by decide +kernel
theorem dX5_tellItem_50 : decode cX5_tellItem 50 = .ok (.invokevirtual 34, 3) := by decide +kernel
theorem dX5_tellItem_53 : decode cX5_tellItem 53 = .ok (.ifCond .eq 10, 3) := by decide +kernel
theorem dX5_tellItem_56 : decode cX5_tellItem 56 = .ok (.aload_n 0, 1) := by decide +kernel
theorem dX5_tellItem_57 : decode cX5_tellItem 57 = .ok (.aload_n 1, 1) := by decide +kernel
theorem dX5_tellItem_58 : decode cX5_tellItem 58 = .ok (.iconst 0, 1) := by decide +kernel
theorem dX5_tellItem_59 : decode cX5_tellItem 59 = .ok (.invokestatic 49, 3) := by decide +kernel
theorem dX5_tellItem_62 : decode cX5_tellItem 62 = .ok (.ireturn, 1) := by decide +kernel
theorem dX5_tellItem_63 : decode cX5_tellItem 63 = .ok (.aload_n 0, 1) := by decide +kernel
theorem dX5_tellItem_64 : decode cX5_tellItem 64 = .ok (.ldc 52, 2) := by decide +kernel
theorem dX5_tellItem_66 : decode cX5_tellItem 66 = .ok (.invokevirtual 34, 3) := by decide +kernel
theorem dX5_tellItem_69 : decode cX5_tellItem 69 = .ok (.ifCond .eq 10, 3) := by decide +kernel
theorem dX5_tellItem_72 : decode cX5_tellItem 72 = .ok (.aload_n 0, 1) := by decide +kernel
theorem dX5_tellItem_73 : decode cX5_tellItem 73 = .ok (.aload_n 1, 1) := by decide +kernel
theorem dX5_tellItem_74 : decode cX5_tellItem 74 = .ok (.iconst 2, 1) := by decide +kernel
theorem dX5_tellItem_75 : decode cX5_tellItem 75 = .ok (.invokestatic 49, 3) := by decide +kernel
theorem dX5_tellItem_78 : decode cX5_tellItem 78 = .ok (.ireturn, 1) := by decide +kernel
theorem dX5_tellItem_79 : decode cX5_tellItem 79 = .ok (.aload_n 0, 1) := by decide +kernel
theorem dX5_tellItem_80 : decode cX5_tellItem 80 = .ok (.ldc 54, 2) := by decide +kernel
theorem dX5_tellItem_82 : decode cX5_tellItem 82 = .ok (.invokevirtual 34, 3) := by decide +kernel
theorem dX5_tellItem_85 : decode cX5_tellItem 85 = .ok (.ifCond .eq 16, 3) := by decide +kernel
theorem dX5_tellItem_88 : decode cX5_tellItem 88 = .ok (.aload_n 0, 1) := by decide +kernel
theorem dX5_tellItem_89 : decode cX5_tellItem 89 = .ok (.aload_n 1, 1) := by decide +kernel
theorem dX5_tellItem_90 : decode cX5_tellItem 90 = .ok (.iconst 3, 1) := by decide +kernel
theorem dX5_tellItem_91 : decode cX5_tellItem 91 = .ok (.invokestatic 49, 3) := by decide +kernel
theorem dX5_tellItem_94 : decode cX5_tellItem 94 = .ok (.ifCond .eq 7, 3) := by decide +kernel
theorem dX5_tellItem_97 : decode cX5_tellItem 97 = .ok (.iconst 1, 1) := by decide +kernel
theorem dX5_tellItem_98 : decode cX5_tellItem 98 = .ok (.goto 4, 3) := by decide +kernel
theorem dX5_tellItem_101 : decode cX5_tellItem 101 = .ok (.iconst 0, 1) := by decide +kernel
theorem dX5_tellItem_102 : decode cX5_tellItem 102 = .ok (.ireturn, 1) := by decide +kernel
theorem dX5_tellPage_0 : decode cX5_tellPage 0 = .ok (.aload_n 1, 1) := by decide +kernel
theorem dX5_tellPage_1 : decode cX5_tellPage 1 = .ok (.invokevirtual 56, 3) := by decide +kernel
theorem dX5_tellPage_4 : decode cX5_tellPage 4 = .ok (.ifCond .eq 5, 3) := by decide +kernel
theorem dX5_tellPage_7 : decode cX5_tellPage 7 = .ok (.iconst 0, 1) := by decide +kernel
theorem dX5_tellPage_8 : decode cX5_tellPage 8 = .ok (.ireturn, 1) := by decide +kernel
theorem dX5_tellPage_9 : decode cX5_tellPage 9 = .ok (.aload_n 0, 1) := by decide +kernel
theorem dX5_tellPage_10 : decode cX5_tellPage 10 = .ok (.invokevirtual 22, 3) := by decide +kernel
theorem dX5_tellPage_13 : decode cX5_tellPage 13 = .ok (.aload_n 0, 1) := by decide +kernel
theorem dX5_tellPage_14 : decode cX5_tellPage 14 = .ok (.iconst 1, 1) := by decide +kernel
theorem dX5_tellPage_15 : decode cX5_tellPage 15 = .ok (.bipush 99, 2) := by decide +kernel
theorem dX5_tellPage_17 : decode cX5_tellPage 17 = .ok (.invokevirtual 64, 3) := by decide +kernel
theorem dX5_tellPage_20 : decode cX5_tellPage 20 = .ok (.istore_n 3, 1) := by decide +kernel
theorem dX5_tellPage_21 : decode cX5_tellPage 21 = .ok (.iload_n 3, 1) := by decide +kernel
theorem dX5_tellPage_22 : decode cX5_tellPage 22 = .ok (.ifCond .lt 12, 3) := by decide +kernel
theorem dX5_tellPage_25 : decode cX5_tellPage 25 = .ok (.aload_n 1, 1) := by decide +kernel
theorem dX5_tellPage_26 : decode cX5_tellPage 26 = .ok (.iload_n 2, 1) := by decide +kernel
theorem dX5_tellPage_27 : decode cX5_tellPage 27 = .ok (.iload_n 3, 1) := by decide +kernel
theorem dX5_tellPage_28 : decode cX5_tellPage 28 = .ok (.invokevirtual 68, 3) := by decide +kernel
theorem dX5_tellPage_31 : decode cX5_tellPage 31 = .ok (.ifCond .ne 5, 3) := by decide +kernel
theorem dX5_tellPage_34 : decode cX5_tellPage 34 = .ok (.iconst 0, 1) := by decide +kernel
theorem dX5_tellPage_35 : decode cX5_tellPage 35 = .ok (.ireturn, 1) := by decide +kernel
theorem dX5_tellPage_36 : decode cX5_tellPage 36 = .ok (.aload_n 1, 1) := by decide +kernel
theorem dX5_tellPage_37 : decode cX5_tellPage 37 = .ok (.iload_n 2, 1) := by decide +kernel
theorem dX5_tellPage_38 : decode cX5_tellPage 38 = .ok (.iload_n 3, 1) := by decide +kernel
theorem dX5_tellPage_39 : decode cX5_tellPage 39 = .ok (.invokevirtual 72, 3) := by decide +kernel
theorem dX5_tellPage_42 : decode cX5_tellPage 42 = .ok (.istore 4, 2) := by decide +kernel
theorem dX5_tellPage_44 : decode cX5_tellPage 44 = .ok (.aload_n 0, 1) := by decide +kernel
theorem dX5_tellPage_45 : decode cX5_tellPage 45 = .ok (.invokevirtual 22, 3) := by decide +kernel
theorem dX5_tellPage_48 : decode cX5_tellPage 48 = .ok (.aload_n 0, 1) := by decide +kernel
theorem dX5_tellPage_49 : decode cX5_tellPage 49 = .ok (.ldc 75, 2) := by decide +kernel
theorem dX5_tellPage_51 : decode cX5_tellPage 51 = .ok (.invokevirtual 34, 3) := by decide +kernel
theorem dX5_tellPage_54 : decode cX5_tellPage 54 = .ok (.ifCond .eq 27, 3) := by decide +kernel
theorem dX5_tellPage_57 : decode cX5_tellPage 57 = .ok (.aload_n 1, 1) := by decide +kernel
theorem dX5_tellPage_58 : decode cX5_tellPage 58 = .ok (.iload 4, 2) := by decide +kernel
theorem dX5_tellPage_60 : decode cX5_tellPage 60 = .ok (.invokevirtual 77, 3) := by decide +kernel
theorem dX5_tellPage_63 : decode cX5_tellPage 63 = .ok (.ifCond .eq 18, 3) := by decide +kernel
theorem dX5_tellPage_66 : decode cX5_tellPage 66 = .ok (.aload_n 1, 1) := by decide +kernel
theorem dX5_tellPage_67 : decode cX5_tellPage 67 = .ok (.getfield 81, 3) := by decide +kernel
theorem dX5_tellPage_70 : decode cX5_tellPage 70 = .ok (.iload 4, 2) := by decide +kernel
theorem dX5_tellPage_72 : decode cX5_tellPage 72 = .ok (.aaload, 1) := by decide +kernel
theorem dX5_tellPage_73 : decode cX5_tellPage 73 = .ok (.iconst 1, 1) := by decide +kernel
theorem dX5_tellPage_74 : decode cX5_tellPage 74 = .ok (.putfield 85, 3) := by decide +kernel
theorem dX5_tellPage_77 : decode cX5_tellPage 77 = .ok (.aload_n 0, 1) := by decide +kernel
theorem dX5_tellPage_78 : decode cX5_tellPage 78 = .ok (.invokevirtual 22, 3) := by decide +kernel
theorem dX5_tellPage_81 : decode cX5_tellPage 81 = .ok (.iconst 1, 1) := by decide +kernel
theorem dX5_tellPage_82 : decode cX5_tellPage 82 = .ok (.ireturn, 1) := by decide +kernel
theorem dX5_tellDark_0 : decode cX5_tellDark 0 = .ok (.aload_n 0, 1) := by decide +kernel
theorem dX5_tellDark_1 : decode cX5_tellDark 1 = .ok (.invokevirtual 22, 3) := by decide +kernel
theorem dX5_tellDark_4 : decode cX5_tellDark 4 = .ok (.aload_n 0, 1) := by decide +kernel
theorem dX5_tellDark_5 : decode cX5_tellDark 5 = .ok (.iconst 0, 1) := by decide +kernel
theorem dX5_tellDark_6 : decode cX5_tellDark 6 = .ok (.bipush 11, 2) := by decide +kernel
theorem dX5_tellDark_8 : decode cX5_tellDark 8 = .ok (.invokevirtual 64, 3) := by decide +kernel
theorem dX5_tellDark_11 : decode cX5_tellDark 11 = .ok (.istore_n 2, 1) := by decide +kernel
theorem dX5_tellDark_12 : decode cX5_tellDark 12 = .ok (.iload_n 2, 1) := by decide +kernel
theorem dX5_tellDark_13 : decode cX5_tellDark 13 = .ok (.ifCond .ge 5, 3) := by decide +kernel
theorem dX5_tellDark_16 : decode cX5_tellDark 16 = .ok (.iconst 0, 1) := by decide +kernel
theorem dX5_tellDark_17 : decode cX5_tellDark 17 = .ok (.ireturn, 1) := by decide +kernel
theorem dX5_tellDark_18 : decode cX5_tellDark 18 = .ok (.aload_n 0, 1) := by decide +kernel
theorem dX5_tellDark_19 : decode cX5_tellDark 19 = .ok (.invokevirtual 22, 3) := by decide +kernel
theorem dX5_tellDark_22 : decode cX5_tellDark 22 = .ok (.aload_n 0, 1) := by decide +kernel
theorem dX5_tellDark_23 : decode cX5_tellDark 23 = .ok (.iconst 0, 1) := by decide +kernel
theorem dX5_tellDark_24 : decode cX5_tellDark 24 = .ok (.bipush 20, 2) := by decide +kernel
theorem dX5_tellDark_26 : decode cX5_tellDark 26 = .ok (.invokevirtual 64, 3) := by decide +kernel
theorem dX5_tellDark_29 : decode cX5_tellDark 29 = .ok (.istore_n 3, 1) := by decide +kernel
theorem dX5_tellDark_30 : decode cX5_tellDark 30 = .ok (.iload_n 3, 1) := by decide +kernel
theorem dX5_tellDark_31 : decode cX5_tellDark 31 = .ok (.ifCond .ge 5, 3) := by decide +kernel
theorem dX5_tellDark_34 : decode cX5_tellDark 34 = .ok (.iconst 0, 1) := by decide +kernel
theorem dX5_tellDark_35 : decode cX5_tellDark 35 = .ok (.ireturn, 1) := by decide +kernel
theorem dX5_tellDark_36 : decode cX5_tellDark 36 = .ok (.aload_n 1, 1) := by decide +kernel
theorem dX5_tellDark_37 : decode cX5_tellDark 37 = .ok (.getfield 87, 3) := by decide +kernel
theorem dX5_tellDark_40 : decode cX5_tellDark 40 = .ok (.iload_n 2, 1) := by decide +kernel
theorem dX5_tellDark_41 : decode cX5_tellDark 41 = .ok (.iload_n 3, 1) := by decide +kernel
theorem dX5_tellDark_42 : decode cX5_tellDark 42 = .ok (.iastore, 1) := by decide +kernel
theorem dX5_tellDark_43 : decode cX5_tellDark 43 = .ok (.aload_n 0, 1) := by decide +kernel
theorem dX5_tellDark_44 : decode cX5_tellDark 44 = .ok (.invokevirtual 22, 3) := by decide +kernel
theorem dX5_tellDark_47 : decode cX5_tellDark 47 = .ok (.iconst 1, 1) := by decide +kernel
theorem dX5_tellDark_48 : decode cX5_tellDark 48 = .ok (.ireturn, 1) := by decide +kernel
theorem dX5_tellJar_0 : decode cX5_tellJar 0 = .ok (.aload_n 0, 1) := by decide +kernel
theorem dX5_tellJar_1 : decode cX5_tellJar 1 = .ok (.invokevirtual 22, 3) := by decide +kernel
theorem dX5_tellJar_4 : decode cX5_tellJar 4 = .ok (.aload_n 0, 1) := by decide +kernel
theorem dX5_tellJar_5 : decode cX5_tellJar 5 = .ok (.iconst 0, 1) := by decide +kernel
theorem dX5_tellJar_6 : decode cX5_tellJar 6 = .ok (.iload_n 2, 1) := by decide +kernel
theorem dX5_tellJar_7 : decode cX5_tellJar 7 = .ok (.invokestatic 90, 3) := by decide +kernel
theorem dX5_tellJar_10 : decode cX5_tellJar 10 = .ok (.invokevirtual 64, 3) := by decide +kernel
theorem dX5_tellJar_13 : decode cX5_tellJar 13 = .ok (.istore_n 3, 1) := by decide +kernel
theorem dX5_tellJar_14 : decode cX5_tellJar 14 = .ok (.iload_n 3, 1) := by decide +kernel
theorem dX5_tellJar_15 : decode cX5_tellJar 15 = .ok (.ifCond .ge 5, 3) := by decide +kernel
theorem dX5_tellJar_18 : decode cX5_tellJar 18 = .ok (.iconst 0, 1) := by decide +kernel
theorem dX5_tellJar_19 : decode cX5_tellJar 19 = .ok (.ireturn, 1) := by decide +kernel
theorem dX5_tellJar_20 : decode cX5_tellJar 20 = .ok (.aload_n 1, 1) := by decide +kernel
theorem dX5_tellJar_21 : decode cX5_tellJar 21 = .ok (.iload_n 2, 1) := by decide +kernel
theorem dX5_tellJar_22 : decode cX5_tellJar 22 = .ok (.iload_n 3, 1) := by decide +kernel
theorem dX5_tellJar_23 : decode cX5_tellJar 23 = .ok (.invokevirtual 94, 3) := by decide +kernel
theorem dX5_tellJar_26 : decode cX5_tellJar 26 = .ok (.aload_n 0, 1) := by decide +kernel
theorem dX5_tellJar_27 : decode cX5_tellJar 27 = .ok (.invokevirtual 22, 3) := by decide +kernel
theorem dX5_tellJar_30 : decode cX5_tellJar 30 = .ok (.iconst 1, 1) := by decide +kernel
theorem dX5_tellJar_31 : decode cX5_tellJar 31 = .ok (.ireturn, 1) := by decide +kernel
theorem dX6_init_0 : decode cX6_init 0 = .ok (.aload_n 0, 1) := by decide +kernel
theorem dX6_init_1 : decode cX6_init 1 = .ok (.invokespecial 1, 3) := by decide +kernel
theorem dX6_init_4 : decode cX6_init 4 = .ok (.aload_n 0, 1) := by decide +kernel
theorem dX6_init_5 : decode cX6_init 5 = .ok (.bipush 7, 2) := by decide +kernel
theorem dX6_init_7 : decode cX6_init 7 = .ok (.newarray .int, 2) := by decide +kernel
theorem dX6_init_9 : decode cX6_init 9 = .ok (.putfield 9, 3) := by decide +kernel
theorem dX6_init_12 : decode cX6_init 12 = .ok (.aload_n 0, 1) := by decide +kernel
theorem dX6_init_13 : decode cX6_init 13 = .ok (.new 13, 3) := by decide +kernel
theorem dX6_init_16 : decode cX6_init 16 = .ok (.dup, 1) := by decide +kernel
theorem dX6_init_17 : decode cX6_init 17 = .ok (.invokespecial 15, 3) := by decide +kernel
theorem dX6_init_20 : decode cX6_init 20 = .ok (.putfield 16, 3) := by decide +kernel
theorem dX6_init_23 : decode cX6_init 23 = .ok (.aload_n 0, 1) := by decide +kernel
theorem dX6_init_24 : decode cX6_init 24 = .ok (.new 13, 3) := by decide +kernel
theorem dX6_init_27 : decode cX6_init 27 = .ok (.dup, 1) := by decide +kernel
theorem dX6_init_28 : decode cX6_init 28 = .ok (.invokespecial 15, 3) := by decide +kernel
theorem dX6_init_31 : decode cX6_init 31 = .ok (.putfield 20, 3) := by decide +kernel
theorem dX6_init_34 : decode cX6_init 34 = .ok (.aload_n 0, 1) := by decide +kernel
theorem dX6_init_35 : decode cX6_init 35 = .ok (.new 13, 3) := by decide +kernel
theorem dX6_init_38 : decode cX6_init 38 = .ok (.dup, 1) := by decide +kernel
theorem dX6_init_39 : decode cX6_init 39 = .ok (.invokespecial 15, 3) := by decide +kernel
theorem dX6_init_42 : decode cX6_init 42 = .ok (.putfield 23, 3) := by decide +kernel
theorem dX6_init_45 : decode cX6_init 45 = .ok (.aload_n 0, 1) := by decide +kernel
theorem dX6_init_46 : decode cX6_init 46 = .ok (.new 26, 3) := by decide +kernel
theorem dX6_init_49 : decode cX6_init 49 = .ok (.dup, 1) := by decide +kernel
theorem dX6_init_50 : decode cX6_init 50 = .ok (.invokespecial 28, 3) := by decide +kernel
theorem dX6_init_53 : decode cX6_init 53 = .ok (.putfield 29, 3) := by decide +kernel
theorem dX6_init_56 : decode cX6_init 56 = .ok (.aload_n 0, 1) := by decide +kernel
theorem dX6_init_57 : decode cX6_init 57 = .ok (.iconst 4, 1) := by decide +kernel
theorem dX6_init_58 : decode cX6_init 58 = .ok (.anewarray 33, 3) := by decide +kernel
theorem dX6_init_61 : decode cX6_init 61 = .ok (.putfield 35, 3) := by decide +kernel
theorem dX6_init_64 : decode cX6_init 64 = .ok (.iconst 0, 1) := by decide +kernel
theorem dX6_init_65 : decode cX6_init 65 = .ok (.istore_n 1, 1) := by decide +kernel
theorem dX6_init_66 : decode cX6_init 66 = .ok (.iload_n 1, 1) := by decide +kernel
theorem dX6_init_67 : decode cX6_init 67 = .ok (.aload_n 0, 1) := by decide +kernel
theorem dX6_init_68 : decode cX6_init 68 = .ok (.getfield 35, 3) := by decide +kernel
theorem dX6_init_71 : decode cX6_init 71 = .ok (.arraylength, 1) := by decide +kernel
theorem dX6_init_72 : decode cX6_init 72 = .ok (.if_icmp .ge 22, 3) := by decide +kernel
theorem dX6_init_75 : decode cX6_init 75 = .ok (.aload_n 0, 1) := by decide +kernel
theorem dX6_init_76 : decode cX6_init 76 = .ok (.getfield 35, 3) := by decide +kernel
theorem dX6_init_79 : decode cX6_init 79 = .ok (.iload_n 1, 1) := by decide +kernel
theorem dX6_init_80 : decode cX6_init 80 = .ok (.new 33, 3) := by decide +kernel
theorem dX6_init_83 : decode cX6_init 83 = .ok (.dup, 1) := by decide +kernel
theorem dX6_init_84 : decode cX6_init 84 = .ok (.invokespecial 39, 3) := by decide +kernel
theorem dX6_init_87 : decode cX6_init 87 = .ok (.aastore, 1) := by decide +kernel
theorem dX6_init_88 : decode cX6_init 88 = .ok (.iinc 1 1, 3) := by decide +kernel
theorem dX6_init_91 : decode cX6_init 91 = .ok (.goto (-25), 3) := by decide +kernel
theorem dX6_init_94 : decode cX6_init 94 = .ok (.return_, 1) := by decide +kernel
theorem dX6_jar_0 : decode cX6_jar 0 = .ok (.iload_n 2, 1) := by decide +kernel
theorem dX6_jar_1 : decode cX6_jar 1 = .ok (.iconst 0, 1) := by decide +kernel
theorem dX6_jar_2 : decode cX6_jar 2 = .ok (.iload_n 1, 1) := by decide +kernel
theorem dX6_jar_3 : decode cX6_jar 3 = .ok (.invokestatic 40, 3) := by decide +kernel
theorem dX6_jar_6 : decode cX6_jar 6 = .ok (.invokestatic 44, 3) := by decide +kernel
theorem dX6_jar_9 : decode cX6_jar 9 = .ok (.ifCond .ne 9, 3) := by decide +kernel
theorem dX6_jar_12 : decode cX6_jar 12 = .ok (.aload_n 0, 1) := by decide +kernel
theorem dX6_jar_13 : decode cX6_jar 13 = .ok (.iconst 0, 1) := by decide +kernel
theorem dX6_jar_14 : decode cX6_jar 14 = .ok (.invokevirtual 48, 3) := by decide +kernel
theorem dX6_jar_17 : decode cX6_jar 17 = .ok (.ireturn, 1) := by decide +kernel
theorem dX6_jar_18 : decode cX6_jar 18 = .ok (.aload_n 0, 1) := by decide +kernel
theorem dX6_jar_19 : decode cX6_jar 19 = .ok (.getfield 16, 3) := by decide +kernel
theorem dX6_jar_22 : decode cX6_jar 22 = .ok (.iload_n 1, 1) := by decide +kernel
theorem dX6_jar_23 : decode cX6_jar 23 = .ok (.invokevirtual 51, 3) := by decide +kernel
theorem dX6_jar_26 : decode cX6_jar 26 = .ok (.istore_n 3, 1) := by decide +kernel
theorem dX6_jar_27 : decode cX6_jar 27 = .ok (.aload_n 0, 1) := by decide +kernel
theorem dX6_jar_28 : decode cX6_jar 28 = .ok (.getfield 16, 3) := by decide +kernel
theorem dX6_jar_31 : decode cX6_jar 31 = .ok (.iload_n 1, 1) := by decide +kernel
theorem dX6_jar_32 : decode cX6_jar 32 = .ok (.iload_n 2, 1) := by decide +kernel
theorem dX6_jar_33 : decode cX6_jar 33 = .ok (.invokevirtual 54, 3) := by decide +kernel
theorem dX6_jar_36 : decode cX6_jar 36 = .ok (.iload_n 3, 1) := by decide +kernel
theorem dX6_jar_37 : decode cX6_jar 37 = .ok (.ireturn, 1) := by decide +kernel
theorem dX6_dark_0 : decode cX6_dark 0 = .ok (.iload_n 1, 1) := by decide +kernel
theorem dX6_dark_1 : decode cX6_dark 1 = .ok (.iconst 0, 1) := by decide +kernel
theorem dX6_dark_2 : decode cX6_dark 2 = .ok (.bipush 11, 2) := by decide +kernel
theorem dX6_dark_4 : decode cX6_dark 4 = .ok (.invokestatic 44, 3) := by decide +kernel
theorem dX6_dark_7 : decode cX6_dark 7 = .ok (.ifCond .eq 13, 3) := by decide +kernel
theorem dX6_dark_10 : decode cX6_dark 10 = .ok (.iload_n 2, 1) := by decide +kernel
theorem dX6_dark_11 : decode cX6_dark 11 = .ok (.iconst 0, 1) := by decide +kernel
theorem dX6_dark_12 : decode cX6_dark 12 = .ok (.bipush 20, 2) := by decide +kernel
theorem dX6_dark_14 : decode cX6_dark 14 = .ok (.invokestatic 44, 3) := by decide +kernel
theorem dX6_dark_17 : decode cX6_dark 17 = .ok (.ifCond .ne 9, 3) := by decide +kernel
theorem dX6_dark_20 : decode cX6_dark 20 = .ok (.aload_n 0, 1) := by decide +kernel
theorem dX6_dark_21 : decode cX6_dark 21 = .ok (.iconst 0, 1) := by decide +kernel
theorem dX6_dark_22 : decode cX6_dark 22 = .ok (.invokevirtual 48, 3) := by decide +kernel
theorem dX6_dark_25 : decode cX6_dark 25 = .ok (.ireturn, 1) := by decide +kernel
theorem dX6_dark_26 : decode cX6_dark 26 = .ok (.aload_n 0, 1) := by decide +kernel
theorem dX6_dark_27 : decode cX6_dark 27 = .ok (.getfield 16, 3) := by decide +kernel
theorem dX6_dark_30 : decode cX6_dark 30 = .ok (.getfield 58, 3) := by decide +kernel
theorem dX6_dark_33 : decode cX6_dark 33 = .ok (.iload_n 1, 1) := by decide +kernel
theorem dX6_dark_34 : decode cX6_dark 34 = .ok (.iaload, 1) := by decide +kernel
theorem dX6_dark_35 : decode cX6_dark 35 = .ok (.istore_n 3, 1) := by decide +kernel
theorem dX6_dark_36 : decode cX6_dark 36 = .ok (.aload_n 0, 1) := by decide +kernel
theorem dX6_dark_37 : decode cX6_dark 37 = .ok (.getfield 16, 3) := by decide +kernel
theorem dX6_dark_40 : decode cX6_dark 40 = .ok (.getfield 58, 3) := by decide +kernel
theorem dX6_dark_43 : decode cX6_dark 43 = .ok (.iload_n 1, 1) := by decide +kernel
theorem dX6_dark_44 : decode cX6_dark 44 = .ok (.iload_n 2, 1) := by decide +kernel
theorem dX6_dark_45 : decode cX6_dark 45 = .ok (.iastore, 1) := by decide +kernel
theorem dX6_dark_46 : decode cX6_dark 46 = .ok (.iload_n 3, 1) := by decide +kernel
theorem dX6_dark_47 : decode cX6_dark 47 = .ok (.ireturn, 1) := by decide +kernel
theorem dX6_now_0 : decode cX6_now 0 = .ok (.iload_n 1, 1) := by decide +kernel
theorem dX6_now_1 : decode cX6_now 1 = .ok (.tableswitch 120 0 7 #[47, 55, 64, 72, 80, 88, 96, 104], 47) := by decide +kernel
theorem dX6_now_48 : decode cX6_now 48 = .ok (.aload_n 0, 1) := by decide +kernel
theorem dX6_now_49 : decode cX6_now 49 = .ok (.getfield 16, 3) := by decide +kernel
theorem dX6_now_52 : decode cX6_now 52 = .ok (.getfield 61, 3) := by decide +kernel
theorem dX6_now_55 : decode cX6_now 55 = .ok (.ireturn, 1) := by decide +kernel
theorem dX6_now_56 : decode cX6_now 56 = .ok (.aload_n 0, 1) := by decide +kernel
theorem dX6_now_57 : decode cX6_now 57 = .ok (.getfield 16, 3) := by decide +kernel
theorem dX6_now_60 : decode cX6_now 60 = .ok (.iconst 0, 1) := by decide +kernel
theorem dX6_now_61 : decode cX6_now 61 = .ok (.invokevirtual 65, 3) := by decide +kernel
theorem dX6_now_64 : decode cX6_now 64 = .ok (.ireturn, 1) := by decide +kernel
theorem dX6_now_65 : decode cX6_now 65 = .ok (.aload_n 0, 1) := by decide +kernel
theorem dX6_now_66 : decode cX6_now 66 = .ok (.getfield 16, 3) := by decide +kernel
theorem dX6_now_69 : decode cX6_now 69 = .ok (.getfield 68, 3) := by decide +kernel
theorem dX6_now_72 : decode cX6_now 72 = .ok (.ireturn, 1) := by decide +kernel
theorem dX6_now_73 : decode cX6_now 73 = .ok (.aload_n 0, 1) := by decide +kernel
theorem dX6_now_74 : decode cX6_now 74 = .ok (.getfield 16, 3) := by decide +kernel
end
section
theorem dX6_now_77 : decode cX6_now 77 = .ok (.getfield 71, 3) := by decide +kernel
theorem dX6_now_80 : decode cX6_now 80 = .ok (.ireturn, 1) := by decide +kernel
theorem dX6_now_81 : decode cX6_now 81 = .ok (.aload_n 0, 1) := by decide +kernel
theorem dX6_now_82 : decode cX6_now 82 = .ok (.getfield 16, 3) := by decide +kernel
theorem dX6_now_85 : decode cX6_now 85 = .ok (.getfield 74, 3) := by decide +kernel
theorem dX6_now_88 : decode cX6_now 88 = .ok (.ireturn, 1) := by decide +kernel
theorem dX6_now_89 : decode cX6_now 89 = .ok (.aload_n 0, 1) := by decide +kernel
theorem dX6_now_90 : decode cX6_now 90 = .ok (.getfield 16, 3) := by decide +kernel
theorem dX6_now_93 : decode cX6_now 93 = .ok (.getfield 77, 3) := by decide +kernel
theorem dX6_now_96 : decode cX6_now 96 = .ok (.ireturn, 1) := by decide +kernel
theorem dX6_now_97 : decode cX6_now 97 = .ok (.aload_n 0, 1) := by decide +kernel
theorem dX6_now_98 : decode cX6_now 98 = .ok (.getfield 16, 3) := by decide +kernel
theorem dX6_now_101 : decode cX6_now 101 = .ok (.invokevirtual 80, 3) := by decide +kernel
theorem dX6_now_104 : decode cX6_now 104 = .ok (.ireturn, 1) := by decide +kernel
theorem dX6_now_105 : decode cX6_now 105 = .ok (.aload_n 0, 1) := by decide +kernel
theorem dX6_now_106 : decode cX6_now 106 = .ok (.getfield 16, 3) := by decide +kernel
theorem dX6_now_109 : decode cX6_now 109 = .ok (.iconst 0, 1) := by decide +kernel
theorem dX6_now_110 : decode cX6_now 110 = .ok (.aload_n 0, 1) := by decide +kernel
theorem dX6_now_111 : decode cX6_now 111 = .ok (.getfield 16, 3) := by decide +kernel
theorem dX6_now_114 : decode cX6_now 114 = .ok (.getfield 77, 3) := by decide +kernel
theorem dX6_now_117 : decode cX6_now 117 = .ok (.invokevirtual 84, 3) := by decide +kernel
theorem dX6_now_120 : decode cX6_now 120 = .ok (.ireturn, 1) := by decide +kernel
theorem dX6_now_121 : decode cX6_now 121 = .ok (.aload_n 0, 1) := by decide +kernel
theorem dX6_now_122 : decode cX6_now 122 = .ok (.iconst 0, 1) := by decide +kernel
theorem dX6_now_123 : decode cX6_now 123 = .ok (.invokevirtual 48, 3) := by decide +kernel
theorem dX6_now_126 : decode cX6_now 126 = .ok (.ireturn, 1) := by decide +kernel
theorem dX6_scribe_0 : decode cX6_scribe 0 = .ok (.iload_n 1, 1) := by decide +kernel
theorem dX6_scribe_1 : decode cX6_scribe 1 = .ok (.invokestatic 88, 3) := by decide +kernel
theorem dX6_scribe_4 : decode cX6_scribe 4 = .ok (.ifCond .eq 13, 3) := by decide +kernel
theorem dX6_scribe_7 : decode cX6_scribe 7 = .ok (.iload_n 2, 1) := by decide +kernel
theorem dX6_scribe_8 : decode cX6_scribe 8 = .ok (.iconst 1, 1) := by decide +kernel
theorem dX6_scribe_9 : decode cX6_scribe 9 = .ok (.bipush 99, 2) := by decide +kernel
theorem dX6_scribe_11 : decode cX6_scribe 11 = .ok (.invokestatic 44, 3) := by decide +kernel
theorem dX6_scribe_14 : decode cX6_scribe 14 = .ok (.ifCond .ne 9, 3) := by decide +kernel
theorem dX6_scribe_17 : decode cX6_scribe 17 = .ok (.aload_n 0, 1) := by decide +kernel
theorem dX6_scribe_18 : decode cX6_scribe 18 = .ok (.iconst 0, 1) := by decide +kernel
theorem dX6_scribe_19 : decode cX6_scribe 19 = .ok (.invokevirtual 48, 3) := by decide +kernel
theorem dX6_scribe_22 : decode cX6_scribe 22 = .ok (.ireturn, 1) := by decide +kernel
theorem dX6_scribe_23 : decode cX6_scribe 23 = .ok (.aload_n 0, 1) := by decide +kernel
theorem dX6_scribe_24 : decode cX6_scribe 24 = .ok (.getfield 16, 3) := by decide +kernel
theorem dX6_scribe_27 : decode cX6_scribe 27 = .ok (.invokevirtual 96, 3) := by decide +kernel
theorem dX6_scribe_30 : decode cX6_scribe 30 = .ok (.ifCond .eq 9, 3) := by decide +kernel
theorem dX6_scribe_33 : decode cX6_scribe 33 = .ok (.aload_n 0, 1) := by decide +kernel
theorem dX6_scribe_34 : decode cX6_scribe 34 = .ok (.iconst 1, 1) := by decide +kernel
theorem dX6_scribe_35 : decode cX6_scribe 35 = .ok (.invokevirtual 48, 3) := by decide +kernel
theorem dX6_scribe_38 : decode cX6_scribe 38 = .ok (.ireturn, 1) := by decide +kernel
theorem dX6_scribe_39 : decode cX6_scribe 39 = .ok (.aload_n 0, 1) := by decide +kernel
theorem dX6_scribe_40 : decode cX6_scribe 40 = .ok (.getfield 16, 3) := by decide +kernel
theorem dX6_scribe_43 : decode cX6_scribe 43 = .ok (.iload_n 1, 1) := by decide +kernel
theorem dX6_scribe_44 : decode cX6_scribe 44 = .ok (.iload_n 2, 1) := by decide +kernel
theorem dX6_scribe_45 : decode cX6_scribe 45 = .ok (.invokevirtual 100, 3) := by decide +kernel
theorem dX6_scribe_48 : decode cX6_scribe 48 = .ok (.ifCond .ne 9, 3) := by decide +kernel
theorem dX6_scribe_51 : decode cX6_scribe 51 = .ok (.aload_n 0, 1) := by decide +kernel
theorem dX6_scribe_52 : decode cX6_scribe 52 = .ok (.iconst 4, 1) := by decide +kernel
theorem dX6_scribe_53 : decode cX6_scribe 53 = .ok (.invokevirtual 48, 3) := by decide +kernel
theorem dX6_scribe_56 : decode cX6_scribe 56 = .ok (.ireturn, 1) := by decide +kernel
theorem dX6_scribe_57 : decode cX6_scribe 57 = .ok (.aload_n 0, 1) := by decide +kernel
theorem dX6_scribe_58 : decode cX6_scribe 58 = .ok (.getfield 16, 3) := by decide +kernel
theorem dX6_scribe_61 : decode cX6_scribe 61 = .ok (.iload_n 1, 1) := by decide +kernel
theorem dX6_scribe_62 : decode cX6_scribe 62 = .ok (.iload_n 2, 1) := by decide +kernel
theorem dX6_scribe_63 : decode cX6_scribe 63 = .ok (.invokevirtual 104, 3) := by decide +kernel
theorem dX6_scribe_66 : decode cX6_scribe 66 = .ok (.ireturn, 1) := by decide +kernel
theorem dX6_of_0 : decode cX6_of 0 = .ok (.aload_n 0, 1) := by decide +kernel
theorem dX6_of_1 : decode cX6_of 1 = .ok (.getfield 16, 3) := by decide +kernel
theorem dX6_of_4 : decode cX6_of 4 = .ok (.iload_n 1, 1) := by decide +kernel
theorem dX6_of_5 : decode cX6_of 5 = .ok (.invokevirtual 107, 3) := by decide +kernel
theorem dX6_of_8 : decode cX6_of 8 = .ok (.ifCond .ne 9, 3) := by decide +kernel
theorem dX6_of_11 : decode cX6_of 11 = .ok (.aload_n 0, 1) := by decide +kernel
theorem dX6_of_12 : decode cX6_of 12 = .ok (.iconst 0, 1) := by decide +kernel
theorem dX6_of_13 : decode cX6_of 13 = .ok (.invokevirtual 48, 3) := by decide +kernel
theorem dX6_of_16 : decode cX6_of 16 = .ok (.ireturn, 1) := by decide +kernel
theorem dX6_of_17 : decode cX6_of 17 = .ok (.aload_n 0, 1) := by decide +kernel
theorem dX6_of_18 : decode cX6_of 18 = .ok (.getfield 16, 3) := by decide +kernel
theorem dX6_of_21 : decode cX6_of 21 = .ok (.getfield 110, 3) := by decide +kernel
theorem dX6_of_24 : decode cX6_of 24 = .ok (.iload_n 1, 1) := by decide +kernel
theorem dX6_of_25 : decode cX6_of 25 = .ok (.aaload, 1) := by decide +kernel
theorem dX6_of_26 : decode cX6_of 26 = .ok (.astore_n 3, 1) := by decide +kernel
theorem dX6_of_27 : decode cX6_of 27 = .ok (.iload_n 2, 1) := by decide +kernel
theorem dX6_of_28 : decode cX6_of 28 = .ok (.tableswitch 134 0 8 #[52, 57, 62, 67, 72, 77, 89, 105, 121], 52) := by decide +kernel
theorem dX6_of_80 : decode cX6_of 80 = .ok (.aload_n 3, 1) := by decide +kernel
theorem dX6_of_81 : decode cX6_of 81 = .ok (.getfield 114, 3) := by decide +kernel
theorem dX6_of_84 : decode cX6_of 84 = .ok (.ireturn, 1) := by decide +kernel
theorem dX6_of_85 : decode cX6_of 85 = .ok (.aload_n 3, 1) := by decide +kernel
theorem dX6_of_86 : decode cX6_of 86 = .ok (.getfield 117, 3) := by decide +kernel
theorem dX6_of_89 : decode cX6_of 89 = .ok (.ireturn, 1) := by decide +kernel
theorem dX6_of_90 : decode cX6_of 90 = .ok (.aload_n 3, 1) := by decide +kernel
theorem dX6_of_91 : decode cX6_of 91 = .ok (.getfield 120, 3) := by decide +kernel
theorem dX6_of_94 : decode cX6_of 94 = .ok (.ireturn, 1) := by decide +kernel
theorem dX6_of_95 : decode cX6_of 95 = .ok (.aload_n 3, 1) := by decide +kernel
theorem dX6_of_96 : decode cX6_of 96 = .ok (.getfield 123, 3) := by decide +kernel
theorem dX6_of_99 : decode cX6_of 99 = .ok (.ireturn, 1) := by decide +kernel
theorem dX6_of_100 : decode cX6_of 100 = .ok (.aload_n 3, 1) := by decide +kernel
theorem dX6_of_101 : decode cX6_of 101 = .ok (.getfield 126, 3) := by decide +kernel
theorem dX6_of_104 : decode cX6_of 104 = .ok (.ireturn, 1) := by decide +kernel
theorem dX6_of_105 : decode cX6_of 105 = .ok (.aload_n 3, 1) := by decide +kernel
theorem dX6_of_106 : decode cX6_of 106 = .ok (.getfield 114, 3) := by decide +kernel
theorem dX6_of_109 : decode cX6_of 109 = .ok (.aload_n 3, 1) := by decide +kernel
theorem dX6_of_110 : decode cX6_of 110 = .ok (.getfield 117, 3) := by decide +kernel
theorem dX6_of_113 : decode cX6_of 113 = .ok (.invokestatic 129, 3) := by decide +kernel
theorem dX6_of_116 : decode cX6_of 116 = .ok (.ireturn, 1) := by decide +kernel
theorem dX6_of_117 : decode cX6_of 117 = .ok (.aload_n 3, 1) := by decide +kernel
theorem dX6_of_118 : decode cX6_of 118 = .ok (.getfield 114, 3) := by decide +kernel
theorem dX6_of_121 : decode cX6_of 121 = .ok (.aload_n 0, 1) := by decide +kernel
theorem dX6_of_122 : decode cX6_of 122 = .ok (.getfield 16, 3) := by decide +kernel
theorem dX6_of_125 : decode cX6_of 125 = .ok (.iconst 0, 1) := by decide +kernel
theorem dX6_of_126 : decode cX6_of 126 = .ok (.invokevirtual 65, 3) := by decide +kernel
theorem dX6_of_129 : decode cX6_of 129 = .ok (.invokestatic 132, 3) := by decide +kernel
theorem dX6_of_132 : decode cX6_of 132 = .ok (.ireturn, 1) := by decide +kernel
theorem dX6_of_133 : decode cX6_of 133 = .ok (.aload_n 3, 1) := by decide +kernel
theorem dX6_of_134 : decode cX6_of 134 = .ok (.getfield 114, 3) := by decide +kernel
theorem dX6_of_137 : decode cX6_of 137 = .ok (.aload_n 3, 1) := by decide +kernel
theorem dX6_of_138 : decode cX6_of 138 = .ok (.getfield 123, 3) := by decide +kernel
theorem dX6_of_141 : decode cX6_of 141 = .ok (.aload_n 3, 1) := by decide +kernel
theorem dX6_of_142 : decode cX6_of 142 = .ok (.getfield 126, 3) := by decide +kernel
theorem dX6_of_145 : decode cX6_of 145 = .ok (.invokestatic 135, 3) := by decide +kernel
theorem dX6_of_148 : decode cX6_of 148 = .ok (.ireturn, 1) := by decide +kernel
theorem dX6_of_149 : decode cX6_of 149 = .ok (.aload_n 3, 1) := by decide +kernel
theorem dX6_of_150 : decode cX6_of 150 = .ok (.iconst 0, 1) := by decide +kernel
theorem dX6_of_151 : decode cX6_of 151 = .ok (.aload_n 0, 1) := by decide +kernel
theorem dX6_of_152 : decode cX6_of 152 = .ok (.getfield 16, 3) := by decide +kernel
theorem dX6_of_155 : decode cX6_of 155 = .ok (.getfield 77, 3) := by decide +kernel
theorem dX6_of_158 : decode cX6_of 158 = .ok (.invokevirtual 139, 3) := by decide +kernel
theorem dX6_of_161 : decode cX6_of 161 = .ok (.ireturn, 1) := by decide +kernel
theorem dX6_of_162 : decode cX6_of 162 = .ok (.aload_n 0, 1) := by decide +kernel
theorem dX6_of_163 : decode cX6_of 163 = .ok (.iconst 0, 1) := by decide +kernel
theorem dX6_of_164 : decode cX6_of 164 = .ok (.invokevirtual 48, 3) := by decide +kernel
theorem dX6_of_167 : decode cX6_of 167 = .ok (.ireturn, 1) := by decide +kernel
theorem dX6_set_0 : decode cX6_set 0 = .ok (.aload_n 0, 1) := by decide +kernel
theorem dX6_set_1 : decode cX6_set 1 = .ok (.getfield 16, 3) := by decide +kernel
theorem dX6_set_4 : decode cX6_set 4 = .ok (.iload_n 1, 1) := by decide +kernel
theorem dX6_set_5 : decode cX6_set 5 = .ok (.invokevirtual 107, 3) := by decide +kernel
theorem dX6_set_8 : decode cX6_set 8 = .ok (.ifCond .eq 18, 3) := by decide +kernel
theorem dX6_set_11 : decode cX6_set 11 = .ok (.iload_n 3, 1) := by decide +kernel
theorem dX6_set_12 : decode cX6_set 12 = .ok (.iload_n 2, 1) := by decide +kernel
theorem dX6_set_13 : decode cX6_set 13 = .ok (.invokestatic 142, 3) := by decide +kernel
theorem dX6_set_16 : decode cX6_set 16 = .ok (.iload_n 2, 1) := by decide +kernel
theorem dX6_set_17 : decode cX6_set 17 = .ok (.invokestatic 145, 3) := by decide +kernel
theorem dX6_set_20 : decode cX6_set 20 = .ok (.invokestatic 44, 3) := by decide +kernel
theorem dX6_set_23 : decode cX6_set 23 = .ok (.ifCond .ne 9, 3) := by decide +kernel
theorem dX6_set_26 : decode cX6_set 26 = .ok (.aload_n 0, 1) := by decide +kernel
theorem dX6_set_27 : decode cX6_set 27 = .ok (.iconst 0, 1) := by decide +kernel
theorem dX6_set_28 : decode cX6_set 28 = .ok (.invokevirtual 48, 3) := by decide +kernel
theorem dX6_set_31 : decode cX6_set 31 = .ok (.ireturn, 1) := by decide +kernel
theorem dX6_set_32 : decode cX6_set 32 = .ok (.aload_n 0, 1) := by decide +kernel
theorem dX6_set_33 : decode cX6_set 33 = .ok (.getfield 16, 3) := by decide +kernel
theorem dX6_set_36 : decode cX6_set 36 = .ok (.getfield 110, 3) := by decide +kernel
theorem dX6_set_39 : decode cX6_set 39 = .ok (.iload_n 1, 1) := by decide +kernel
theorem dX6_set_40 : decode cX6_set 40 = .ok (.aaload, 1) := by decide +kernel
theorem dX6_set_41 : decode cX6_set 41 = .ok (.iload_n 2, 1) := by decide +kernel
theorem dX6_set_42 : decode cX6_set 42 = .ok (.invokevirtual 148, 3) := by decide +kernel
theorem dX6_set_45 : decode cX6_set 45 = .ok (.istore 4, 2) := by decide +kernel
theorem dX6_set_47 : decode cX6_set 47 = .ok (.aload_n 0, 1) := by decide +kernel
theorem dX6_set_48 : decode cX6_set 48 = .ok (.getfield 16, 3) := by decide +kernel
theorem dX6_set_51 : decode cX6_set 51 = .ok (.getfield 110, 3) := by decide +kernel
theorem dX6_set_54 : decode cX6_set 54 = .ok (.iload_n 1, 1) := by decide +kernel
theorem dX6_set_55 : decode cX6_set 55 = .ok (.aaload, 1) := by decide +kernel
theorem dX6_set_56 : decode cX6_set 56 = .ok (.iload_n 2, 1) := by decide +kernel
theorem dX6_set_57 : decode cX6_set 57 = .ok (.iload_n 3, 1) := by decide +kernel
theorem dX6_set_58 : decode cX6_set 58 = .ok (.invokevirtual 151, 3) := by decide +kernel
theorem dX6_set_61 : decode cX6_set 61 = .ok (.iload 4, 2) := by decide +kernel
theorem dX6_set_63 : decode cX6_set 63 = .ok (.ireturn, 1) := by decide +kernel
theorem dX6_turn_0 : decode cX6_turn 0 = .ok (.aload_n 0, 1) := by decide +kernel
theorem dX6_turn_1 : decode cX6_turn 1 = .ok (.getfield 16, 3) := by decide +kernel
theorem dX6_turn_4 : decode cX6_turn 4 = .ok (.iload_n 1, 1) := by decide +kernel
theorem dX6_turn_5 : decode cX6_turn 5 = .ok (.invokevirtual 107, 3) := by decide +kernel
theorem dX6_turn_8 : decode cX6_turn 8 = .ok (.ifCond .eq 10, 3) := by decide +kernel
theorem dX6_turn_11 : decode cX6_turn 11 = .ok (.iload_n 2, 1) := by decide +kernel
theorem dX6_turn_12 : decode cX6_turn 12 = .ok (.invokestatic 88, 3) := by decide +kernel
theorem dX6_turn_15 : decode cX6_turn 15 = .ok (.ifCond .ne 9, 3) := by decide +kernel
theorem dX6_turn_18 : decode cX6_turn 18 = .ok (.aload_n 0, 1) := by decide +kernel
theorem dX6_turn_19 : decode cX6_turn 19 = .ok (.iconst 0, 1) := by decide +kernel
theorem dX6_turn_20 : decode cX6_turn 20 = .ok (.invokevirtual 48, 3) := by decide +kernel
theorem dX6_turn_23 : decode cX6_turn 23 = .ok (.ireturn, 1) := by decide +kernel
theorem dX6_turn_24 : decode cX6_turn 24 = .ok (.aload_n 0, 1) := by decide +kernel
theorem dX6_turn_25 : decode cX6_turn 25 = .ok (.getfield 16, 3) := by decide +kernel
theorem dX6_turn_28 : decode cX6_turn 28 = .ok (.getfield 110, 3) := by decide +kernel
theorem dX6_turn_31 : decode cX6_turn 31 = .ok (.iload_n 1, 1) := by decide +kernel
theorem dX6_turn_32 : decode cX6_turn 32 = .ok (.aaload, 1) := by decide +kernel
theorem dX6_turn_33 : decode cX6_turn 33 = .ok (.getfield 114, 3) := by decide +kernel
theorem dX6_turn_36 : decode cX6_turn 36 = .ok (.istore_n 3, 1) := by decide +kernel
theorem dX6_turn_37 : decode cX6_turn 37 = .ok (.aload_n 0, 1) := by decide +kernel
theorem dX6_turn_38 : decode cX6_turn 38 = .ok (.getfield 16, 3) := by decide +kernel
theorem dX6_turn_41 : decode cX6_turn 41 = .ok (.getfield 110, 3) := by decide +kernel
theorem dX6_turn_44 : decode cX6_turn 44 = .ok (.iload_n 1, 1) := by decide +kernel
theorem dX6_turn_45 : decode cX6_turn 45 = .ok (.aaload, 1) := by decide +kernel
theorem dX6_turn_46 : decode cX6_turn 46 = .ok (.iload_n 2, 1) := by decide +kernel
theorem dX6_turn_47 : decode cX6_turn 47 = .ok (.putfield 114, 3) := by decide +kernel
theorem dX6_turn_50 : decode cX6_turn 50 = .ok (.iload_n 3, 1) := by decide +kernel
theorem dX6_turn_51 : decode cX6_turn 51 = .ok (.ireturn, 1) := by decide +kernel
theorem dX6_as_0 : decode cX6_as 0 = .ok (.aload_n 0, 1) := by decide +kernel
theorem dX6_as_1 : decode cX6_as 1 = .ok (.getfield 16, 3) := by decide +kernel
theorem dX6_as_4 : decode cX6_as 4 = .ok (.iload_n 1, 1) := by decide +kernel
theorem dX6_as_5 : decode cX6_as 5 = .ok (.invokevirtual 107, 3) := by decide +kernel
theorem dX6_as_8 : decode cX6_as 8 = .ok (.ifCond .eq 10, 3) := by decide +kernel
theorem dX6_as_11 : decode cX6_as 11 = .ok (.iload_n 2, 1) := by decide +kernel
theorem dX6_as_12 : decode cX6_as 12 = .ok (.invokestatic 88, 3) := by decide +kernel
theorem dX6_as_15 : decode cX6_as 15 = .ok (.ifCond .ne 9, 3) := by decide +kernel
theorem dX6_as_18 : decode cX6_as 18 = .ok (.aload_n 0, 1) := by decide +kernel
theorem dX6_as_19 : decode cX6_as 19 = .ok (.iconst 0, 1) := by decide +kernel
theorem dX6_as_20 : decode cX6_as 20 = .ok (.invokevirtual 48, 3) := by decide +kernel
theorem dX6_as_23 : decode cX6_as 23 = .ok (.ireturn, 1) := by decide +kernel
theorem dX6_as_24 : decode cX6_as 24 = .ok (.aload_n 0, 1) := by decide +kernel
theorem dX6_as_25 : decode cX6_as 25 = .ok (.getfield 16, 3) := by decide +kernel
theorem dX6_as_28 : decode cX6_as 28 = .ok (.getfield 110, 3) := by decide +kernel
theorem dX6_as_31 : decode cX6_as 31 = .ok (.iload_n 1, 1) := by decide +kernel
theorem dX6_as_32 : decode cX6_as 32 = .ok (.aaload, 1) := by decide +kernel
theorem dX6_as_33 : decode cX6_as 33 = .ok (.getfield 114, 3) := by decide +kernel
theorem dX6_as_36 : decode cX6_as 36 = .ok (.iload_n 2, 1) := by decide +kernel
theorem dX6_as_37 : decode cX6_as 37 = .ok (.invokestatic 154, 3) := by decide +kernel
theorem dX6_as_40 : decode cX6_as 40 = .ok (.ifCond .ne 9, 3) := by decide +kernel
theorem dX6_as_43 : decode cX6_as 43 = .ok (.aload_n 0, 1) := by decide +kernel
theorem dX6_as_44 : decode cX6_as 44 = .ok (.iconst 2, 1) := by decide +kernel
theorem dX6_as_45 : decode cX6_as 45 = .ok (.invokevirtual 48, 3) := by decide +kernel
theorem dX6_as_48 : decode cX6_as 48 = .ok (.ireturn, 1) := by decide +kernel
theorem dX6_as_49 : decode cX6_as 49 = .ok (.aload_n 0, 1) := by decide +kernel
theorem dX6_as_50 : decode cX6_as 50 = .ok (.getfield 16, 3) := by decide +kernel
theorem dX6_as_53 : decode cX6_as 53 = .ok (.getfield 110, 3) := by decide +kernel
theorem dX6_as_56 : decode cX6_as 56 = .ok (.iload_n 1, 1) := by decide +kernel
theorem dX6_as_57 : decode cX6_as 57 = .ok (.aaload, 1) := by decide +kernel
theorem dX6_as_58 : decode cX6_as 58 = .ok (.getfield 120, 3) := by decide +kernel
theorem dX6_as_61 : decode cX6_as 61 = .ok (.ireturn, 1) := by decide +kernel
theorem dX6_looks_0 : decode cX6_looks 0 = .ok (.aload_n 0, 1) := by decide +kernel
theorem dX6_looks_1 : decode cX6_looks 1 = .ok (.getfield 16, 3) := by decide +kernel
theorem dX6_looks_4 : decode cX6_looks 4 = .ok (.iload_n 1, 1) := by decide +kernel
theorem dX6_looks_5 : decode cX6_looks 5 = .ok (.invokevirtual 107, 3) := by decide +kernel
theorem dX6_looks_8 : decode cX6_looks 8 = .ok (.ifCond .ne 9, 3) := by decide +kernel
theorem dX6_looks_11 : decode cX6_looks 11 = .ok (.aload_n 0, 1) := by decide +kernel
theorem dX6_looks_12 : decode cX6_looks 12 = .ok (.iconst 0, 1) := by decide +kernel
theorem dX6_looks_13 : decode cX6_looks 13 = .ok (.invokevirtual 48, 3) := by decide +kernel
theorem dX6_looks_16 : decode cX6_looks 16 = .ok (.ireturn, 1) := by decide +kernel
theorem dX6_looks_17 : decode cX6_looks 17 = .ok (.aload_n 0, 1) := by decide +kernel
theorem dX6_looks_18 : decode cX6_looks 18 = .ok (.getfield 16, 3) := by decide +kernel
theorem dX6_looks_21 : decode cX6_looks 21 = .ok (.getfield 77, 3) := by decide +kernel
theorem dX6_looks_24 : decode cX6_looks 24 = .ok (.ifCond .ne 9, 3) := by decide +kernel
theorem dX6_looks_27 : decode cX6_looks 27 = .ok (.aload_n 0, 1) := by decide +kernel
theorem dX6_looks_28 : decode cX6_looks 28 = .ok (.iconst 4, 1) := by decide +kernel
theorem dX6_looks_29 : decode cX6_looks 29 = .ok (.invokevirtual 48, 3) := by decide +kernel
theorem dX6_looks_32 : decode cX6_looks 32 = .ok (.ireturn, 1) := by decide +kernel
theorem dX6_looks_33 : decode cX6_looks 33 = .ok (.aload_n 0, 1) := by decide +kernel
theorem dX6_looks_34 : decode cX6_looks 34 = .ok (.getfield 16, 3) := by decide +kernel
theorem dX6_looks_37 : decode cX6_looks 37 = .ok (.getfield 110, 3) := by decide +kernel
theorem dX6_looks_40 : decode cX6_looks 40 = .ok (.iload_n 1, 1) := by decide +kernel
theorem dX6_looks_41 : decode cX6_looks 41 = .ok (.aaload, 1) := by decide +kernel
theorem dX6_looks_42 : decode cX6_looks 42 = .ok (.astore_n 2, 1) := by decide +kernel
theorem dX6_looks_43 : decode cX6_looks 43 = .ok (.aload_n 2, 1) := by decide +kernel
theorem dX6_looks_44 : decode cX6_looks 44 = .ok (.iconst 0, 1) := by decide +kernel
theorem dX6_looks_45 : decode cX6_looks 45 = .ok (.aload_n 0, 1) := by decide +kernel
theorem dX6_looks_46 : decode cX6_looks 46 = .ok (.getfield 16, 3) := by decide +kernel
theorem dX6_looks_49 : decode cX6_looks 49 = .ok (.getfield 77, 3) := by decide +kernel
theorem dX6_looks_52 : decode cX6_looks 52 = .ok (.invokevirtual 139, 3) := by decide +kernel
theorem dX6_looks_55 : decode cX6_looks 55 = .ok (.istore_n 3, 1) := by decide +kernel
theorem dX6_looks_56 : decode cX6_looks 56 = .ok (.aload_n 2, 1) := by decide +kernel
theorem dX6_looks_57 : decode cX6_looks 57 = .ok (.sipush 9999, 3) := by decide +kernel
theorem dX6_looks_60 : decode cX6_looks 60 = .ok (.aload_n 2, 1) := by decide +kernel
theorem dX6_looks_61 : decode cX6_looks 61 = .ok (.getfield 126, 3) := by decide +kernel
theorem dX6_looks_64 : decode cX6_looks 64 = .ok (.iconst 1, 1) := by decide +kernel
theorem dX6_looks_65 : decode cX6_looks 65 = .ok (.iadd, 1) := by decide +kernel
theorem dX6_looks_66 : decode cX6_looks 66 = .ok (.invokestatic 157, 3) := by decide +kernel
theorem dX6_looks_69 : decode cX6_looks 69 = .ok (.putfield 126, 3) := by decide +kernel
theorem dX6_looks_72 : decode cX6_looks 72 = .ok (.iload_n 3, 1) := by decide +kernel
theorem dX6_looks_73 : decode cX6_looks 73 = .ok (.ireturn, 1) := by decide +kernel
theorem dX6_over_0 : decode cX6_over 0 = .ok (.aload_n 0, 1) := by decide +kernel
theorem dX6_over_1 : decode cX6_over 1 = .ok (.getfield 16, 3) := by decide +kernel
theorem dX6_over_4 : decode cX6_over 4 = .ok (.iload_n 1, 1) := by decide +kernel
theorem dX6_over_5 : decode cX6_over 5 = .ok (.invokevirtual 107, 3) := by decide +kernel
theorem dX6_over_8 : decode cX6_over 8 = .ok (.ifCond .ne 9, 3) := by decide +kernel
theorem dX6_over_11 : decode cX6_over 11 = .ok (.aload_n 0, 1) := by decide +kernel
theorem dX6_over_12 : decode cX6_over 12 = .ok (.iconst 0, 1) := by decide +kernel
theorem dX6_over_13 : decode cX6_over 13 = .ok (.invokevirtual 48, 3) := by decide +kernel
theorem dX6_over_16 : decode cX6_over 16 = .ok (.ireturn, 1) := by decide +kernel
theorem dX6_over_17 : decode cX6_over 17 = .ok (.aload_n 0, 1) := by decide +kernel
theorem dX6_over_18 : decode cX6_over 18 = .ok (.getfield 16, 3) := by decide +kernel
theorem dX6_over_21 : decode cX6_over 21 = .ok (.getfield 110, 3) := by decide +kernel
theorem dX6_over_24 : decode cX6_over 24 = .ok (.iload_n 1, 1) := by decide +kernel
theorem dX6_over_25 : decode cX6_over 25 = .ok (.aaload, 1) := by decide +kernel
theorem dX6_over_26 : decode cX6_over 26 = .ok (.astore_n 2, 1) := by decide +kernel
theorem dX6_over_27 : decode cX6_over 27 = .ok (.aload_n 0, 1) := by decide +kernel
theorem dX6_over_28 : decode cX6_over 28 = .ok (.getfield 16, 3) := by decide +kernel
theorem dX6_over_31 : decode cX6_over 31 = .ok (.aload_n 2, 1) := by decide +kernel
theorem dX6_over_32 : decode cX6_over 32 = .ok (.getfield 114, 3) := by decide +kernel
theorem dX6_over_35 : decode cX6_over 35 = .ok (.aload_n 2, 1) := by decide +kernel
theorem dX6_over_36 : decode cX6_over 36 = .ok (.getfield 117, 3) := by decide +kernel
theorem dX6_over_39 : decode cX6_over 39 = .ok (.invokevirtual 100, 3) := by decide +kernel
theorem dX6_over_42 : decode cX6_over 42 = .ok (.ifCond .ne 9, 3) := by decide +kernel
theorem dX6_over_45 : decode cX6_over 45 = .ok (.aload_n 0, 1) := by decide +kernel
theorem dX6_over_46 : decode cX6_over 46 = .ok (.iconst 4, 1) := by decide +kernel
theorem dX6_over_47 : decode cX6_over 47 = .ok (.invokevirtual 48, 3) := by decide +kernel
theorem dX6_over_50 : decode cX6_over 50 = .ok (.ireturn, 1) := by decide +kernel
theorem dX6_over_51 : decode cX6_over 51 = .ok (.aload_n 0, 1) := by decide +kernel
theorem dX6_over_52 : decode cX6_over 52 = .ok (.getfield 16, 3) := by decide +kernel
theorem dX6_over_55 : decode cX6_over 55 = .ok (.aload_n 2, 1) := by decide +kernel
theorem dX6_over_56 : decode cX6_over 56 = .ok (.invokevirtual 162, 3) := by decide +kernel
theorem dX6_over_59 : decode cX6_over 59 = .ok (.aload_n 2, 1) := by decide +kernel
theorem dX6_over_60 : decode cX6_over 60 = .ok (.getfield 120, 3) := by decide +kernel
theorem dX6_over_63 : decode cX6_over 63 = .ok (.ireturn, 1) := by decide +kernel
theorem dX6_nights_0 : decode cX6_nights 0 = .ok (.iload_n 1, 1) := by decide +kernel
theorem dX6_nights_1 : decode cX6_nights 1 = .ok (.iconst 1, 1) := by decide +kernel
theorem dX6_nights_2 : decode cX6_nights 2 = .ok (.bipush 100, 2) := by decide +kernel
theorem dX6_nights_4 : decode cX6_nights 4 = .ok (.invokestatic 44, 3) := by decide +kernel
theorem dX6_nights_7 : decode cX6_nights 7 = .ok (.ifCond .ne 9, 3) := by decide +kernel
theorem dX6_nights_10 : decode cX6_nights 10 = .ok (.aload_n 0, 1) := by decide +kernel
theorem dX6_nights_11 : decode cX6_nights 11 = .ok (.iconst 0, 1) := by decide +kernel
theorem dX6_nights_12 : decode cX6_nights 12 = .ok (.invokevirtual 48, 3) := by decide +kernel
theorem dX6_nights_15 : decode cX6_nights 15 = .ok (.ireturn, 1) := by decide +kernel
theorem dX6_nights_16 : decode cX6_nights 16 = .ok (.aload_n 0, 1) := by decide +kernel
theorem dX6_nights_17 : decode cX6_nights 17 = .ok (.getfield 16, 3) := by decide +kernel
theorem dX6_nights_20 : decode cX6_nights 20 = .ok (.getfield 61, 3) := by decide +kernel
theorem dX6_nights_23 : decode cX6_nights 23 = .ok (.iload_n 1, 1) := by decide +kernel
theorem dX6_nights_24 : decode cX6_nights 24 = .ok (.iadd, 1) := by decide +kernel
theorem dX6_nights_25 : decode cX6_nights 25 = .ok (.sipush 9999, 3) := by decide +kernel
theorem dX6_nights_28 : decode cX6_nights 28 = .ok (.if_icmp .le 9, 3) := by decide +kernel
theorem dX6_nights_31 : decode cX6_nights 31 = .ok (.aload_n 0, 1) := by decide +kernel
theorem dX6_nights_32 : decode cX6_nights 32 = .ok (.iconst 4, 1) := by decide +kernel
theorem dX6_nights_33 : decode cX6_nights 33 = .ok (.invokevirtual 48, 3) := by decide +kernel
theorem dX6_nights_36 : decode cX6_nights 36 = .ok (.ireturn, 1) := by decide +kernel
theorem dX6_nights_37 : decode cX6_nights 37 = .ok (.aload_n 0, 1) := by decide +kernel
theorem dX6_nights_38 : decode cX6_nights 38 = .ok (.getfield 16, 3) := by decide +kernel
theorem dX6_nights_41 : decode cX6_nights 41 = .ok (.iload_n 1, 1) := by decide +kernel
theorem dX6_nights_42 : decode cX6_nights 42 = .ok (.invokevirtual 166, 3) := by decide +kernel
theorem dX6_nights_45 : decode cX6_nights 45 = .ok (.aload_n 0, 1) := by decide +kernel
theorem dX6_nights_46 : decode cX6_nights 46 = .ok (.getfield 16, 3) := by decide +kernel
theorem dX6_nights_49 : decode cX6_nights 49 = .ok (.getfield 74, 3) := by decide +kernel
theorem dX6_nights_52 : decode cX6_nights 52 = .ok (.ireturn, 1) := by decide +kernel
theorem dX6_ink_0 : decode cX6_ink 0 = .ok (.iload_n 1, 1) := by decide +kernel
theorem dX6_ink_1 : decode cX6_ink 1 = .ok (.iconst 0, 1) := by decide +kernel
theorem dX6_ink_2 : decode cX6_ink 2 = .ok (.sipush 200, 3) := by decide +kernel
theorem dX6_ink_5 : decode cX6_ink 5 = .ok (.invokestatic 44, 3) := by decide +kernel
theorem dX6_ink_8 : decode cX6_ink 8 = .ok (.ifCond .ne 9, 3) := by decide +kernel
theorem dX6_ink_11 : decode cX6_ink 11 = .ok (.aload_n 0, 1) := by decide +kernel
theorem dX6_ink_12 : decode cX6_ink 12 = .ok (.iconst 0, 1) := by decide +kernel
theorem dX6_ink_13 : decode cX6_ink 13 = .ok (.invokevirtual 48, 3) := by decide +kernel
theorem dX6_ink_16 : decode cX6_ink 16 = .ok (.ireturn, 1) := by decide +kernel
theorem dX6_ink_17 : decode cX6_ink 17 = .ok (.aload_n 0, 1) := by decide +kernel
theorem dX6_ink_18 : decode cX6_ink 18 = .ok (.getfield 16, 3) := by decide +kernel
theorem dX6_ink_21 : decode cX6_ink 21 = .ok (.iload_n 1, 1) := by decide +kernel
theorem dX6_ink_22 : decode cX6_ink 22 = .ok (.aload_n 0, 1) := by decide +kernel
theorem dX6_ink_23 : decode cX6_ink 23 = .ok (.getfield 16, 3) := by decide +kernel
theorem dX6_ink_26 : decode cX6_ink 26 = .ok (.getfield 68, 3) := by decide +kernel
theorem dX6_ink_29 : decode cX6_ink 29 = .ok (.invokevirtual 170, 3) := by decide +kernel
theorem dX6_ink_32 : decode cX6_ink 32 = .ok (.ireturn, 1) := by decide +kernel
theorem dX6_on_0 : decode cX6_on 0 = .ok (.aload_n 0, 1) := by decide +kernel
theorem dX6_on_1 : decode cX6_on 1 = .ok (.getfield 16, 3) := by decide +kernel
theorem dX6_on_4 : decode cX6_on 4 = .ok (.iload_n 1, 1) := by decide +kernel
theorem dX6_on_5 : decode cX6_on 5 = .ok (.invokevirtual 107, 3) := by decide +kernel
theorem dX6_on_8 : decode cX6_on 8 = .ok (.ifCond .eq 23, 3) := by decide +kernel
theorem dX6_on_11 : decode cX6_on 11 = .ok (.iload_n 2, 1) := by decide +kernel
theorem dX6_on_12 : decode cX6_on 12 = .ok (.iconst 0, 1) := by decide +kernel
theorem dX6_on_13 : decode cX6_on 13 = .ok (.sipush 200, 3) := by decide +kernel
theorem dX6_on_16 : decode cX6_on 16 = .ok (.invokestatic 44, 3) := by decide +kernel
theorem dX6_on_19 : decode cX6_on 19 = .ok (.ifCond .eq 12, 3) := by decide +kernel
theorem dX6_on_22 : decode cX6_on 22 = .ok (.iload_n 3, 1) := by decide +kernel
theorem dX6_on_23 : decode cX6_on 23 = .ok (.iconst 0, 1) := by decide +kernel
theorem dX6_on_24 : decode cX6_on 24 = .ok (.iconst 1, 1) := by decide +kernel
theorem dX6_on_25 : decode cX6_on 25 = .ok (.invokestatic 44, 3) := by decide +kernel
theorem dX6_on_28 : decode cX6_on 28 = .ok (.ifCond .ne 9, 3) := by decide +kernel
theorem dX6_on_31 : decode cX6_on 31 = .ok (.aload_n 0, 1) := by decide +kernel
theorem dX6_on_32 : decode cX6_on 32 = .ok (.iconst 0, 1) := by decide +kernel
theorem dX6_on_33 : decode cX6_on 33 = .ok (.invokevirtual 48, 3) := by decide +kernel
theorem dX6_on_36 : decode cX6_on 36 = .ok (.ireturn, 1) := by decide +kernel
theorem dX6_on_37 : decode cX6_on 37 = .ok (.aload_n 0, 1) := by decide +kernel
theorem dX6_on_38 : decode cX6_on 38 = .ok (.getfield 16, 3) := by decide +kernel
theorem dX6_on_41 : decode cX6_on 41 = .ok (.getfield 110, 3) := by decide +kernel
theorem dX6_on_44 : decode cX6_on 44 = .ok (.iload_n 1, 1) := by decide +kernel
theorem dX6_on_45 : decode cX6_on 45 = .ok (.aaload, 1) := by decide +kernel
theorem dX6_on_46 : decode cX6_on 46 = .ok (.astore 4, 2) := by decide +kernel
theorem dX6_on_48 : decode cX6_on 48 = .ok (.iload_n 3, 1) := by decide +kernel
theorem dX6_on_49 : decode cX6_on 49 = .ok (.ifCond .ne 12, 3) := by decide +kernel
theorem dX6_on_52 : decode cX6_on 52 = .ok (.aload 4, 2) := by decide +kernel
theorem dX6_on_54 : decode cX6_on 54 = .ok (.iload_n 2, 1) := by decide +kernel
theorem dX6_on_55 : decode cX6_on 55 = .ok (.invokevirtual 173, 3) := by decide +kernel
theorem dX6_on_58 : decode cX6_on 58 = .ok (.goto 16, 3) := by decide +kernel
theorem dX6_on_61 : decode cX6_on 61 = .ok (.aload 4, 2) := by decide +kernel
theorem dX6_on_63 : decode cX6_on 63 = .ok (.iload_n 2, 1) := by decide +kernel
theorem dX6_on_64 : decode cX6_on 64 = .ok (.aload_n 0, 1) := by decide +kernel
theorem dX6_on_65 : decode cX6_on 65 = .ok (.getfield 16, 3) := by decide +kernel
theorem dX6_on_68 : decode cX6_on 68 = .ok (.getfield 77, 3) := by decide +kernel
theorem dX6_on_71 : decode cX6_on 71 = .ok (.invokevirtual 139, 3) := by decide +kernel
theorem dX6_on_74 : decode cX6_on 74 = .ok (.ireturn, 1) := by decide +kernel
theorem dX6_all_0 : decode cX6_all 0 = .ok (.iload_n 1, 1) := by decide +kernel
theorem dX6_all_1 : decode cX6_all 1 = .ok (.iconst 0, 1) := by decide +kernel
theorem dX6_all_2 : decode cX6_all 2 = .ok (.sipush 200, 3) := by decide +kernel
theorem dX6_all_5 : decode cX6_all 5 = .ok (.invokestatic 44, 3) := by decide +kernel
theorem dX6_all_8 : decode cX6_all 8 = .ok (.ifCond .ne 9, 3) := by decide +kernel
theorem dX6_all_11 : decode cX6_all 11 = .ok (.aload_n 0, 1) := by decide +kernel
theorem dX6_all_12 : decode cX6_all 12 = .ok (.iconst 0, 1) := by decide +kernel
theorem dX6_all_13 : decode cX6_all 13 = .ok (.invokevirtual 48, 3) := by decide +kernel
theorem dX6_all_16 : decode cX6_all 16 = .ok (.ireturn, 1) := by decide +kernel
theorem dX6_all_17 : decode cX6_all 17 = .ok (.aload_n 0, 1) := by decide +kernel
theorem dX6_all_18 : decode cX6_all 18 = .ok (.getfield 16, 3) := by decide +kernel
theorem dX6_all_21 : decode cX6_all 21 = .ok (.iload_n 1, 1) := by decide +kernel
theorem dX6_all_22 : decode cX6_all 22 = .ok (.aload_n 0, 1) := by decide +kernel
theorem dX6_all_23 : decode cX6_all 23 = .ok (.getfield 16, 3) := by decide +kernel
theorem dX6_all_26 : decode cX6_all 26 = .ok (.getfield 77, 3) := by decide +kernel
theorem dX6_all_29 : decode cX6_all 29 = .ok (.invokevirtual 84, 3) := by decide +kernel
theorem dX6_all_32 : decode cX6_all 32 = .ok (.ireturn, 1) := by decide +kernel
theorem dX6_white_0 : decode cX6_white 0 = .ok (.aload_n 0, 1) := by decide +kernel
theorem dX6_white_1 : decode cX6_white 1 = .ok (.getfield 16, 3) := by decide +kernel
theorem dX6_white_4 : decode cX6_white 4 = .ok (.iload_n 1, 1) := by decide +kernel
theorem dX6_white_5 : decode cX6_white 5 = .ok (.invokevirtual 107, 3) := by decide +kernel
theorem dX6_white_8 : decode cX6_white 8 = .ok (.ifCond .ne 9, 3) := by decide +kernel
theorem dX6_white_11 : decode cX6_white 11 = .ok (.aload_n 0, 1) := by decide +kernel
theorem dX6_white_12 : decode cX6_white 12 = .ok (.iconst 0, 1) := by decide +kernel
theorem dX6_white_13 : decode cX6_white 13 = .ok (.invokevirtual 48, 3) := by decide +kernel
theorem dX6_white_16 : decode cX6_white 16 = .ok (.ireturn, 1) := by decide +kernel
theorem dX6_white_17 : decode cX6_white 17 = .ok (.aload_n 0, 1) := by decide +kernel
theorem dX6_white_18 : decode cX6_white 18 = .ok (.aload_n 0, 1) := by decide +kernel
theorem dX6_white_19 : decode cX6_white 19 = .ok (.getfield 16, 3) := by decide +kernel
theorem dX6_white_22 : decode cX6_white 22 = .ok (.getfield 110, 3) := by decide +kernel
theorem dX6_white_25 : decode cX6_white 25 = .ok (.iload_n 1, 1) := by decide +kernel
theorem dX6_white_26 : decode cX6_white 26 = .ok (.aaload, 1) := by decide +kernel
theorem dX6_white_27 : decode cX6_white 27 = .ok (.sipush 200, 3) := by decide +kernel
theorem dX6_white_30 : decode cX6_white 30 = .ok (.invokevirtual 176, 3) := by decide +kernel
theorem dX6_white_33 : decode cX6_white 33 = .ok (.invokevirtual 179, 3) := by decide +kernel
theorem dX6_white_36 : decode cX6_white 36 = .ok (.ireturn, 1) := by decide +kernel
theorem dX6_comes_0 : decode cX6_comes 0 = .ok (.iload_n 1, 1) := by decide +kernel
theorem dX6_comes_1 : decode cX6_comes 1 = .ok (.iconst 0, 1) := by decide +kernel
theorem dX6_comes_2 : decode cX6_comes 2 = .ok (.sipush 999, 3) := by decide +kernel
theorem dX6_comes_5 : decode cX6_comes 5 = .ok (.invokestatic 44, 3) := by decide +kernel
theorem dX6_comes_8 : decode cX6_comes 8 = .ok (.ifCond .ne 9, 3) := by decide +kernel
theorem dX6_comes_11 : decode cX6_comes 11 = .ok (.aload_n 0, 1) := by decide +kernel
theorem dX6_comes_12 : decode cX6_comes 12 = .ok (.iconst 0, 1) := by decide +kernel
theorem dX6_comes_13 : decode cX6_comes 13 = .ok (.invokevirtual 48, 3) := by decide +kernel
theorem dX6_comes_16 : decode cX6_comes 16 = .ok (.ireturn, 1) := by decide +kernel
theorem dX6_comes_17 : decode cX6_comes 17 = .ok (.aload_n 0, 1) := by decide +kernel
theorem dX6_comes_18 : decode cX6_comes 18 = .ok (.aload_n 0, 1) := by decide +kernel
theorem dX6_comes_19 : decode cX6_comes 19 = .ok (.getfield 16, 3) := by decide +kernel
theorem dX6_comes_22 : decode cX6_comes 22 = .ok (.iload_n 1, 1) := by decide +kernel
theorem dX6_comes_23 : decode cX6_comes 23 = .ok (.sipush 200, 3) := by decide +kernel
theorem dX6_comes_26 : decode cX6_comes 26 = .ok (.invokevirtual 182, 3) := by decide +kernel
theorem dX6_comes_29 : decode cX6_comes 29 = .ok (.invokevirtual 179, 3) := by decide +kernel
theorem dX6_comes_32 : decode cX6_comes 32 = .ok (.ireturn, 1) := by decide +kernel
theorem dX6_when_0 : decode cX6_when 0 = .ok (.iload_n 1, 1) := by decide +kernel
theorem dX6_when_1 : decode cX6_when 1 = .ok (.invokestatic 88, 3) := by decide +kernel
theorem dX6_when_4 : decode cX6_when 4 = .ok (.ifCond .eq 13, 3) := by decide +kernel
theorem dX6_when_7 : decode cX6_when 7 = .ok (.iload_n 2, 1) := by decide +kernel
theorem dX6_when_8 : decode cX6_when 8 = .ok (.iconst 1, 1) := by decide +kernel
theorem dX6_when_9 : decode cX6_when 9 = .ok (.bipush 99, 2) := by decide +kernel
theorem dX6_when_11 : decode cX6_when 11 = .ok (.invokestatic 44, 3) := by decide +kernel
theorem dX6_when_14 : decode cX6_when 14 = .ok (.ifCond .ne 9, 3) := by decide +kernel
theorem dX6_when_17 : decode cX6_when 17 = .ok (.aload_n 0, 1) := by decide +kernel
theorem dX6_when_18 : decode cX6_when 18 = .ok (.iconst 0, 1) := by decide +kernel
theorem dX6_when_19 : decode cX6_when 19 = .ok (.invokevirtual 48, 3) := by decide +kernel
theorem dX6_when_22 : decode cX6_when 22 = .ok (.ireturn, 1) := by decide +kernel
theorem dX6_when_23 : decode cX6_when 23 = .ok (.aload_n 0, 1) := by decide +kernel
theorem dX6_when_24 : decode cX6_when 24 = .ok (.aload_n 0, 1) := by decide +kernel
theorem dX6_when_25 : decode cX6_when 25 = .ok (.getfield 16, 3) := by decide +kernel
theorem dX6_when_28 : decode cX6_when 28 = .ok (.iload_n 1, 1) := by decide +kernel
theorem dX6_when_29 : decode cX6_when 29 = .ok (.iload_n 2, 1) := by decide +kernel
theorem dX6_when_30 : decode cX6_when 30 = .ok (.invokevirtual 185, 3) := by decide +kernel
theorem dX6_when_33 : decode cX6_when 33 = .ok (.invokevirtual 179, 3) := by decide +kernel
theorem dX6_when_36 : decode cX6_when 36 = .ok (.ireturn, 1) := by decide +kernel
theorem dX6_shade_0 : decode cX6_shade 0 = .ok (.iload_n 1, 1) := by decide +kernel
theorem dX6_shade_1 : decode cX6_shade 1 = .ok (.iconst 1, 1) := by decide +kernel
theorem dX6_shade_2 : decode cX6_shade 2 = .ok (.bipush 60, 2) := by decide +kernel
theorem dX6_shade_4 : decode cX6_shade 4 = .ok (.invokestatic 44, 3) := by decide +kernel
theorem dX6_shade_7 : decode cX6_shade 7 = .ok (.ifCond .ne 9, 3) := by decide +kernel
theorem dX6_shade_10 : decode cX6_shade 10 = .ok (.aload_n 0, 1) := by decide +kernel
theorem dX6_shade_11 : decode cX6_shade 11 = .ok (.iconst 0, 1) := by decide +kernel
theorem dX6_shade_12 : decode cX6_shade 12 = .ok (.invokevirtual 48, 3) := by decide +kernel
theorem dX6_shade_15 : decode cX6_shade 15 = .ok (.ireturn, 1) := by decide +kernel
theorem dX6_shade_16 : decode cX6_shade 16 = .ok (.aload_n 0, 1) := by decide +kernel
theorem dX6_shade_17 : decode cX6_shade 17 = .ok (.aload_n 0, 1) := by decide +kernel
theorem dX6_shade_18 : decode cX6_shade 18 = .ok (.getfield 16, 3) := by decide +kernel
theorem dX6_shade_21 : decode cX6_shade 21 = .ok (.iload_n 1, 1) := by decide +kernel
theorem dX6_shade_22 : decode cX6_shade 22 = .ok (.invokevirtual 188, 3) := by decide +kernel
theorem dX6_shade_25 : decode cX6_shade 25 = .ok (.invokevirtual 179, 3) := by decide +kernel
theorem dX6_shade_28 : decode cX6_shade 28 = .ok (.ireturn, 1) := by decide +kernel
theorem dX6_enough_0 : decode cX6_enough 0 = .ok (.iload_n 1, 1) := by decide +kernel
theorem dX6_enough_1 : decode cX6_enough 1 = .ok (.iconst 1, 1) := by decide +kernel
theorem dX6_enough_2 : decode cX6_enough 2 = .ok (.bipush 60, 2) := by decide +kernel
theorem dX6_enough_4 : decode cX6_enough 4 = .ok (.invokestatic 44, 3) := by decide +kernel
theorem dX6_enough_7 : decode cX6_enough 7 = .ok (.ifCond .eq 14, 3) := by decide +kernel
theorem dX6_enough_10 : decode cX6_enough 10 = .ok (.iload_n 2, 1) := by decide +kernel
theorem dX6_enough_11 : decode cX6_enough 11 = .ok (.iconst 0, 1) := by decide +kernel
theorem dX6_enough_12 : decode cX6_enough 12 = .ok (.sipush 999, 3) := by decide +kernel
theorem dX6_enough_15 : decode cX6_enough 15 = .ok (.invokestatic 44, 3) := by decide +kernel
theorem dX6_enough_18 : decode cX6_enough 18 = .ok (.ifCond .ne 9, 3) := by decide +kernel
theorem dX6_enough_21 : decode cX6_enough 21 = .ok (.aload_n 0, 1) := by decide +kernel
theorem dX6_enough_22 : decode cX6_enough 22 = .ok (.iconst 0, 1) := by decide +kernel
theorem dX6_enough_23 : decode cX6_enough 23 = .ok (.invokevirtual 48, 3) := by decide +kernel
theorem dX6_enough_26 : decode cX6_enough 26 = .ok (.ireturn, 1) := by decide +kernel
theorem dX6_enough_27 : decode cX6_enough 27 = .ok (.aload_n 0, 1) := by decide +kernel
theorem dX6_enough_28 : decode cX6_enough 28 = .ok (.aload_n 0, 1) := by decide +kernel
theorem dX6_enough_29 : decode cX6_enough 29 = .ok (.getfield 16, 3) := by decide +kernel
theorem dX6_enough_32 : decode cX6_enough 32 = .ok (.iload_n 1, 1) := by decide +kernel
theorem dX6_enough_33 : decode cX6_enough 33 = .ok (.iload_n 2, 1) := by decide +kernel
theorem dX6_enough_34 : decode cX6_enough 34 = .ok (.invokevirtual 191, 3) := by decide +kernel
theorem dX6_enough_37 : decode cX6_enough 37 = .ok (.invokevirtual 179, 3) := by decide +kernel
theorem dX6_enough_40 : decode cX6_enough 40 = .ok (.ireturn, 1) := by decide +kernel
theorem dX6_kind_0 : decode cX6_kind 0 = .ok (.aload_n 0, 1) := by decide +kernel
theorem dX6_kind_1 : decode cX6_kind 1 = .ok (.getfield 16, 3) := by decide +kernel
theorem dX6_kind_4 : decode cX6_kind 4 = .ok (.iload_n 1, 1) := by decide +kernel
theorem dX6_kind_5 : decode cX6_kind 5 = .ok (.invokevirtual 107, 3) := by decide +kernel
theorem dX6_kind_8 : decode cX6_kind 8 = .ok (.ifCond .eq 13, 3) := by decide +kernel
theorem dX6_kind_11 : decode cX6_kind 11 = .ok (.iload_n 2, 1) := by decide +kernel
theorem dX6_kind_12 : decode cX6_kind 12 = .ok (.iconst 0, 1) := by decide +kernel
theorem dX6_kind_13 : decode cX6_kind 13 = .ok (.bipush 60, 2) := by decide +kernel
theorem dX6_kind_15 : decode cX6_kind 15 = .ok (.invokestatic 44, 3) := by decide +kernel
theorem dX6_kind_18 : decode cX6_kind 18 = .ok (.ifCond .ne 9, 3) := by decide +kernel
theorem dX6_kind_21 : decode cX6_kind 21 = .ok (.aload_n 0, 1) := by decide +kernel
theorem dX6_kind_22 : decode cX6_kind 22 = .ok (.iconst 0, 1) := by decide +kernel
theorem dX6_kind_23 : decode cX6_kind 23 = .ok (.invokevirtual 48, 3) := by decide +kernel
theorem dX6_kind_26 : decode cX6_kind 26 = .ok (.ireturn, 1) := by decide +kernel
theorem dX6_kind_27 : decode cX6_kind 27 = .ok (.aload_n 0, 1) := by decide +kernel
theorem dX6_kind_28 : decode cX6_kind 28 = .ok (.getfield 16, 3) := by decide +kernel
theorem dX6_kind_31 : decode cX6_kind 31 = .ok (.getfield 110, 3) := by decide +kernel
theorem dX6_kind_34 : decode cX6_kind 34 = .ok (.iload_n 1, 1) := by decide +kernel
theorem dX6_kind_35 : decode cX6_kind 35 = .ok (.aaload, 1) := by decide +kernel
theorem dX6_kind_36 : decode cX6_kind 36 = .ok (.iload_n 2, 1) := by decide +kernel
theorem dX6_kind_37 : decode cX6_kind 37 = .ok (.aload_n 0, 1) := by decide +kernel
theorem dX6_kind_38 : decode cX6_kind 38 = .ok (.getfield 16, 3) := by decide +kernel
theorem dX6_kind_41 : decode cX6_kind 41 = .ok (.getfield 77, 3) := by decide +kernel
theorem dX6_kind_44 : decode cX6_kind 44 = .ok (.invokevirtual 194, 3) := by decide +kernel
theorem dX6_kind_47 : decode cX6_kind 47 = .ok (.ireturn, 1) := by decide +kernel
theorem dX6_lamp_0 : decode cX6_lamp 0 = .ok (.iload_n 1, 1) := by decide +kernel
theorem dX6_lamp_1 : decode cX6_lamp 1 = .ok (.iconst 0, 1) := by decide +kernel
theorem dX6_lamp_2 : decode cX6_lamp 2 = .ok (.bipush 60, 2) := by decide +kernel
theorem dX6_lamp_4 : decode cX6_lamp 4 = .ok (.invokestatic 44, 3) := by decide +kernel
theorem dX6_lamp_7 : decode cX6_lamp 7 = .ok (.ifCond .eq 14, 3) := by decide +kernel
theorem dX6_lamp_10 : decode cX6_lamp 10 = .ok (.iload_n 2, 1) := by decide +kernel
theorem dX6_lamp_11 : decode cX6_lamp 11 = .ok (.iconst 0, 1) := by decide +kernel
theorem dX6_lamp_12 : decode cX6_lamp 12 = .ok (.sipush 9999, 3) := by decide +kernel
theorem dX6_lamp_15 : decode cX6_lamp 15 = .ok (.invokestatic 44, 3) := by decide +kernel
theorem dX6_lamp_18 : decode cX6_lamp 18 = .ok (.ifCond .ne 9, 3) := by decide +kernel
theorem dX6_lamp_21 : decode cX6_lamp 21 = .ok (.aload_n 0, 1) := by decide +kernel
theorem dX6_lamp_22 : decode cX6_lamp 22 = .ok (.iconst 0, 1) := by decide +kernel
theorem dX6_lamp_23 : decode cX6_lamp 23 = .ok (.invokevirtual 48, 3) := by decide +kernel
theorem dX6_lamp_26 : decode cX6_lamp 26 = .ok (.ireturn, 1) := by decide +kernel
theorem dX6_lamp_27 : decode cX6_lamp 27 = .ok (.aload_n 0, 1) := by decide +kernel
theorem dX6_lamp_28 : decode cX6_lamp 28 = .ok (.aload_n 0, 1) := by decide +kernel
theorem dX6_lamp_29 : decode cX6_lamp 29 = .ok (.getfield 16, 3) := by decide +kernel
theorem dX6_lamp_32 : decode cX6_lamp 32 = .ok (.iload_n 1, 1) := by decide +kernel
theorem dX6_lamp_33 : decode cX6_lamp 33 = .ok (.iload_n 2, 1) := by decide +kernel
theorem dX6_lamp_34 : decode cX6_lamp 34 = .ok (.invokevirtual 197, 3) := by decide +kernel
theorem dX6_lamp_37 : decode cX6_lamp 37 = .ok (.invokevirtual 179, 3) := by decide +kernel
theorem dX6_lamp_40 : decode cX6_lamp 40 = .ok (.ireturn, 1) := by decide +kernel
theorem dX6_longest_0 : decode cX6_longest 0 = .ok (.iload_n 1, 1) := by decide +kernel
theorem dX6_longest_1 : decode cX6_longest 1 = .ok (.invokestatic 88, 3) := by decide +kernel
theorem dX6_longest_4 : decode cX6_longest 4 = .ok (.ifCond .ne 9, 3) := by decide +kernel
theorem dX6_longest_7 : decode cX6_longest 7 = .ok (.aload_n 0, 1) := by decide +kernel
theorem dX6_longest_8 : decode cX6_longest 8 = .ok (.iconst 0, 1) := by decide +kernel
theorem dX6_longest_9 : decode cX6_longest 9 = .ok (.invokevirtual 48, 3) := by decide +kernel
theorem dX6_longest_12 : decode cX6_longest 12 = .ok (.ireturn, 1) := by decide +kernel
theorem dX6_longest_13 : decode cX6_longest 13 = .ok (.aload_n 0, 1) := by decide +kernel
theorem dX6_longest_14 : decode cX6_longest 14 = .ok (.getfield 16, 3) := by decide +kernel
theorem dX6_longest_17 : decode cX6_longest 17 = .ok (.invokevirtual 96, 3) := by decide +kernel
theorem dX6_longest_20 : decode cX6_longest 20 = .ok (.ifCond .eq 9, 3) := by decide +kernel
theorem dX6_longest_23 : decode cX6_longest 23 = .ok (.aload_n 0, 1) := by decide +kernel
theorem dX6_longest_24 : decode cX6_longest 24 = .ok (.iconst 1, 1) := by decide +kernel
theorem dX6_longest_25 : decode cX6_longest 25 = .ok (.invokevirtual 48, 3) := by decide +kernel
theorem dX6_longest_28 : decode cX6_longest 28 = .ok (.ireturn, 1) := by decide +kernel
theorem dX6_longest_29 : decode cX6_longest 29 = .ok (.aload_n 0, 1) := by decide +kernel
theorem dX6_longest_30 : decode cX6_longest 30 = .ok (.aload_n 0, 1) := by decide +kernel
theorem dX6_longest_31 : decode cX6_longest 31 = .ok (.getfield 16, 3) := by decide +kernel
theorem dX6_longest_34 : decode cX6_longest 34 = .ok (.iload_n 1, 1) := by decide +kernel
theorem dX6_longest_35 : decode cX6_longest 35 = .ok (.invokevirtual 200, 3) := by decide +kernel
theorem dX6_longest_38 : decode cX6_longest 38 = .ok (.invokevirtual 179, 3) := by decide +kernel
theorem dX6_longest_41 : decode cX6_longest 41 = .ok (.ireturn, 1) := by decide +kernel
theorem dX6_sunny_0 : decode cX6_sunny 0 = .ok (.iload_n 1, 1) := by decide +kernel
theorem dX6_sunny_1 : decode cX6_sunny 1 = .ok (.iconst 1, 1) := by decide +kernel
theorem dX6_sunny_2 : decode cX6_sunny 2 = .ok (.bipush 20, 2) := by decide +kernel
theorem dX6_sunny_4 : decode cX6_sunny 4 = .ok (.invokestatic 44, 3) := by decide +kernel
theorem dX6_sunny_7 : decode cX6_sunny 7 = .ok (.ifCond .eq 14, 3) := by decide +kernel
theorem dX6_sunny_10 : decode cX6_sunny 10 = .ok (.iload_n 2, 1) := by decide +kernel
theorem dX6_sunny_11 : decode cX6_sunny 11 = .ok (.iconst 0, 1) := by decide +kernel
theorem dX6_sunny_12 : decode cX6_sunny 12 = .ok (.sipush 9999, 3) := by decide +kernel
theorem dX6_sunny_15 : decode cX6_sunny 15 = .ok (.invokestatic 44, 3) := by decide +kernel
theorem dX6_sunny_18 : decode cX6_sunny 18 = .ok (.ifCond .ne 9, 3) := by decide +kernel
theorem dX6_sunny_21 : decode cX6_sunny 21 = .ok (.aload_n 0, 1) := by decide +kernel
theorem dX6_sunny_22 : decode cX6_sunny 22 = .ok (.iconst 0, 1) := by decide +kernel
theorem dX6_sunny_23 : decode cX6_sunny 23 = .ok (.invokevirtual 48, 3) := by decide +kernel
theorem dX6_sunny_26 : decode cX6_sunny 26 = .ok (.ireturn, 1) := by decide +kernel
theorem dX6_sunny_27 : decode cX6_sunny 27 = .ok (.aload_n 0, 1) := by decide +kernel
theorem dX6_sunny_28 : decode cX6_sunny 28 = .ok (.aload_n 0, 1) := by decide +kernel
theorem dX6_sunny_29 : decode cX6_sunny 29 = .ok (.getfield 16, 3) := by decide +kernel
theorem dX6_sunny_32 : decode cX6_sunny 32 = .ok (.iload_n 1, 1) := by decide +kernel
theorem dX6_sunny_33 : decode cX6_sunny 33 = .ok (.iload_n 2, 1) := by decide +kernel
theorem dX6_sunny_34 : decode cX6_sunny 34 = .ok (.invokevirtual 203, 3) := by decide +kernel
theorem dX6_sunny_37 : decode cX6_sunny 37 = .ok (.invokevirtual 179, 3) := by decide +kernel
theorem dX6_sunny_40 : decode cX6_sunny 40 = .ok (.ireturn, 1) := by decide +kernel
theorem dX6_feed_0 : decode cX6_feed 0 = .ok (.iload_n 2, 1) := by decide +kernel
theorem dX6_feed_1 : decode cX6_feed 1 = .ok (.iconst 1, 1) := by decide +kernel
theorem dX6_feed_2 : decode cX6_feed 2 = .ok (.iconst 4, 1) := by decide +kernel
theorem dX6_feed_3 : decode cX6_feed 3 = .ok (.invokestatic 44, 3) := by decide +kernel
theorem dX6_feed_6 : decode cX6_feed 6 = .ok (.ifCond .ne 9, 3) := by decide +kernel
theorem dX6_feed_9 : decode cX6_feed 9 = .ok (.aload_n 0, 1) := by decide +kernel
theorem dX6_feed_10 : decode cX6_feed 10 = .ok (.iconst 0, 1) := by decide +kernel
theorem dX6_feed_11 : decode cX6_feed 11 = .ok (.invokevirtual 48, 3) := by decide +kernel
theorem dX6_feed_14 : decode cX6_feed 14 = .ok (.ireturn, 1) := by decide +kernel
theorem dX6_feed_15 : decode cX6_feed 15 = .ok (.aload_n 0, 1) := by decide +kernel
theorem dX6_feed_16 : decode cX6_feed 16 = .ok (.getfield 29, 3) := by decide +kernel
theorem dX6_feed_19 : decode cX6_feed 19 = .ok (.getfield 206, 3) := by decide +kernel
theorem dX6_feed_22 : decode cX6_feed 22 = .ok (.iload_n 2, 1) := by decide +kernel
theorem dX6_feed_23 : decode cX6_feed 23 = .ok (.iadd, 1) := by decide +kernel
theorem dX6_feed_24 : decode cX6_feed 24 = .ok (.bipush 120, 2) := by decide +kernel
theorem dX6_feed_26 : decode cX6_feed 26 = .ok (.if_icmp .le 9, 3) := by decide +kernel
theorem dX6_feed_29 : decode cX6_feed 29 = .ok (.aload_n 0, 1) := by decide +kernel
theorem dX6_feed_30 : decode cX6_feed 30 = .ok (.iconst 1, 1) := by decide +kernel
theorem dX6_feed_31 : decode cX6_feed 31 = .ok (.invokevirtual 48, 3) := by decide +kernel
theorem dX6_feed_34 : decode cX6_feed 34 = .ok (.ireturn, 1) := by decide +kernel
theorem dX6_feed_35 : decode cX6_feed 35 = .ok (.iload_n 2, 1) := by decide +kernel
theorem dX6_feed_36 : decode cX6_feed 36 = .ok (.iconst 1, 1) := by decide +kernel
theorem dX6_feed_37 : decode cX6_feed 37 = .ok (.isub, 1) := by decide +kernel
theorem dX6_feed_38 : decode cX6_feed 38 = .ok (.istore_n 3, 1) := by decide +kernel
theorem dX6_feed_39 : decode cX6_feed 39 = .ok (.iload_n 3, 1) := by decide +kernel
theorem dX6_feed_40 : decode cX6_feed 40 = .ok (.ifCond .lt 26, 3) := by decide +kernel
theorem dX6_feed_43 : decode cX6_feed 43 = .ok (.aload_n 0, 1) := by decide +kernel
theorem dX6_feed_44 : decode cX6_feed 44 = .ok (.getfield 29, 3) := by decide +kernel
theorem dX6_feed_47 : decode cX6_feed 47 = .ok (.iload_n 1, 1) := by decide +kernel
theorem dX6_feed_48 : decode cX6_feed 48 = .ok (.bipush 8, 2) := by decide +kernel
theorem dX6_feed_50 : decode cX6_feed 50 = .ok (.iload_n 3, 1) := by decide +kernel
theorem dX6_feed_51 : decode cX6_feed 51 = .ok (.imul, 1) := by decide +kernel
theorem dX6_feed_52 : decode cX6_feed 52 = .ok (.ishr, 1) := by decide +kernel
theorem dX6_feed_53 : decode cX6_feed 53 = .ok (.sipush 255, 3) := by decide +kernel
theorem dX6_feed_56 : decode cX6_feed 56 = .ok (.iand, 1) := by decide +kernel
theorem dX6_feed_57 : decode cX6_feed 57 = .ok (.invokevirtual 209, 3) := by decide +kernel
theorem dX6_feed_60 : decode cX6_feed 60 = .ok (.iinc 3 (-1), 3) := by decide +kernel
theorem dX6_feed_63 : decode cX6_feed 63 = .ok (.goto (-24), 3) := by decide +kernel
theorem dX6_feed_66 : decode cX6_feed 66 = .ok (.aload_n 0, 1) := by decide +kernel
theorem dX6_feed_67 : decode cX6_feed 67 = .ok (.getfield 29, 3) := by decide +kernel
theorem dX6_feed_70 : decode cX6_feed 70 = .ok (.getfield 206, 3) := by decide +kernel
theorem dX6_feed_73 : decode cX6_feed 73 = .ok (.ireturn, 1) := by decide +kernel
theorem dX6_wipe_0 : decode cX6_wipe 0 = .ok (.aload_n 0, 1) := by decide +kernel
theorem dX6_wipe_1 : decode cX6_wipe 1 = .ok (.getfield 29, 3) := by decide +kernel
theorem dX6_wipe_4 : decode cX6_wipe 4 = .ok (.getfield 206, 3) := by decide +kernel
theorem dX6_wipe_7 : decode cX6_wipe 7 = .ok (.istore_n 1, 1) := by decide +kernel
theorem dX6_wipe_8 : decode cX6_wipe 8 = .ok (.aload_n 0, 1) := by decide +kernel
theorem dX6_wipe_9 : decode cX6_wipe 9 = .ok (.getfield 29, 3) := by decide +kernel
theorem dX6_wipe_12 : decode cX6_wipe 12 = .ok (.iconst 0, 1) := by decide +kernel
theorem dX6_wipe_13 : decode cX6_wipe 13 = .ok (.putfield 206, 3) := by decide +kernel
theorem dX6_wipe_16 : decode cX6_wipe 16 = .ok (.iload_n 1, 1) := by decide +kernel
theorem dX6_wipe_17 : decode cX6_wipe 17 = .ok (.ireturn, 1) := by decide +kernel
theorem dX6_text_0 : decode cX6_text 0 = .ok (.aload_n 0, 1) := by decide +kernel
theorem dX6_text_1 : decode cX6_text 1 = .ok (.getfield 23, 3) := by decide +kernel
theorem dX6_text_4 : decode cX6_text 4 = .ok (.aload_n 0, 1) := by decide +kernel
theorem dX6_text_5 : decode cX6_text 5 = .ok (.getfield 16, 3) := by decide +kernel
theorem dX6_text_8 : decode cX6_text 8 = .ok (.invokevirtual 212, 3) := by decide +kernel
theorem dX6_text_11 : decode cX6_text 11 = .ok (.aload_n 0, 1) := by decide +kernel
theorem dX6_text_12 : decode cX6_text 12 = .ok (.getfield 29, 3) := by decide +kernel
theorem dX6_text_15 : decode cX6_text 15 = .ok (.aload_n 0, 1) := by decide +kernel
theorem dX6_text_16 : decode cX6_text 16 = .ok (.getfield 23, 3) := by decide +kernel
theorem dX6_text_19 : decode cX6_text 19 = .ok (.invokestatic 216, 3) := by decide +kernel
theorem dX6_text_22 : decode cX6_text 22 = .ok (.istore_n 1, 1) := by decide +kernel
theorem dX6_text_23 : decode cX6_text 23 = .ok (.iload_n 1, 1) := by decide +kernel
theorem dX6_text_24 : decode cX6_text 24 = .ok (.ifCond .lt 14, 3) := by decide +kernel
theorem dX6_text_27 : decode cX6_text 27 = .ok (.aload_n 0, 1) := by decide +kernel
theorem dX6_text_28 : decode cX6_text 28 = .ok (.getfield 16, 3) := by decide +kernel
theorem dX6_text_31 : decode cX6_text 31 = .ok (.aload_n 0, 1) := by decide +kernel
theorem dX6_text_32 : decode cX6_text 32 = .ok (.getfield 23, 3) := by decide +kernel
theorem dX6_text_35 : decode cX6_text 35 = .ok (.invokevirtual 212, 3) := by decide +kernel
theorem dX6_text_38 : decode cX6_text 38 = .ok (.aload_n 0, 1) := by decide +kernel
theorem dX6_text_39 : decode cX6_text 39 = .ok (.getfield 29, 3) := by decide +kernel
theorem dX6_text_42 : decode cX6_text 42 = .ok (.iconst 0, 1) := by decide +kernel
theorem dX6_text_43 : decode cX6_text 43 = .ok (.putfield 206, 3) := by decide +kernel
theorem dX6_text_46 : decode cX6_text 46 = .ok (.iload_n 1, 1) := by decide +kernel
theorem dX6_text_47 : decode cX6_text 47 = .ok (.ireturn, 1) := by decide +kernel
theorem dX6_sheet_0 : decode cX6_sheet 0 = .ok (.iload_n 1, 1) := by decide +kernel
theorem dX6_sheet_1 : decode cX6_sheet 1 = .ok (.invokestatic 222, 3) := by decide +kernel
theorem dX6_sheet_4 : decode cX6_sheet 4 = .ok (.ifCond .eq 10, 3) := by decide +kernel
theorem dX6_sheet_7 : decode cX6_sheet 7 = .ok (.iload_n 2, 1) := by decide +kernel
theorem dX6_sheet_8 : decode cX6_sheet 8 = .ok (.invokestatic 225, 3) := by decide +kernel
theorem dX6_sheet_11 : decode cX6_sheet 11 = .ok (.ifCond .ne 9, 3) := by decide +kernel
theorem dX6_sheet_14 : decode cX6_sheet 14 = .ok (.aload_n 0, 1) := by decide +kernel
theorem dX6_sheet_15 : decode cX6_sheet 15 = .ok (.iconst 0, 1) := by decide +kernel
theorem dX6_sheet_16 : decode cX6_sheet 16 = .ok (.invokevirtual 48, 3) := by decide +kernel
theorem dX6_sheet_19 : decode cX6_sheet 19 = .ok (.ireturn, 1) := by decide +kernel
theorem dX6_sheet_20 : decode cX6_sheet 20 = .ok (.iload_n 3, 1) := by decide +kernel
theorem dX6_sheet_21 : decode cX6_sheet 21 = .ok (.ifCond .ge 10, 3) := by decide +kernel
theorem dX6_sheet_24 : decode cX6_sheet 24 = .ok (.aload_n 0, 1) := by decide +kernel
theorem dX6_sheet_25 : decode cX6_sheet 25 = .ok (.bipush 6, 2) := by decide +kernel
theorem dX6_sheet_27 : decode cX6_sheet 27 = .ok (.invokevirtual 48, 3) := by decide +kernel
theorem dX6_sheet_30 : decode cX6_sheet 30 = .ok (.ireturn, 1) := by decide +kernel
theorem dX6_sheet_31 : decode cX6_sheet 31 = .ok (.iload_n 3, 1) := by decide +kernel
theorem dX6_sheet_32 : decode cX6_sheet 32 = .ok (.bipush 40, 2) := by decide +kernel
theorem dX6_sheet_34 : decode cX6_sheet 34 = .ok (.if_icmp .le 9, 3) := by decide +kernel
theorem dX6_sheet_37 : decode cX6_sheet 37 = .ok (.aload_n 0, 1) := by decide +kernel
theorem dX6_sheet_38 : decode cX6_sheet 38 = .ok (.iconst 0, 1) := by decide +kernel
theorem dX6_sheet_39 : decode cX6_sheet 39 = .ok (.invokevirtual 48, 3) := by decide +kernel
theorem dX6_sheet_42 : decode cX6_sheet 42 = .ok (.ireturn, 1) := by decide +kernel
theorem dX6_sheet_43 : decode cX6_sheet 43 = .ok (.aload_n 0, 1) := by decide +kernel
theorem dX6_sheet_44 : decode cX6_sheet 44 = .ok (.getfield 35, 3) := by decide +kernel
theorem dX6_sheet_47 : decode cX6_sheet 47 = .ok (.iload_n 1, 1) := by decide +kernel
theorem dX6_sheet_48 : decode cX6_sheet 48 = .ok (.aaload, 1) := by decide +kernel
theorem dX6_sheet_49 : decode cX6_sheet 49 = .ok (.iload_n 2, 1) := by decide +kernel
theorem dX6_sheet_50 : decode cX6_sheet 50 = .ok (.iload_n 3, 1) := by decide +kernel
theorem dX6_sheet_51 : decode cX6_sheet 51 = .ok (.invokevirtual 228, 3) := by decide +kernel
theorem dX6_sheet_54 : decode cX6_sheet 54 = .ok (.aload_n 0, 1) := by decide +kernel
theorem dX6_sheet_55 : decode cX6_sheet 55 = .ok (.getfield 35, 3) := by decide +kernel
theorem dX6_sheet_58 : decode cX6_sheet 58 = .ok (.iload_n 1, 1) := by decide +kernel
theorem dX6_sheet_59 : decode cX6_sheet 59 = .ok (.aaload, 1) := by decide +kernel
theorem dX6_sheet_60 : decode cX6_sheet 60 = .ok (.getfield 231, 3) := by decide +kernel
theorem dX6_sheet_63 : decode cX6_sheet 63 = .ok (.ireturn, 1) := by decide +kernel
theorem dX6_write_0 : decode cX6_write 0 = .ok (.iload_n 1, 1) := by decide +kernel
theorem dX6_write_1 : decode cX6_write 1 = .ok (.invokestatic 222, 3) := by decide +kernel
theorem dX6_write_4 : decode cX6_write 4 = .ok (.ifCond .ne 10, 3) := by decide +kernel
theorem dX6_write_7 : decode cX6_write 7 = .ok (.aload_n 0, 1) := by decide +kernel
theorem dX6_write_8 : decode cX6_write 8 = .ok (.iconst 0, 1) := by decide +kernel
theorem dX6_write_9 : decode cX6_write 9 = .ok (.invokevirtual 48, 3) := by decide +kernel
theorem dX6_write_12 : decode cX6_write 12 = .ok (.i2l, 1) := by decide +kernel
theorem dX6_write_13 : decode cX6_write 13 = .ok (.lreturn, 1) := by decide +kernel
theorem dX6_write_14 : decode cX6_write 14 = .ok (.aload_n 0, 1) := by decide +kernel
theorem dX6_write_15 : decode cX6_write 15 = .ok (.getfield 35, 3) := by decide +kernel
theorem dX6_write_18 : decode cX6_write 18 = .ok (.iload_n 1, 1) := by decide +kernel
theorem dX6_write_19 : decode cX6_write 19 = .ok (.aaload, 1) := by decide +kernel
theorem dX6_write_20 : decode cX6_write 20 = .ok (.invokevirtual 232, 3) := by decide +kernel
theorem dX6_write_23 : decode cX6_write 23 = .ok (.ifCond .eq 10, 3) := by decide +kernel
theorem dX6_write_26 : decode cX6_write 26 = .ok (.aload_n 0, 1) := by decide +kernel
theorem dX6_write_27 : decode cX6_write 27 = .ok (.iconst 5, 1) := by decide +kernel
theorem dX6_write_28 : decode cX6_write 28 = .ok (.invokevirtual 48, 3) := by decide +kernel
theorem dX6_write_31 : decode cX6_write 31 = .ok (.i2l, 1) := by decide +kernel
theorem dX6_write_32 : decode cX6_write 32 = .ok (.lreturn, 1) := by decide +kernel
theorem dX6_write_33 : decode cX6_write 33 = .ok (.iload_n 2, 1) := by decide +kernel
theorem dX6_write_34 : decode cX6_write 34 = .ok (.iconst 0, 1) := by decide +kernel
theorem dX6_write_35 : decode cX6_write 35 = .ok (.aload_n 0, 1) := by decide +kernel
theorem dX6_write_36 : decode cX6_write 36 = .ok (.getfield 35, 3) := by decide +kernel
theorem dX6_write_39 : decode cX6_write 39 = .ok (.iload_n 1, 1) := by decide +kernel
theorem dX6_write_40 : decode cX6_write 40 = .ok (.aaload, 1) := by decide +kernel
theorem dX6_write_41 : decode cX6_write 41 = .ok (.getfield 231, 3) := by decide +kernel
theorem dX6_write_44 : decode cX6_write 44 = .ok (.iconst 1, 1) := by decide +kernel
theorem dX6_write_45 : decode cX6_write 45 = .ok (.isub, 1) := by decide +kernel
theorem dX6_write_46 : decode cX6_write 46 = .ok (.invokestatic 44, 3) := by decide +kernel
theorem dX6_write_49 : decode cX6_write 49 = .ok (.ifCond .ne 10, 3) := by decide +kernel
theorem dX6_write_52 : decode cX6_write 52 = .ok (.aload_n 0, 1) := by decide +kernel
theorem dX6_write_53 : decode cX6_write 53 = .ok (.iconst 0, 1) := by decide +kernel
theorem dX6_write_54 : decode cX6_write 54 = .ok (.invokevirtual 48, 3) := by decide +kernel
theorem dX6_write_57 : decode cX6_write 57 = .ok (.i2l, 1) := by decide +kernel
theorem dX6_write_58 : decode cX6_write 58 = .ok (.lreturn, 1) := by decide +kernel
theorem dX6_write_59 : decode cX6_write 59 = .ok (.aload_n 0, 1) := by decide +kernel
theorem dX6_write_60 : decode cX6_write 60 = .ok (.getfield 35, 3) := by decide +kernel
theorem dX6_write_63 : decode cX6_write 63 = .ok (.iload_n 1, 1) := by decide +kernel
theorem dX6_write_64 : decode cX6_write 64 = .ok (.aaload, 1) := by decide +kernel
theorem dX6_write_65 : decode cX6_write 65 = .ok (.getfield 235, 3) := by decide +kernel
theorem dX6_write_68 : decode cX6_write 68 = .ok (.iload_n 2, 1) := by decide +kernel
theorem dX6_write_69 : decode cX6_write 69 = .ok (.laload, 1) := by decide +kernel
theorem dX6_write_70 : decode cX6_write 70 = .ok (.lstore 5, 2) := by decide +kernel
theorem dX6_write_72 : decode cX6_write 72 = .ok (.aload_n 0, 1) := by decide +kernel
theorem dX6_write_73 : decode cX6_write 73 = .ok (.getfield 35, 3) := by decide +kernel
theorem dX6_write_76 : decode cX6_write 76 = .ok (.iload_n 1, 1) := by decide +kernel
theorem dX6_write_77 : decode cX6_write 77 = .ok (.aaload, 1) := by decide +kernel
theorem dX6_write_78 : decode cX6_write 78 = .ok (.getfield 235, 3) := by decide +kernel
theorem dX6_write_81 : decode cX6_write 81 = .ok (.iload_n 2, 1) := by decide +kernel
theorem dX6_write_82 : decode cX6_write 82 = .ok (.aload_n 0, 1) := by decide +kernel
theorem dX6_write_83 : decode cX6_write 83 = .ok (.getfield 35, 3) := by decide +kernel
theorem dX6_write_86 : decode cX6_write 86 = .ok (.iload_n 1, 1) := by decide +kernel
theorem dX6_write_87 : decode cX6_write 87 = .ok (.aaload, 1) := by decide +kernel
theorem dX6_write_88 : decode cX6_write 88 = .ok (.lload_n 3, 1) := by decide +kernel
theorem dX6_write_89 : decode cX6_write 89 = .ok (.invokevirtual 239, 3) := by decide +kernel
theorem dX6_write_92 : decode cX6_write 92 = .ok (.lastore, 1) := by decide +kernel
theorem dX6_write_93 : decode cX6_write 93 = .ok (.lload 5, 2) := by decide +kernel
theorem dX6_write_95 : decode cX6_write 95 = .ok (.lreturn, 1) := by decide +kernel
theorem dX6_copy_0 : decode cX6_copy 0 = .ok (.iload_n 1, 1) := by decide +kernel
theorem dX6_copy_1 : decode cX6_copy 1 = .ok (.invokestatic 222, 3) := by decide +kernel
theorem dX6_copy_4 : decode cX6_copy 4 = .ok (.ifCond .eq 10, 3) := by decide +kernel
theorem dX6_copy_7 : decode cX6_copy 7 = .ok (.iload_n 3, 1) := by decide +kernel
theorem dX6_copy_8 : decode cX6_copy 8 = .ok (.invokestatic 222, 3) := by decide +kernel
theorem dX6_copy_11 : decode cX6_copy 11 = .ok (.ifCond .ne 9, 3) := by decide +kernel
theorem dX6_copy_14 : decode cX6_copy 14 = .ok (.aload_n 0, 1) := by decide +kernel
theorem dX6_copy_15 : decode cX6_copy 15 = .ok (.iconst 0, 1) := by decide +kernel
theorem dX6_copy_16 : decode cX6_copy 16 = .ok (.invokevirtual 48, 3) := by decide +kernel
theorem dX6_copy_19 : decode cX6_copy 19 = .ok (.ireturn, 1) := by decide +kernel
theorem dX6_copy_20 : decode cX6_copy 20 = .ok (.aload_n 0, 1) := by decide +kernel
theorem dX6_copy_21 : decode cX6_copy 21 = .ok (.getfield 35, 3) := by decide +kernel
theorem dX6_copy_24 : decode cX6_copy 24 = .ok (.iload_n 1, 1) := by decide +kernel
theorem dX6_copy_25 : decode cX6_copy 25 = .ok (.aaload, 1) := by decide +kernel
theorem dX6_copy_26 : decode cX6_copy 26 = .ok (.invokevirtual 232, 3) := by decide +kernel
theorem dX6_copy_29 : decode cX6_copy 29 = .ok (.ifCond .ne 15, 3) := by decide +kernel
theorem dX6_copy_32 : decode cX6_copy 32 = .ok (.aload_n 0, 1) := by decide +kernel
theorem dX6_copy_33 : decode cX6_copy 33 = .ok (.getfield 35, 3) := by decide +kernel
theorem dX6_copy_36 : decode cX6_copy 36 = .ok (.iload_n 3, 1) := by decide +kernel
theorem dX6_copy_37 : decode cX6_copy 37 = .ok (.aaload, 1) := by decide +kernel
theorem dX6_copy_38 : decode cX6_copy 38 = .ok (.invokevirtual 232, 3) := by decide +kernel
theorem dX6_copy_41 : decode cX6_copy 41 = .ok (.ifCond .eq 9, 3) := by decide +kernel
theorem dX6_copy_44 : decode cX6_copy 44 = .ok (.aload_n 0, 1) := by decide +kernel
theorem dX6_copy_45 : decode cX6_copy 45 = .ok (.iconst 5, 1) := by decide +kernel
theorem dX6_copy_46 : decode cX6_copy 46 = .ok (.invokevirtual 48, 3) := by decide +kernel
theorem dX6_copy_49 : decode cX6_copy 49 = .ok (.ireturn, 1) := by decide +kernel
theorem dX6_copy_50 : decode cX6_copy 50 = .ok (.aload_n 0, 1) := by decide +kernel
theorem dX6_copy_51 : decode cX6_copy 51 = .ok (.getfield 35, 3) := by decide +kernel
theorem dX6_copy_54 : decode cX6_copy 54 = .ok (.iload_n 1, 1) := by decide +kernel
theorem dX6_copy_55 : decode cX6_copy 55 = .ok (.aaload, 1) := by decide +kernel
theorem dX6_copy_56 : decode cX6_copy 56 = .ok (.getfield 243, 3) := by decide +kernel
theorem dX6_copy_59 : decode cX6_copy 59 = .ok (.aload_n 0, 1) := by decide +kernel
theorem dX6_copy_60 : decode cX6_copy 60 = .ok (.getfield 35, 3) := by decide +kernel
theorem dX6_copy_63 : decode cX6_copy 63 = .ok (.iload_n 3, 1) := by decide +kernel
theorem dX6_copy_64 : decode cX6_copy 64 = .ok (.aaload, 1) := by decide +kernel
theorem dX6_copy_65 : decode cX6_copy 65 = .ok (.getfield 243, 3) := by decide +kernel
theorem dX6_copy_68 : decode cX6_copy 68 = .ok (.if_icmp .eq 9, 3) := by decide +kernel
theorem dX6_copy_71 : decode cX6_copy 71 = .ok (.aload_n 0, 1) := by decide +kernel
theorem dX6_copy_72 : decode cX6_copy 72 = .ok (.iconst 2, 1) := by decide +kernel
theorem dX6_copy_73 : decode cX6_copy 73 = .ok (.invokevirtual 48, 3) := by decide +kernel
theorem dX6_copy_76 : decode cX6_copy 76 = .ok (.ireturn, 1) := by decide +kernel
theorem dX6_copy_77 : decode cX6_copy 77 = .ok (.aload_n 0, 1) := by decide +kernel
theorem dX6_copy_78 : decode cX6_copy 78 = .ok (.getfield 35, 3) := by decide +kernel
theorem dX6_copy_81 : decode cX6_copy 81 = .ok (.iload_n 1, 1) := by decide +kernel
theorem dX6_copy_82 : decode cX6_copy 82 = .ok (.aaload, 1) := by decide +kernel
theorem dX6_copy_83 : decode cX6_copy 83 = .ok (.iload_n 2, 1) := by decide +kernel
theorem dX6_copy_84 : decode cX6_copy 84 = .ok (.iload 5, 2) := by decide +kernel
theorem dX6_copy_86 : decode cX6_copy 86 = .ok (.invokevirtual 246, 3) := by decide +kernel
theorem dX6_copy_89 : decode cX6_copy 89 = .ok (.ifCond .eq 19, 3) := by decide +kernel
theorem dX6_copy_92 : decode cX6_copy 92 = .ok (.aload_n 0, 1) := by decide +kernel
theorem dX6_copy_93 : decode cX6_copy 93 = .ok (.getfield 35, 3) := by decide +kernel
theorem dX6_copy_96 : decode cX6_copy 96 = .ok (.iload_n 3, 1) := by decide +kernel
theorem dX6_copy_97 : decode cX6_copy 97 = .ok (.aaload, 1) := by decide +kernel
theorem dX6_copy_98 : decode cX6_copy 98 = .ok (.iload 4, 2) := by decide +kernel
theorem dX6_copy_100 : decode cX6_copy 100 = .ok (.iload 5, 2) := by decide +kernel
theorem dX6_copy_102 : decode cX6_copy 102 = .ok (.invokevirtual 246, 3) := by decide +kernel
theorem dX6_copy_105 : decode cX6_copy 105 = .ok (.ifCond .ne 9, 3) := by decide +kernel
theorem dX6_copy_108 : decode cX6_copy 108 = .ok (.aload_n 0, 1) := by decide +kernel
theorem dX6_copy_109 : decode cX6_copy 109 = .ok (.iconst 0, 1) := by decide +kernel
theorem dX6_copy_110 : decode cX6_copy 110 = .ok (.invokevirtual 48, 3) := by decide +kernel
theorem dX6_copy_113 : decode cX6_copy 113 = .ok (.ireturn, 1) := by decide +kernel
theorem dX6_copy_114 : decode cX6_copy 114 = .ok (.aload_n 0, 1) := by decide +kernel
theorem dX6_copy_115 : decode cX6_copy 115 = .ok (.getfield 35, 3) := by decide +kernel
theorem dX6_copy_118 : decode cX6_copy 118 = .ok (.iload_n 1, 1) := by decide +kernel
theorem dX6_copy_119 : decode cX6_copy 119 = .ok (.aaload, 1) := by decide +kernel
theorem dX6_copy_120 : decode cX6_copy 120 = .ok (.getfield 235, 3) := by decide +kernel
theorem dX6_copy_123 : decode cX6_copy 123 = .ok (.iload_n 2, 1) := by decide +kernel
theorem dX6_copy_124 : decode cX6_copy 124 = .ok (.aload_n 0, 1) := by decide +kernel
theorem dX6_copy_125 : decode cX6_copy 125 = .ok (.getfield 35, 3) := by decide +kernel
theorem dX6_copy_128 : decode cX6_copy 128 = .ok (.iload_n 3, 1) := by decide +kernel
theorem dX6_copy_129 : decode cX6_copy 129 = .ok (.aaload, 1) := by decide +kernel
theorem dX6_copy_130 : decode cX6_copy 130 = .ok (.getfield 235, 3) := by decide +kernel
theorem dX6_copy_133 : decode cX6_copy 133 = .ok (.iload 4, 2) := by decide +kernel
theorem dX6_copy_135 : decode cX6_copy 135 = .ok (.iload 5, 2) := by decide +kernel
theorem dX6_copy_137 : decode cX6_copy 137 = .ok (.invokestatic 249, 3) := by decide +kernel
theorem dX6_copy_140 : decode cX6_copy 140 = .ok (.iload 5, 2) := by decide +kernel
theorem dX6_copy_142 : decode cX6_copy 142 = .ok (.ireturn, 1) := by decide +kernel
theorem dX6_lays_0 : decode cX6_lays 0 = .ok (.iload_n 1, 1) := by decide +kernel
theorem dX6_lays_1 : decode cX6_lays 1 = .ok (.invokestatic 222, 3) := by decide +kernel
theorem dX6_lays_4 : decode cX6_lays 4 = .ok (.ifCond .ne 9, 3) := by decide +kernel
theorem dX6_lays_7 : decode cX6_lays 7 = .ok (.aload_n 0, 1) := by decide +kernel
theorem dX6_lays_8 : decode cX6_lays 8 = .ok (.iconst 0, 1) := by decide +kernel
theorem dX6_lays_9 : decode cX6_lays 9 = .ok (.invokevirtual 48, 3) := by decide +kernel
theorem dX6_lays_12 : decode cX6_lays 12 = .ok (.ireturn, 1) := by decide +kernel
theorem dX6_lays_13 : decode cX6_lays 13 = .ok (.aload_n 0, 1) := by decide +kernel
theorem dX6_lays_14 : decode cX6_lays 14 = .ok (.getfield 35, 3) := by decide +kernel
theorem dX6_lays_17 : decode cX6_lays 17 = .ok (.iload_n 1, 1) := by decide +kernel
theorem dX6_lays_18 : decode cX6_lays 18 = .ok (.aaload, 1) := by decide +kernel
theorem dX6_lays_19 : decode cX6_lays 19 = .ok (.invokevirtual 232, 3) := by decide +kernel
theorem dX6_lays_22 : decode cX6_lays 22 = .ok (.ifCond .eq 9, 3) := by decide +kernel
theorem dX6_lays_25 : decode cX6_lays 25 = .ok (.aload_n 0, 1) := by decide +kernel
theorem dX6_lays_26 : decode cX6_lays 26 = .ok (.iconst 5, 1) := by decide +kernel
theorem dX6_lays_27 : decode cX6_lays 27 = .ok (.invokevirtual 48, 3) := by decide +kernel
theorem dX6_lays_30 : decode cX6_lays 30 = .ok (.ireturn, 1) := by decide +kernel
theorem dX6_lays_31 : decode cX6_lays 31 = .ok (.aload_n 0, 1) := by decide +kernel
theorem dX6_lays_32 : decode cX6_lays 32 = .ok (.getfield 16, 3) := by decide +kernel
theorem dX6_lays_35 : decode cX6_lays 35 = .ok (.aload_n 0, 1) := by decide +kernel
theorem dX6_lays_36 : decode cX6_lays 36 = .ok (.getfield 35, 3) := by decide +kernel
theorem dX6_lays_39 : decode cX6_lays 39 = .ok (.iload_n 1, 1) := by decide +kernel
theorem dX6_lays_40 : decode cX6_lays 40 = .ok (.aaload, 1) := by decide +kernel
theorem dX6_lays_41 : decode cX6_lays 41 = .ok (.invokevirtual 255, 3) := by decide +kernel
theorem dX6_lays_44 : decode cX6_lays 44 = .ok (.ireturn, 1) := by decide +kernel
theorem dX6_book_0 : decode cX6_book 0 = .ok (.iload_n 1, 1) := by decide +kernel
theorem dX6_book_1 : decode cX6_book 1 = .ok (.invokestatic 222, 3) := by decide +kernel
theorem dX6_book_4 : decode cX6_book 4 = .ok (.ifCond .ne 9, 3) := by decide +kernel
theorem dX6_book_7 : decode cX6_book 7 = .ok (.aload_n 0, 1) := by decide +kernel
theorem dX6_book_8 : decode cX6_book 8 = .ok (.iconst 0, 1) := by decide +kernel
theorem dX6_book_9 : decode cX6_book 9 = .ok (.invokevirtual 48, 3) := by decide +kernel
theorem dX6_book_12 : decode cX6_book 12 = .ok (.ireturn, 1) := by decide +kernel
theorem dX6_book_13 : decode cX6_book 13 = .ok (.aload_n 0, 1) := by decide +kernel
theorem dX6_book_14 : decode cX6_book 14 = .ok (.getfield 35, 3) := by decide +kernel
theorem dX6_book_17 : decode cX6_book 17 = .ok (.iload_n 1, 1) := by decide +kernel
theorem dX6_book_18 : decode cX6_book 18 = .ok (.aaload, 1) := by decide +kernel
theorem dX6_book_19 : decode cX6_book 19 = .ok (.invokevirtual 232, 3) := by decide +kernel
theorem dX6_book_22 : decode cX6_book 22 = .ok (.ifCond .eq 9, 3) := by decide +kernel
theorem dX6_book_25 : decode cX6_book 25 = .ok (.aload_n 0, 1) := by decide +kernel
theorem dX6_book_26 : decode cX6_book 26 = .ok (.iconst 5, 1) := by decide +kernel
theorem dX6_book_27 : decode cX6_book 27 = .ok (.invokevirtual 48, 3) := by decide +kernel
theorem dX6_book_30 : decode cX6_book 30 = .ok (.ireturn, 1) := by decide +kernel
theorem dX6_book_31 : decode cX6_book 31 = .ok (.aload_n 0, 1) := by decide +kernel
theorem dX6_book_32 : decode cX6_book 32 = .ok (.getfield 16, 3) := by decide +kernel
theorem dX6_book_35 : decode cX6_book 35 = .ok (.iload_n 2, 1) := by decide +kernel
theorem dX6_book_36 : decode cX6_book 36 = .ok (.invokevirtual 107, 3) := by decide +kernel
theorem dX6_book_39 : decode cX6_book 39 = .ok (.ifCond .ne 9, 3) := by decide +kernel
theorem dX6_book_42 : decode cX6_book 42 = .ok (.aload_n 0, 1) := by decide +kernel
theorem dX6_book_43 : decode cX6_book 43 = .ok (.iconst 0, 1) := by decide +kernel
theorem dX6_book_44 : decode cX6_book 44 = .ok (.invokevirtual 48, 3) := by decide +kernel
theorem dX6_book_47 : decode cX6_book 47 = .ok (.ireturn, 1) := by decide +kernel
theorem dX6_book_48 : decode cX6_book 48 = .ok (.iconst 0, 1) := by decide +kernel
theorem dX6_book_49 : decode cX6_book 49 = .ok (.istore_n 3, 1) := by decide +kernel
theorem dX6_book_50 : decode cX6_book 50 = .ok (.iload_n 3, 1) := by decide +kernel
theorem dX6_book_51 : decode cX6_book 51 = .ok (.aload_n 0, 1) := by decide +kernel
theorem dX6_book_52 : decode cX6_book 52 = .ok (.getfield 35, 3) := by decide +kernel
theorem dX6_book_55 : decode cX6_book 55 = .ok (.iload_n 1, 1) := by decide +kernel
theorem dX6_book_56 : decode cX6_book 56 = .ok (.aaload, 1) := by decide +kernel
theorem dX6_book_57 : decode cX6_book 57 = .ok (.getfield 231, 3) := by decide +kernel
theorem dX6_book_60 : decode cX6_book 60 = .ok (.if_icmp .ge 34, 3) := by decide +kernel
theorem dX6_book_63 : decode cX6_book 63 = .ok (.aload_n 0, 1) := by decide +kernel
theorem dX6_book_64 : decode cX6_book 64 = .ok (.getfield 35, 3) := by decide +kernel
theorem dX6_book_67 : decode cX6_book 67 = .ok (.iload_n 1, 1) := by decide +kernel
theorem dX6_book_68 : decode cX6_book 68 = .ok (.aaload, 1) := by decide +kernel
theorem dX6_book_69 : decode cX6_book 69 = .ok (.getfield 235, 3) := by decide +kernel
theorem dX6_book_72 : decode cX6_book 72 = .ok (.iload_n 3, 1) := by decide +kernel
theorem dX6_book_73 : decode cX6_book 73 = .ok (.aload_n 0, 1) := by decide +kernel
theorem dX6_book_74 : decode cX6_book 74 = .ok (.getfield 16, 3) := by decide +kernel
theorem dX6_book_77 : decode cX6_book 77 = .ok (.getfield 110, 3) := by decide +kernel
theorem dX6_book_80 : decode cX6_book 80 = .ok (.iload_n 2, 1) := by decide +kernel
theorem dX6_book_81 : decode cX6_book 81 = .ok (.aaload, 1) := by decide +kernel
theorem dX6_book_82 : decode cX6_book 82 = .ok (.iload_n 3, 1) := by decide +kernel
theorem dX6_book_83 : decode cX6_book 83 = .ok (.invokevirtual 173, 3) := by decide +kernel
theorem dX6_book_86 : decode cX6_book 86 = .ok (.i2l, 1) := by decide +kernel
theorem dX6_book_87 : decode cX6_book 87 = .ok (.lastore, 1) := by decide +kernel
theorem dX6_book_88 : decode cX6_book 88 = .ok (.iinc 3 1, 3) := by decide +kernel
theorem dX6_book_91 : decode cX6_book 91 = .ok (.goto (-41), 3) := by decide +kernel
theorem dX6_book_94 : decode cX6_book 94 = .ok (.aload_n 0, 1) := by decide +kernel
theorem dX6_book_95 : decode cX6_book 95 = .ok (.getfield 35, 3) := by decide +kernel
theorem dX6_book_98 : decode cX6_book 98 = .ok (.iload_n 1, 1) := by decide +kernel
theorem dX6_book_99 : decode cX6_book 99 = .ok (.aaload, 1) := by decide +kernel
theorem dX6_book_100 : decode cX6_book 100 = .ok (.getfield 231, 3) := by decide +kernel
theorem dX6_book_103 : decode cX6_book 103 = .ok (.ireturn, 1) := by decide +kernel
theorem dX6_read_0 : decode cX6_read 0 = .ok (.iload_n 1, 1) := by decide +kernel
theorem dX6_read_1 : decode cX6_read 1 = .ok (.invokestatic 222, 3) := by decide +kernel
theorem dX6_read_4 : decode cX6_read 4 = .ok (.ifCond .ne 9, 3) := by decide +kernel
theorem dX6_read_7 : decode cX6_read 7 = .ok (.aload_n 0, 1) := by decide +kernel
theorem dX6_read_8 : decode cX6_read 8 = .ok (.iconst 0, 1) := by decide +kernel
theorem dX6_read_9 : decode cX6_read 9 = .ok (.invokevirtual 48, 3) := by decide +kernel
theorem dX6_read_12 : decode cX6_read 12 = .ok (.ireturn, 1) := by decide +kernel
theorem dX6_read_13 : decode cX6_read 13 = .ok (.aload_n 0, 1) := by decide +kernel
theorem dX6_read_14 : decode cX6_read 14 = .ok (.getfield 35, 3) := by decide +kernel
theorem dX6_read_17 : decode cX6_read 17 = .ok (.iload_n 1, 1) := by decide +kernel
theorem dX6_read_18 : decode cX6_read 18 = .ok (.aaload, 1) := by decide +kernel
theorem dX6_read_19 : decode cX6_read 19 = .ok (.invokevirtual 232, 3) := by decide +kernel
theorem dX6_read_22 : decode cX6_read 22 = .ok (.ifCond .eq 9, 3) := by decide +kernel
theorem dX6_read_25 : decode cX6_read 25 = .ok (.aload_n 0, 1) := by decide +kernel
theorem dX6_read_26 : decode cX6_read 26 = .ok (.iconst 5, 1) := by decide +kernel
theorem dX6_read_27 : decode cX6_read 27 = .ok (.invokevirtual 48, 3) := by decide +kernel
theorem dX6_read_30 : decode cX6_read 30 = .ok (.ireturn, 1) := by decide +kernel
theorem dX6_read_31 : decode cX6_read 31 = .ok (.aload_n 0, 1) := by decide +kernel
theorem dX6_read_32 : decode cX6_read 32 = .ok (.getfield 16, 3) := by decide +kernel
theorem dX6_read_35 : decode cX6_read 35 = .ok (.iload_n 2, 1) := by decide +kernel
theorem dX6_read_36 : decode cX6_read 36 = .ok (.invokevirtual 107, 3) := by decide +kernel
theorem dX6_read_39 : decode cX6_read 39 = .ok (.ifCond .ne 9, 3) := by decide +kernel
theorem dX6_read_42 : decode cX6_read 42 = .ok (.aload_n 0, 1) := by decide +kernel
theorem dX6_read_43 : decode cX6_read 43 = .ok (.iconst 0, 1) := by decide +kernel
theorem dX6_read_44 : decode cX6_read 44 = .ok (.invokevirtual 48, 3) := by decide +kernel
theorem dX6_read_47 : decode cX6_read 47 = .ok (.ireturn, 1) := by decide +kernel
theorem dX6_read_48 : decode cX6_read 48 = .ok (.aload_n 0, 1) := by decide +kernel
theorem dX6_read_49 : decode cX6_read 49 = .ok (.getfield 16, 3) := by decide +kernel
theorem dX6_read_52 : decode cX6_read 52 = .ok (.getfield 110, 3) := by decide +kernel
theorem dX6_read_55 : decode cX6_read 55 = .ok (.iload_n 2, 1) := by decide +kernel
theorem dX6_read_56 : decode cX6_read 56 = .ok (.aaload, 1) := by decide +kernel
theorem dX6_read_57 : decode cX6_read 57 = .ok (.aload_n 0, 1) := by decide +kernel
theorem dX6_read_58 : decode cX6_read 58 = .ok (.getfield 35, 3) := by decide +kernel
theorem dX6_read_61 : decode cX6_read 61 = .ok (.iload_n 1, 1) := by decide +kernel
theorem dX6_read_62 : decode cX6_read 62 = .ok (.aaload, 1) := by decide +kernel
theorem dX6_read_63 : decode cX6_read 63 = .ok (.invokevirtual 259, 3) := by decide +kernel
theorem dX6_read_66 : decode cX6_read 66 = .ok (.ireturn, 1) := by decide +kernel
theorem dX6_image_0 : decode cX6_image 0 = .ok (.aload_n 0, 1) := by decide +kernel
theorem dX6_image_1 : decode cX6_image 1 = .ok (.getfield 20, 3) := by decide +kernel
theorem dX6_image_4 : decode cX6_image 4 = .ok (.aload_n 0, 1) := by decide +kernel
theorem dX6_image_5 : decode cX6_image 5 = .ok (.getfield 16, 3) := by decide +kernel
theorem dX6_image_8 : decode cX6_image 8 = .ok (.invokevirtual 212, 3) := by decide +kernel
theorem dX6_image_11 : decode cX6_image 11 = .ok (.aload_n 0, 1) := by decide +kernel
theorem dX6_image_12 : decode cX6_image 12 = .ok (.iconst 1, 1) := by decide +kernel
theorem dX6_image_13 : decode cX6_image 13 = .ok (.putfield 262, 3) := by decide +kernel
theorem dX6_image_16 : decode cX6_image 16 = .ok (.iconst 1, 1) := by decide +kernel
theorem dX6_image_17 : decode cX6_image 17 = .ok (.ireturn, 1) := by decide +kernel
theorem dX6_undo_0 : decode cX6_undo 0 = .ok (.aload_n 0, 1) := by decide +kernel
theorem dX6_undo_1 : decode cX6_undo 1 = .ok (.getfield 262, 3) := by decide +kernel
theorem dX6_undo_4 : decode cX6_undo 4 = .ok (.ifCond .ne 9, 3) := by decide +kernel
theorem dX6_undo_7 : decode cX6_undo 7 = .ok (.aload_n 0, 1) := by decide +kernel
theorem dX6_undo_8 : decode cX6_undo 8 = .ok (.iconst 3, 1) := by decide +kernel
theorem dX6_undo_9 : decode cX6_undo 9 = .ok (.invokevirtual 48, 3) := by decide +kernel
theorem dX6_undo_12 : decode cX6_undo 12 = .ok (.ireturn, 1) := by decide +kernel
theorem dX6_undo_13 : decode cX6_undo 13 = .ok (.aload_n 0, 1) := by decide +kernel
theorem dX6_undo_14 : decode cX6_undo 14 = .ok (.getfield 16, 3) := by decide +kernel
theorem dX6_undo_17 : decode cX6_undo 17 = .ok (.aload_n 0, 1) := by decide +kernel
theorem dX6_undo_18 : decode cX6_undo 18 = .ok (.getfield 20, 3) := by decide +kernel
theorem dX6_undo_21 : decode cX6_undo 21 = .ok (.invokevirtual 212, 3) := by decide +kernel
theorem dX6_undo_24 : decode cX6_undo 24 = .ok (.aload_n 0, 1) := by decide +kernel
theorem dX6_undo_25 : decode cX6_undo 25 = .ok (.getfield 16, 3) := by decide +kernel
theorem dX6_undo_28 : decode cX6_undo 28 = .ok (.getfield 266, 3) := by decide +kernel
theorem dX6_undo_31 : decode cX6_undo 31 = .ok (.ireturn, 1) := by decide +kernel
theorem dX6_tear_0 : decode cX6_tear 0 = .ok (.aload_n 0, 1) := by decide +kernel
theorem dX6_tear_1 : decode cX6_tear 1 = .ok (.getfield 262, 3) := by decide +kernel
theorem dX6_tear_4 : decode cX6_tear 4 = .ok (.ifCond .eq 7, 3) := by decide +kernel
theorem dX6_tear_7 : decode cX6_tear 7 = .ok (.iconst 1, 1) := by decide +kernel
theorem dX6_tear_8 : decode cX6_tear 8 = .ok (.goto 4, 3) := by decide +kernel
theorem dX6_tear_11 : decode cX6_tear 11 = .ok (.iconst 0, 1) := by decide +kernel
theorem dX6_tear_12 : decode cX6_tear 12 = .ok (.istore_n 1, 1) := by decide +kernel
theorem dX6_tear_13 : decode cX6_tear 13 = .ok (.aload_n 0, 1) := by decide +kernel
theorem dX6_tear_14 : decode cX6_tear 14 = .ok (.iconst 0, 1) := by decide +kernel
theorem dX6_tear_15 : decode cX6_tear 15 = .ok (.putfield 262, 3) := by decide +kernel
theorem dX6_tear_18 : decode cX6_tear 18 = .ok (.iload_n 1, 1) := by decide +kernel
theorem dX6_tear_19 : decode cX6_tear 19 = .ok (.ireturn, 1) := by decide +kernel
theorem dX6_count_0 : decode cX6_count 0 = .ok (.iload_n 1, 1) := by decide +kernel
theorem dX6_count_1 : decode cX6_count 1 = .ok (.tableswitch 63 0 3 #[31, 39, 47, 55], 31) := by decide +kernel
theorem dX6_count_32 : decode cX6_count 32 = .ok (.aload_n 0, 1) := by decide +kernel
theorem dX6_count_33 : decode cX6_count 33 = .ok (.getfield 16, 3) := by decide +kernel
theorem dX6_count_36 : decode cX6_count 36 = .ok (.getfield 266, 3) := by decide +kernel
theorem dX6_count_39 : decode cX6_count 39 = .ok (.ireturn, 1) := by decide +kernel
theorem dX6_count_40 : decode cX6_count 40 = .ok (.aload_n 0, 1) := by decide +kernel
theorem dX6_count_41 : decode cX6_count 41 = .ok (.getfield 29, 3) := by decide +kernel
theorem dX6_count_44 : decode cX6_count 44 = .ok (.getfield 206, 3) := by decide +kernel
theorem dX6_count_47 : decode cX6_count 47 = .ok (.ireturn, 1) := by decide +kernel
theorem dX6_count_48 : decode cX6_count 48 = .ok (.aload_n 0, 1) := by decide +kernel
theorem dX6_count_49 : decode cX6_count 49 = .ok (.getfield 16, 3) := by decide +kernel
theorem dX6_count_52 : decode cX6_count 52 = .ok (.invokevirtual 269, 3) := by decide +kernel
theorem dX6_count_55 : decode cX6_count 55 = .ok (.ireturn, 1) := by decide +kernel
theorem dX6_count_56 : decode cX6_count 56 = .ok (.aload_n 0, 1) := by decide +kernel
theorem dX6_count_57 : decode cX6_count 57 = .ok (.getfield 16, 3) := by decide +kernel
theorem dX6_count_60 : decode cX6_count 60 = .ok (.invokevirtual 272, 3) := by decide +kernel
theorem dX6_count_63 : decode cX6_count 63 = .ok (.ireturn, 1) := by decide +kernel
theorem dX6_count_64 : decode cX6_count 64 = .ok (.aload_n 0, 1) := by decide +kernel
theorem dX6_count_65 : decode cX6_count 65 = .ok (.iconst 0, 1) := by decide +kernel
theorem dX6_count_66 : decode cX6_count 66 = .ok (.invokevirtual 48, 3) := by decide +kernel
theorem dX6_count_69 : decode cX6_count 69 = .ok (.ireturn, 1) := by decide +kernel
theorem dX6_status_0 : decode cX6_status 0 = .ok (.iload_n 1, 1) := by decide +kernel
theorem dX6_status_1 : decode cX6_status 1 = .ok (.iconst (-1), 1) := by decide +kernel
theorem dX6_status_2 : decode cX6_status 2 = .ok (.bipush 6, 2) := by decide +kernel
theorem dX6_status_4 : decode cX6_status 4 = .ok (.invokestatic 44, 3) := by decide +kernel
theorem dX6_status_7 : decode cX6_status 7 = .ok (.ifCond .ne 9, 3) := by decide +kernel
theorem dX6_status_10 : decode cX6_status 10 = .ok (.aload_n 0, 1) := by decide +kernel
theorem dX6_status_11 : decode cX6_status 11 = .ok (.iconst 0, 1) := by decide +kernel
theorem dX6_status_12 : decode cX6_status 12 = .ok (.invokevirtual 48, 3) := by decide +kernel
theorem dX6_status_15 : decode cX6_status 15 = .ok (.ireturn, 1) := by decide +kernel
theorem dX6_status_16 : decode cX6_status 16 = .ok (.iload_n 1, 1) := by decide +kernel
theorem dX6_status_17 : decode cX6_status 17 = .ok (.ifCond .lt 10, 3) := by decide +kernel
theorem dX6_status_20 : decode cX6_status 20 = .ok (.aload_n 0, 1) := by decide +kernel
theorem dX6_status_21 : decode cX6_status 21 = .ok (.getfield 9, 3) := by decide +kernel
theorem dX6_status_24 : decode cX6_status 24 = .ok (.iload_n 1, 1) := by decide +kernel
theorem dX6_status_25 : decode cX6_status 25 = .ok (.iaload, 1) := by decide +kernel
theorem dX6_status_26 : decode cX6_status 26 = .ok (.ireturn, 1) := by decide +kernel
theorem dX6_status_27 : decode cX6_status 27 = .ok (.iconst 0, 1) := by decide +kernel
theorem dX6_status_28 : decode cX6_status 28 = .ok (.istore_n 2, 1) := by decide +kernel
theorem dX6_status_29 : decode cX6_status 29 = .ok (.iconst 0, 1) := by decide +kernel
theorem dX6_status_30 : decode cX6_status 30 = .ok (.istore_n 3, 1) := by decide +kernel
theorem dX6_status_31 : decode cX6_status 31 = .ok (.iload_n 3, 1) := by decide +kernel
theorem dX6_status_32 : decode cX6_status 32 = .ok (.bipush 7, 2) := by decide +kernel
theorem dX6_status_34 : decode cX6_status 34 = .ok (.if_icmp .ge 18, 3) := by decide +kernel
theorem dX6_status_37 : decode cX6_status 37 = .ok (.iload_n 2, 1) := by decide +kernel
theorem dX6_status_38 : decode cX6_status 38 = .ok (.aload_n 0, 1) := by decide +kernel
theorem dX6_status_39 : decode cX6_status 39 = .ok (.getfield 9, 3) := by decide +kernel
theorem dX6_status_42 : decode cX6_status 42 = .ok (.iload_n 3, 1) := by decide +kernel
theorem dX6_status_43 : decode cX6_status 43 = .ok (.iaload, 1) := by decide +kernel
theorem dX6_status_44 : decode cX6_status 44 = .ok (.iadd, 1) := by decide +kernel
theorem dX6_status_45 : decode cX6_status 45 = .ok (.istore_n 2, 1) := by decide +kernel
theorem dX6_status_46 : decode cX6_status 46 = .ok (.iinc 3 1, 3) := by decide +kernel
theorem dX6_status_49 : decode cX6_status 49 = .ok (.goto (-18), 3) := by decide +kernel
theorem dX6_status_52 : decode cX6_status 52 = .ok (.iload_n 2, 1) := by decide +kernel
theorem dX6_status_53 : decode cX6_status 53 = .ok (.ireturn, 1) := by decide +kernel
theorem dX6_found_0 : decode cX6_found 0 = .ok (.iload_n 1, 1) := by decide +kernel
theorem dX6_found_1 : decode cX6_found 1 = .ok (.iconst 0, 1) := by decide +kernel
theorem dX6_found_2 : decode cX6_found 2 = .ok (.bipush 6, 2) := by decide +kernel
theorem dX6_found_4 : decode cX6_found 4 = .ok (.invokestatic 44, 3) := by decide +kernel
theorem dX6_found_7 : decode cX6_found 7 = .ok (.ifCond .eq 13, 3) := by decide +kernel
theorem dX6_found_10 : decode cX6_found 10 = .ok (.aload_n 0, 1) := by decide +kernel
theorem dX6_found_11 : decode cX6_found 11 = .ok (.getfield 9, 3) := by decide +kernel
theorem dX6_found_14 : decode cX6_found 14 = .ok (.iload_n 1, 1) := by decide +kernel
theorem dX6_found_15 : decode cX6_found 15 = .ok (.dup2, 1) := by decide +kernel
theorem dX6_found_16 : decode cX6_found 16 = .ok (.iaload, 1) := by decide +kernel
theorem dX6_found_17 : decode cX6_found 17 = .ok (.iconst 1, 1) := by decide +kernel
theorem dX6_found_18 : decode cX6_found 18 = .ok (.iadd, 1) := by decide +kernel
theorem dX6_found_19 : decode cX6_found 19 = .ok (.iastore, 1) := by decide +kernel
theorem dX6_found_20 : decode cX6_found 20 = .ok (.ldc_w 275, 3) := by decide +kernel
theorem dX6_found_23 : decode cX6_found 23 = .ok (.iload_n 1, 1) := by decide +kernel
theorem dX6_found_24 : decode cX6_found 24 = .ok (.isub, 1) := by decide +kernel
theorem dX6_found_25 : decode cX6_found 25 = .ok (.ireturn, 1) := by decide +kernel
theorem dX6_orNone_0 : decode cX6_orNone 0 = .ok (.iload_n 1, 1) := by decide +kernel
theorem dX6_orNone_1 : decode cX6_orNone 1 = .ok (.ifCond .ge 11, 3) := by decide +kernel
theorem dX6_orNone_4 : decode cX6_orNone 4 = .ok (.aload_n 0, 1) := by decide +kernel
theorem dX6_orNone_5 : decode cX6_orNone 5 = .ok (.iconst 3, 1) := by decide +kernel
theorem dX6_orNone_6 : decode cX6_orNone 6 = .ok (.invokevirtual 48, 3) := by decide +kernel
theorem dX6_orNone_9 : decode cX6_orNone 9 = .ok (.goto 4, 3) := by decide +kernel
theorem dX6_orNone_12 : decode cX6_orNone 12 = .ok (.iload_n 1, 1) := by decide +kernel
theorem dX6_orNone_13 : decode cX6_orNone 13 = .ok (.ireturn, 1) := by decide +kernel
theorem dX6_isSheet_0 : decode cX6_isSheet 0 = .ok (.iload_n 0, 1) := by decide +kernel
theorem dX6_isSheet_1 : decode cX6_isSheet 1 = .ok (.iconst 0, 1) := by decide +kernel
theorem dX6_isSheet_2 : decode cX6_isSheet 2 = .ok (.iconst 3, 1) := by decide +kernel
theorem dX6_isSheet_3 : decode cX6_isSheet 3 = .ok (.invokestatic 44, 3) := by decide +kernel
theorem dX6_isSheet_6 : decode cX6_isSheet 6 = .ok (.ireturn, 1) := by decide +kernel
theorem dX6_isWithin_0 : decode cX6_isWithin 0 = .ok (.iload_n 0, 1) := by decide +kernel
theorem dX6_isWithin_1 : decode cX6_isWithin 1 = .ok (.iload_n 1, 1) := by decide +kernel
theorem dX6_isWithin_2 : decode cX6_isWithin 2 = .ok (.if_icmp .lt 12, 3) := by decide +kernel
theorem dX6_isWithin_5 : decode cX6_isWithin 5 = .ok (.iload_n 0, 1) := by decide +kernel
theorem dX6_isWithin_6 : decode cX6_isWithin 6 = .ok (.iload_n 2, 1) := by decide +kernel
theorem dX6_isWithin_7 : decode cX6_isWithin 7 = .ok (.if_icmp .gt 7, 3) := by decide +kernel
theorem dX6_isWithin_10 : decode cX6_isWithin 10 = .ok (.iconst 1, 1) := by decide +kernel
theorem dX6_isWithin_11 : decode cX6_isWithin 11 = .ok (.goto 4, 3) := by decide +kernel
theorem dX6_isWithin_14 : decode cX6_isWithin 14 = .ok (.iconst 0, 1) := by decide +kernel
theorem dX6_isWithin_15 : decode cX6_isWithin 15 = .ok (.ireturn, 1) := by decide +kernel
theorem dX7_init_0 : decode cX7_init 0 = .ok (.aload_n 0, 1) := by decide +kernel
theorem dX7_init_1 : decode cX7_init 1 = .ok (.invokespecial 1, 3) := by decide +kernel
theorem dX7_init_4 : decode cX7_init 4 = .ok (.aload_n 0, 1) := by decide +kernel
theorem dX7_init_5 : decode cX7_init 5 = .ok (.bipush 58, 2) := by decide +kernel
theorem dX7_init_7 : decode cX7_init 7 = .ok (.newarray .int, 2) := by decide +kernel
theorem dX7_init_9 : decode cX7_init 9 = .ok (.putfield 7, 3) := by decide +kernel
theorem dX7_init_12 : decode cX7_init 12 = .ok (.aload_n 0, 1) := by decide +kernel
theorem dX7_init_13 : decode cX7_init 13 = .ok (.bipush 7, 2) := by decide +kernel
theorem dX7_init_15 : decode cX7_init 15 = .ok (.newarray .int, 2) := by decide +kernel
theorem dX7_init_17 : decode cX7_init 17 = .ok (.putfield 13, 3) := by decide +kernel
theorem dX7_init_20 : decode cX7_init 20 = .ok (.aload_n 0, 1) := by decide +kernel
theorem dX7_init_21 : decode cX7_init 21 = .ok (.bipush 58, 2) := by decide +kernel
theorem dX7_init_23 : decode cX7_init 23 = .ok (.newarray .int, 2) := by decide +kernel
theorem dX7_init_25 : decode cX7_init 25 = .ok (.putfield 16, 3) := by decide +kernel
theorem dX7_init_28 : decode cX7_init 28 = .ok (.aload_n 0, 1) := by decide +kernel
theorem dX7_init_29 : decode cX7_init 29 = .ok (.bipush 58, 2) := by decide +kernel
theorem dX7_init_31 : decode cX7_init 31 = .ok (.newarray .int, 2) := by decide +kernel
theorem dX7_init_33 : decode cX7_init 33 = .ok (.putfield 19, 3) := by decide +kernel
theorem dX7_init_36 : decode cX7_init 36 = .ok (.aload_n 0, 1) := by decide +kernel
theorem dX7_init_37 : decode cX7_init 37 = .ok (.bipush 120, 2) := by decide +kernel
theorem dX7_init_39 : decode cX7_init 39 = .ok (.newarray .int, 2) := by decide +kernel
theorem dX7_init_41 : decode cX7_init 41 = .ok (.putfield 22, 3) := by decide +kernel
theorem dX7_init_44 : decode cX7_init 44 = .ok (.aload_n 0, 1) := by decide +kernel
theorem dX7_init_45 : decode cX7_init 45 = .ok (.iconst 4, 1) := by decide +kernel
theorem dX7_init_46 : decode cX7_init 46 = .ok (.newarray .int, 2) := by decide +kernel
theorem dX7_init_48 : decode cX7_init 48 = .ok (.putfield 25, 3) := by decide +kernel
theorem dX7_init_51 : decode cX7_init 51 = .ok (.aload_n 0, 1) := by decide +kernel
theorem dX7_init_52 : decode cX7_init 52 = .ok (.iconst 4, 1) := by decide +kernel
theorem dX7_init_53 : decode cX7_init 53 = .ok (.newarray .int, 2) := by decide +kernel
theorem dX7_init_55 : decode cX7_init 55 = .ok (.putfield 28, 3) := by decide +kernel
theorem dX7_init_58 : decode cX7_init 58 = .ok (.aload_n 0, 1) := by decide +kernel
theorem dX7_init_59 : decode cX7_init 59 = .ok (.sipush 160, 3) := by decide +kernel
theorem dX7_init_62 : decode cX7_init 62 = .ok (.newarray .long, 2) := by decide +kernel
theorem dX7_init_64 : decode cX7_init 64 = .ok (.putfield 31, 3) := by decide +kernel
theorem dX7_init_67 : decode cX7_init 67 = .ok (.aload_n 0, 1) := by decide +kernel
theorem dX7_init_68 : decode cX7_init 68 = .ok (.bipush 40, 2) := by decide +kernel
theorem dX7_init_70 : decode cX7_init 70 = .ok (.newarray .long, 2) := by decide +kernel
theorem dX7_init_72 : decode cX7_init 72 = .ok (.putfield 35, 3) := by decide +kernel
theorem dX7_init_75 : decode cX7_init 75 = .ok (.aload_n 0, 1) := by decide +kernel
theorem dX7_init_76 : decode cX7_init 76 = .ok (.bipush 58, 2) := by decide +kernel
theorem dX7_init_78 : decode cX7_init 78 = .ok (.newarray .int, 2) := by decide +kernel
theorem dX7_init_80 : decode cX7_init 80 = .ok (.putfield 38, 3) := by decide +kernel
theorem dX7_init_83 : decode cX7_init 83 = .ok (.aload_n 0, 1) := by decide +kernel
theorem dX7_init_84 : decode cX7_init 84 = .ok (.bipush 58, 2) := by decide +kernel
theorem dX7_init_86 : decode cX7_init 86 = .ok (.newarray .int, 2) := by decide +kernel
theorem dX7_init_88 : decode cX7_init 88 = .ok (.putfield 41, 3) := by decide +kernel
theorem dX7_init_91 : decode cX7_init 91 = .ok (.aload_n 0, 1) := by decide +kernel
theorem dX7_init_92 : decode cX7_init 92 = .ok (.getfield 7, 3) := by decide +kernel
theorem dX7_init_95 : decode cX7_init 95 = .ok (.iconst 1, 1) := by decide +kernel
theorem dX7_init_96 : decode cX7_init 96 = .ok (.iconst 3, 1) := by decide +kernel
theorem dX7_init_97 : decode cX7_init 97 = .ok (.iastore, 1) := by decide +kernel
theorem dX7_init_98 : decode cX7_init 98 = .ok (.aload_n 0, 1) := by decide +kernel
theorem dX7_init_99 : decode cX7_init 99 = .ok (.getfield 7, 3) := by decide +kernel
theorem dX7_init_102 : decode cX7_init 102 = .ok (.iconst 3, 1) := by decide +kernel
theorem dX7_init_103 : decode cX7_init 103 = .ok (.iconst 5, 1) := by decide +kernel
theorem dX7_init_104 : decode cX7_init 104 = .ok (.iastore, 1) := by decide +kernel
theorem dX7_init_105 : decode cX7_init 105 = .ok (.aload_n 0, 1) := by decide +kernel
theorem dX7_init_106 : decode cX7_init 106 = .ok (.getfield 7, 3) := by decide +kernel
theorem dX7_init_109 : decode cX7_init 109 = .ok (.iconst 4, 1) := by decide +kernel
theorem dX7_init_110 : decode cX7_init 110 = .ok (.iconst 5, 1) := by decide +kernel
theorem dX7_init_111 : decode cX7_init 111 = .ok (.iastore, 1) := by decide +kernel
theorem dX7_init_112 : decode cX7_init 112 = .ok (.iconst 0, 1) := by decide +kernel
theorem dX7_init_113 : decode cX7_init 113 = .ok (.istore_n 1, 1) := by decide +kernel
theorem dX7_init_114 : decode cX7_init 114 = .ok (.iload_n 1, 1) := by decide +kernel
theorem dX7_init_115 : decode cX7_init 115 = .ok (.bipush 12, 2) := by decide +kernel
theorem dX7_init_117 : decode cX7_init 117 = .ok (.if_icmp .ge 26, 3) := by decide +kernel
theorem dX7_init_120 : decode cX7_init 120 = .ok (.aload_n 0, 1) := by decide +kernel
theorem dX7_init_121 : decode cX7_init 121 = .ok (.getfield 7, 3) := by decide +kernel
theorem dX7_init_124 : decode cX7_init 124 = .ok (.bipush 6, 2) := by decide +kernel
theorem dX7_init_126 : decode cX7_init 126 = .ok (.iload_n 1, 1) := by decide +kernel
theorem dX7_init_127 : decode cX7_init 127 = .ok (.iadd, 1) := by decide +kernel
theorem dX7_init_128 : decode cX7_init 128 = .ok (.iconst 4, 1) := by decide +kernel
theorem dX7_init_129 : decode cX7_init 129 = .ok (.iconst 5, 1) := by decide +kernel
theorem dX7_init_130 : decode cX7_init 130 = .ok (.iload_n 1, 1) := by decide +kernel
theorem dX7_init_131 : decode cX7_init 131 = .ok (.imul, 1) := by decide +kernel
theorem dX7_init_132 : decode cX7_init 132 = .ok (.bipush 13, 2) := by decide +kernel
theorem dX7_init_134 : decode cX7_init 134 = .ok (.irem, 1) := by decide +kernel
theorem dX7_init_135 : decode cX7_init 135 = .ok (.iadd, 1) := by decide +kernel
theorem dX7_init_136 : decode cX7_init 136 = .ok (.iastore, 1) := by decide +kernel
theorem dX7_init_137 : decode cX7_init 137 = .ok (.iinc 1 1, 3) := by decide +kernel
theorem dX7_init_140 : decode cX7_init 140 = .ok (.goto (-26), 3) := by decide +kernel
theorem dX7_init_143 : decode cX7_init 143 = .ok (.return_, 1) := by decide +kernel
theorem dX7_in_0 : decode cX7_in 0 = .ok (.iload_n 0, 1) := by decide +kernel
theorem dX7_in_1 : decode cX7_in 1 = .ok (.iload_n 1, 1) := by decide +kernel
theorem dX7_in_2 : decode cX7_in 2 = .ok (.if_icmp .lt 12, 3) := by decide +kernel
theorem dX7_in_5 : decode cX7_in 5 = .ok (.iload_n 0, 1) := by decide +kernel
theorem dX7_in_6 : decode cX7_in 6 = .ok (.iload_n 2, 1) := by decide +kernel
theorem dX7_in_7 : decode cX7_in 7 = .ok (.if_icmp .gt 7, 3) := by decide +kernel
theorem dX7_in_10 : decode cX7_in 10 = .ok (.iconst 1, 1) := by decide +kernel
theorem dX7_in_11 : decode cX7_in 11 = .ok (.goto 4, 3) := by decide +kernel
theorem dX7_in_14 : decode cX7_in 14 = .ok (.iconst 0, 1) := by decide +kernel
theorem dX7_in_15 : decode cX7_in 15 = .ok (.ireturn, 1) := by decide +kernel
theorem dX7_finds_0 : decode cX7_finds 0 = .ok (.aload_n 0, 1) := by decide +kernel
theorem dX7_finds_1 : decode cX7_finds 1 = .ok (.getfield 13, 3) := by decide +kernel
theorem dX7_finds_4 : decode cX7_finds 4 = .ok (.ldc 44, 2) := by decide +kernel
theorem dX7_finds_6 : decode cX7_finds 6 = .ok (.iload_n 1, 1) := by decide +kernel
theorem dX7_finds_7 : decode cX7_finds 7 = .ok (.isub, 1) := by decide +kernel
theorem dX7_finds_8 : decode cX7_finds 8 = .ok (.dup2, 1) := by decide +kernel
theorem dX7_finds_9 : decode cX7_finds 9 = .ok (.iaload, 1) := by decide +kernel
theorem dX7_finds_10 : decode cX7_finds 10 = .ok (.iconst 1, 1) := by decide +kernel
theorem dX7_finds_11 : decode cX7_finds 11 = .ok (.iadd, 1) := by decide +kernel
theorem dX7_finds_12 : decode cX7_finds 12 = .ok (.iastore, 1) := by decide +kernel
theorem dX7_finds_13 : decode cX7_finds 13 = .ok (.iload_n 1, 1) := by decide +kernel
theorem dX7_finds_14 : decode cX7_finds 14 = .ok (.ireturn, 1) := by decide +kernel
theorem dX7_held_0 : decode cX7_held 0 = .ok (.iload_n 0, 1) := by decide +kernel
theorem dX7_held_1 : decode cX7_held 1 = .ok (.iload_n 1, 1) := by decide +kernel
theorem dX7_held_2 : decode cX7_held 2 = .ok (.if_icmp .ge 7, 3) := by decide +kernel
theorem dX7_held_5 : decode cX7_held 5 = .ok (.iload_n 1, 1) := by decide +kernel
theorem dX7_held_6 : decode cX7_held 6 = .ok (.goto 13, 3) := by decide +kernel
theorem dX7_held_9 : decode cX7_held 9 = .ok (.iload_n 0, 1) := by decide +kernel
theorem dX7_held_10 : decode cX7_held 10 = .ok (.iload_n 2, 1) := by decide +kernel
theorem dX7_held_11 : decode cX7_held 11 = .ok (.if_icmp .le 7, 3) := by decide +kernel
theorem dX7_held_14 : decode cX7_held 14 = .ok (.iload_n 2, 1) := by decide +kernel
theorem dX7_held_15 : decode cX7_held 15 = .ok (.goto 4, 3) := by decide +kernel
theorem dX7_held_18 : decode cX7_held 18 = .ok (.iload_n 0, 1) := by decide +kernel
theorem dX7_held_19 : decode cX7_held 19 = .ok (.ireturn, 1) := by decide +kernel
theorem dX7_its_0 : decode cX7_its 0 = .ok (.aload_n 0, 1) := by decide +kernel
theorem dX7_its_1 : decode cX7_its 1 = .ok (.getfield 7, 3) := by decide +kernel
theorem dX7_its_4 : decode cX7_its 4 = .ok (.bipush 18, 2) := by decide +kernel
theorem dX7_its_6 : decode cX7_its 6 = .ok (.iconst 5, 1) := by decide +kernel
theorem dX7_its_7 : decode cX7_its 7 = .ok (.iload_n 1, 1) := by decide +kernel
theorem dX7_its_8 : decode cX7_its 8 = .ok (.imul, 1) := by decide +kernel
theorem dX7_its_9 : decode cX7_its 9 = .ok (.iadd, 1) := by decide +kernel
theorem dX7_its_10 : decode cX7_its 10 = .ok (.iload_n 2, 1) := by decide +kernel
theorem dX7_its_11 : decode cX7_its 11 = .ok (.iadd, 1) := by decide +kernel
theorem dX7_its_12 : decode cX7_its 12 = .ok (.iaload, 1) := by decide +kernel
theorem dX7_its_13 : decode cX7_its 13 = .ok (.ireturn, 1) := by decide +kernel
theorem dX7_puts_0 : decode cX7_puts 0 = .ok (.aload_n 0, 1) := by decide +kernel
theorem dX7_puts_1 : decode cX7_puts 1 = .ok (.getfield 7, 3) := by decide +kernel
theorem dX7_puts_4 : decode cX7_puts 4 = .ok (.bipush 18, 2) := by decide +kernel
theorem dX7_puts_6 : decode cX7_puts 6 = .ok (.iconst 5, 1) := by decide +kernel
theorem dX7_puts_7 : decode cX7_puts 7 = .ok (.iload_n 1, 1) := by decide +kernel
theorem dX7_puts_8 : decode cX7_puts 8 = .ok (.imul, 1) := by decide +kernel
theorem dX7_puts_9 : decode cX7_puts 9 = .ok (.iadd, 1) := by decide +kernel
theorem dX7_puts_10 : decode cX7_puts 10 = .ok (.iload_n 2, 1) := by decide +kernel
theorem dX7_puts_11 : decode cX7_puts 11 = .ok (.iadd, 1) := by decide +kernel
theorem dX7_puts_12 : decode cX7_puts 12 = .ok (.iload_n 3, 1) := by decide +kernel
theorem dX7_puts_13 : decode cX7_puts 13 = .ok (.iastore, 1) := by decide +kernel
theorem dX7_puts_14 : decode cX7_puts 14 = .ok (.return_, 1) := by decide +kernel
theorem dX7_becomes_0 : decode cX7_becomes 0 = .ok (.aload_n 0, 1) := by decide +kernel
theorem dX7_becomes_1 : decode cX7_becomes 1 = .ok (.getfield 7, 3) := by decide +kernel
theorem dX7_becomes_4 : decode cX7_becomes 4 = .ok (.iload_n 1, 1) := by decide +kernel
theorem dX7_becomes_5 : decode cX7_becomes 5 = .ok (.iaload, 1) := by decide +kernel
theorem dX7_becomes_6 : decode cX7_becomes 6 = .ok (.istore_n 3, 1) := by decide +kernel
theorem dX7_becomes_7 : decode cX7_becomes 7 = .ok (.aload_n 0, 1) := by decide +kernel
theorem dX7_becomes_8 : decode cX7_becomes 8 = .ok (.getfield 7, 3) := by decide +kernel
theorem dX7_becomes_11 : decode cX7_becomes 11 = .ok (.iload_n 1, 1) := by decide +kernel
theorem dX7_becomes_12 : decode cX7_becomes 12 = .ok (.iload_n 2, 1) := by decide +kernel
theorem dX7_becomes_13 : decode cX7_becomes 13 = .ok (.iastore, 1) := by decide +kernel
theorem dX7_becomes_14 : decode cX7_becomes 14 = .ok (.iload_n 3, 1) := by decide +kernel
theorem dX7_becomes_15 : decode cX7_becomes 15 = .ok (.ireturn, 1) := by decide +kernel
theorem dX7_isOne_0 : decode cX7_isOne 0 = .ok (.iload_n 1, 1) := by decide +kernel
theorem dX7_isOne_1 : decode cX7_isOne 1 = .ok (.iconst 0, 1) := by decide +kernel
theorem dX7_isOne_2 : decode cX7_isOne 2 = .ok (.aload_n 0, 1) := by decide +kernel
theorem dX7_isOne_3 : decode cX7_isOne 3 = .ok (.getfield 7, 3) := by decide +kernel
theorem dX7_isOne_6 : decode cX7_isOne 6 = .ok (.iconst 5, 1) := by decide +kernel
theorem dX7_isOne_7 : decode cX7_isOne 7 = .ok (.iaload, 1) := by decide +kernel
theorem dX7_isOne_8 : decode cX7_isOne 8 = .ok (.iconst 1, 1) := by decide +kernel
theorem dX7_isOne_9 : decode cX7_isOne 9 = .ok (.isub, 1) := by decide +kernel
theorem dX7_isOne_10 : decode cX7_isOne 10 = .ok (.invokestatic 45, 3) := by decide +kernel
theorem dX7_isOne_13 : decode cX7_isOne 13 = .ok (.ireturn, 1) := by decide +kernel
theorem dX7_isKind_0 : decode cX7_isKind 0 = .ok (.iload_n 0, 1) := by decide +kernel
theorem dX7_isKind_1 : decode cX7_isKind 1 = .ok (.iconst 0, 1) := by decide +kernel
theorem dX7_isKind_2 : decode cX7_isKind 2 = .ok (.iconst 5, 1) := by decide +kernel
theorem dX7_isKind_3 : decode cX7_isKind 3 = .ok (.invokestatic 45, 3) := by decide +kernel
theorem dX7_isKind_6 : decode cX7_isKind 6 = .ok (.ireturn, 1) := by decide +kernel
theorem dX7_bits_0 : decode cX7_bits 0 = .ok (.iconst 0, 1) := by decide +kernel
theorem dX7_bits_1 : decode cX7_bits 1 = .ok (.istore_n 1, 1) := by decide +kernel
theorem dX7_bits_2 : decode cX7_bits 2 = .ok (.iload_n 0, 1) := by decide +kernel
theorem dX7_bits_3 : decode cX7_bits 3 = .ok (.istore_n 2, 1) := by decide +kernel
theorem dX7_bits_4 : decode cX7_bits 4 = .ok (.iload_n 2, 1) := by decide +kernel
theorem dX7_bits_5 : decode cX7_bits 5 = .ok (.ifCond .eq 15, 3) := by decide +kernel
theorem dX7_bits_8 : decode cX7_bits 8 = .ok (.iinc 1 1, 3) := by decide +kernel
theorem dX7_bits_11 : decode cX7_bits 11 = .ok (.iload_n 2, 1) := by decide +kernel
theorem dX7_bits_12 : decode cX7_bits 12 = .ok (.iload_n 2, 1) := by decide +kernel
theorem dX7_bits_13 : decode cX7_bits 13 = .ok (.iconst 1, 1) := by decide +kernel
theorem dX7_bits_14 : decode cX7_bits 14 = .ok (.isub, 1) := by decide +kernel
theorem dX7_bits_15 : decode cX7_bits 15 = .ok (.iand, 1) := by decide +kernel
theorem dX7_bits_16 : decode cX7_bits 16 = .ok (.istore_n 2, 1) := by decide +kernel
theorem dX7_bits_17 : decode cX7_bits 17 = .ok (.goto (-13), 3) := by decide +kernel
theorem dX7_bits_20 : decode cX7_bits 20 = .ok (.iload_n 1, 1) := by decide +kernel
theorem dX7_bits_21 : decode cX7_bits 21 = .ok (.ireturn, 1) := by decide +kernel
theorem dX7_mostOf_0 : decode cX7_mostOf 0 = .ok (.iload_n 0, 1) := by decide +kernel
theorem dX7_mostOf_1 : decode cX7_mostOf 1 = .ok (.iconst 1, 1) := by decide +kernel
theorem dX7_mostOf_2 : decode cX7_mostOf 2 = .ok (.if_icmp .ne 8, 3) := by decide +kernel
theorem dX7_mostOf_5 : decode cX7_mostOf 5 = .ok (.bipush 8, 2) := by decide +kernel
theorem dX7_mostOf_7 : decode cX7_mostOf 7 = .ok (.goto 16, 3) := by decide +kernel
theorem dX7_mostOf_10 : decode cX7_mostOf 10 = .ok (.iload_n 0, 1) := by decide +kernel
theorem dX7_mostOf_11 : decode cX7_mostOf 11 = .ok (.iconst 2, 1) := by decide +kernel
theorem dX7_mostOf_12 : decode cX7_mostOf 12 = .ok (.if_icmp .ne 9, 3) := by decide +kernel
theorem dX7_mostOf_15 : decode cX7_mostOf 15 = .ok (.sipush 999, 3) := by decide +kernel
theorem dX7_mostOf_18 : decode cX7_mostOf 18 = .ok (.goto 5, 3) := by decide +kernel
theorem dX7_mostOf_21 : decode cX7_mostOf 21 = .ok (.bipush 9, 2) := by decide +kernel
theorem dX7_mostOf_23 : decode cX7_mostOf 23 = .ok (.ireturn, 1) := by decide +kernel
theorem dX7_jar_0 : decode cX7_jar 0 = .ok (.iload_n 1, 1) := by decide +kernel
theorem dX7_jar_1 : decode cX7_jar 1 = .ok (.iconst 0, 1) := by decide +kernel
theorem dX7_jar_2 : decode cX7_jar 2 = .ok (.iconst 3, 1) := by decide +kernel
theorem dX7_jar_3 : decode cX7_jar 3 = .ok (.invokestatic 45, 3) := by decide +kernel
theorem dX7_jar_6 : decode cX7_jar 6 = .ok (.ifCond .eq 26, 3) := by decide +kernel
theorem dX7_jar_9 : decode cX7_jar 9 = .ok (.iload_n 2, 1) := by decide +kernel
theorem dX7_jar_10 : decode cX7_jar 10 = .ok (.iconst 0, 1) := by decide +kernel
theorem dX7_jar_11 : decode cX7_jar 11 = .ok (.iload_n 1, 1) := by decide +kernel
theorem dX7_jar_12 : decode cX7_jar 12 = .ok (.invokestatic 49, 3) := by decide +kernel
theorem dX7_jar_15 : decode cX7_jar 15 = .ok (.invokestatic 45, 3) := by decide +kernel
theorem dX7_jar_18 : decode cX7_jar 18 = .ok (.ifCond .eq 14, 3) := by decide +kernel
theorem dX7_jar_21 : decode cX7_jar 21 = .ok (.aload_n 0, 1) := by decide +kernel
theorem dX7_jar_22 : decode cX7_jar 22 = .ok (.iconst 1, 1) := by decide +kernel
theorem dX7_jar_23 : decode cX7_jar 23 = .ok (.iload_n 1, 1) := by decide +kernel
theorem dX7_jar_24 : decode cX7_jar 24 = .ok (.iadd, 1) := by decide +kernel
theorem dX7_jar_25 : decode cX7_jar 25 = .ok (.iload_n 2, 1) := by decide +kernel
theorem dX7_jar_26 : decode cX7_jar 26 = .ok (.invokevirtual 53, 3) := by decide +kernel
theorem dX7_jar_29 : decode cX7_jar 29 = .ok (.goto 9, 3) := by decide +kernel
theorem dX7_jar_32 : decode cX7_jar 32 = .ok (.aload_n 0, 1) := by decide +kernel
theorem dX7_jar_33 : decode cX7_jar 33 = .ok (.ldc 44, 2) := by decide +kernel
theorem dX7_jar_35 : decode cX7_jar 35 = .ok (.invokevirtual 57, 3) := by decide +kernel
theorem dX7_jar_38 : decode cX7_jar 38 = .ok (.ireturn, 1) := by decide +kernel
theorem dX7_dark_0 : decode cX7_dark 0 = .ok (.iload_n 1, 1) := by decide +kernel
theorem dX7_dark_1 : decode cX7_dark 1 = .ok (.iconst 0, 1) := by decide +kernel
theorem dX7_dark_2 : decode cX7_dark 2 = .ok (.bipush 11, 2) := by decide +kernel
theorem dX7_dark_4 : decode cX7_dark 4 = .ok (.invokestatic 45, 3) := by decide +kernel
theorem dX7_dark_7 : decode cX7_dark 7 = .ok (.ifCond .eq 25, 3) := by decide +kernel
theorem dX7_dark_10 : decode cX7_dark 10 = .ok (.iload_n 2, 1) := by decide +kernel
theorem dX7_dark_11 : decode cX7_dark 11 = .ok (.iconst 0, 1) := by decide +kernel
theorem dX7_dark_12 : decode cX7_dark 12 = .ok (.bipush 20, 2) := by decide +kernel
theorem dX7_dark_14 : decode cX7_dark 14 = .ok (.invokestatic 45, 3) := by decide +kernel
theorem dX7_dark_17 : decode cX7_dark 17 = .ok (.ifCond .eq 15, 3) := by decide +kernel
theorem dX7_dark_20 : decode cX7_dark 20 = .ok (.aload_n 0, 1) := by decide +kernel
theorem dX7_dark_21 : decode cX7_dark 21 = .ok (.bipush 6, 2) := by decide +kernel
theorem dX7_dark_23 : decode cX7_dark 23 = .ok (.iload_n 1, 1) := by decide +kernel
theorem dX7_dark_24 : decode cX7_dark 24 = .ok (.iadd, 1) := by decide +kernel
theorem dX7_dark_25 : decode cX7_dark 25 = .ok (.iload_n 2, 1) := by decide +kernel
theorem dX7_dark_26 : decode cX7_dark 26 = .ok (.invokevirtual 53, 3) := by decide +kernel
theorem dX7_dark_29 : decode cX7_dark 29 = .ok (.goto 9, 3) := by decide +kernel
theorem dX7_dark_32 : decode cX7_dark 32 = .ok (.aload_n 0, 1) := by decide +kernel
theorem dX7_dark_33 : decode cX7_dark 33 = .ok (.ldc 44, 2) := by decide +kernel
theorem dX7_dark_35 : decode cX7_dark 35 = .ok (.invokevirtual 57, 3) := by decide +kernel
theorem dX7_dark_38 : decode cX7_dark 38 = .ok (.ireturn, 1) := by decide +kernel
theorem dX7_darkNow_0 : decode cX7_darkNow 0 = .ok (.aload_n 0, 1) := by decide +kernel
theorem dX7_darkNow_1 : decode cX7_darkNow 1 = .ok (.getfield 7, 3) := by decide +kernel
theorem dX7_darkNow_4 : decode cX7_darkNow 4 = .ok (.bipush 6, 2) := by decide +kernel
theorem dX7_darkNow_6 : decode cX7_darkNow 6 = .ok (.aload_n 0, 1) := by decide +kernel
theorem dX7_darkNow_7 : decode cX7_darkNow 7 = .ok (.getfield 7, 3) := by decide +kernel
theorem dX7_darkNow_10 : decode cX7_darkNow 10 = .ok (.iconst 0, 1) := by decide +kernel
theorem dX7_darkNow_11 : decode cX7_darkNow 11 = .ok (.iaload, 1) := by decide +kernel
theorem dX7_darkNow_12 : decode cX7_darkNow 12 = .ok (.bipush 12, 2) := by decide +kernel
theorem dX7_darkNow_14 : decode cX7_darkNow 14 = .ok (.irem, 1) := by decide +kernel
theorem dX7_darkNow_15 : decode cX7_darkNow 15 = .ok (.iadd, 1) := by decide +kernel
theorem dX7_darkNow_16 : decode cX7_darkNow 16 = .ok (.iaload, 1) := by decide +kernel
theorem dX7_darkNow_17 : decode cX7_darkNow 17 = .ok (.ireturn, 1) := by decide +kernel
theorem dX7_costs_0 : decode cX7_costs 0 = .ok (.iconst 1, 1) := by decide +kernel
theorem dX7_costs_1 : decode cX7_costs 1 = .ok (.iload_n 1, 1) := by decide +kernel
theorem dX7_costs_2 : decode cX7_costs 2 = .ok (.bipush 20, 2) := by decide +kernel
theorem dX7_costs_4 : decode cX7_costs 4 = .ok (.idiv, 1) := by decide +kernel
theorem dX7_costs_5 : decode cX7_costs 5 = .ok (.iadd, 1) := by decide +kernel
theorem dX7_costs_6 : decode cX7_costs 6 = .ok (.istore_n 2, 1) := by decide +kernel
theorem dX7_costs_7 : decode cX7_costs 7 = .ok (.iload_n 2, 1) := by decide +kernel
theorem dX7_costs_8 : decode cX7_costs 8 = .ok (.iconst 2, 1) := by decide +kernel
theorem dX7_costs_9 : decode cX7_costs 9 = .ok (.idiv, 1) := by decide +kernel
theorem dX7_costs_10 : decode cX7_costs 10 = .ok (.iconst 1, 1) := by decide +kernel
theorem dX7_costs_11 : decode cX7_costs 11 = .ok (.if_icmp .le 9, 3) := by decide +kernel
theorem dX7_costs_14 : decode cX7_costs 14 = .ok (.iload_n 2, 1) := by decide +kernel
theorem dX7_costs_15 : decode cX7_costs 15 = .ok (.iconst 2, 1) := by decide +kernel
theorem dX7_costs_16 : decode cX7_costs 16 = .ok (.idiv, 1) := by decide +kernel
theorem dX7_costs_17 : decode cX7_costs 17 = .ok (.goto 4, 3) := by decide +kernel
theorem dX7_costs_20 : decode cX7_costs 20 = .ok (.iconst 1, 1) := by decide +kernel
theorem dX7_costs_21 : decode cX7_costs 21 = .ok (.istore_n 3, 1) := by decide +kernel
theorem dX7_costs_22 : decode cX7_costs 22 = .ok (.iload_n 0, 1) := by decide +kernel
theorem dX7_costs_23 : decode cX7_costs 23 = .ok (.tableswitch 51 1 5 #[33, 41, 47, 37, 43], 33) := by decide +kernel
theorem dX7_costs_56 : decode cX7_costs 56 = .ok (.iload_n 2, 1) := by decide +kernel
theorem dX7_costs_57 : decode cX7_costs 57 = .ok (.iconst 2, 1) := by decide +kernel
theorem dX7_costs_58 : decode cX7_costs 58 = .ok (.iadd, 1) := by decide +kernel
theorem dX7_costs_59 : decode cX7_costs 59 = .ok (.ireturn, 1) := by decide +kernel
theorem dX7_costs_60 : decode cX7_costs 60 = .ok (.iload_n 2, 1) := by decide +kernel
theorem dX7_costs_61 : decode cX7_costs 61 = .ok (.iconst 1, 1) := by decide +kernel
theorem dX7_costs_62 : decode cX7_costs 62 = .ok (.iadd, 1) := by decide +kernel
theorem dX7_costs_63 : decode cX7_costs 63 = .ok (.ireturn, 1) := by decide +kernel
theorem dX7_costs_64 : decode cX7_costs 64 = .ok (.iload_n 3, 1) := by decide +kernel
theorem dX7_costs_65 : decode cX7_costs 65 = .ok (.ireturn, 1) := by decide +kernel
theorem dX7_costs_66 : decode cX7_costs 66 = .ok (.iload_n 3, 1) := by decide +kernel
theorem dX7_costs_67 : decode cX7_costs 67 = .ok (.iconst 1, 1) := by decide +kernel
theorem dX7_costs_68 : decode cX7_costs 68 = .ok (.iadd, 1) := by decide +kernel
theorem dX7_costs_69 : decode cX7_costs 69 = .ok (.ireturn, 1) := by decide +kernel
theorem dX7_costs_70 : decode cX7_costs 70 = .ok (.iconst 2, 1) := by decide +kernel
theorem dX7_costs_71 : decode cX7_costs 71 = .ok (.iload_n 2, 1) := by decide +kernel
theorem dX7_costs_72 : decode cX7_costs 72 = .ok (.imul, 1) := by decide +kernel
theorem dX7_costs_73 : decode cX7_costs 73 = .ok (.ireturn, 1) := by decide +kernel
theorem dX7_costs_74 : decode cX7_costs 74 = .ok (.iload_n 2, 1) := by decide +kernel
theorem dX7_costs_75 : decode cX7_costs 75 = .ok (.ireturn, 1) := by decide +kernel
theorem dX7_takes_0 : decode cX7_takes 0 = .ok (.iload_n 0, 1) := by decide +kernel
theorem dX7_takes_1 : decode cX7_takes 1 = .ok (.tableswitch 82 1 5 #[35, 82, 48, 35, 70], 35) := by decide +kernel
theorem dX7_takes_36 : decode cX7_takes 36 = .ok (.iconst 4, 1) := by decide +kernel
theorem dX7_takes_37 : decode cX7_takes 37 = .ok (.iload_n 1, 1) := by decide +kernel
theorem dX7_takes_38 : decode cX7_takes 38 = .ok (.imul, 1) := by decide +kernel
theorem dX7_takes_39 : decode cX7_takes 39 = .ok (.bipush 10, 2) := by decide +kernel
theorem dX7_takes_41 : decode cX7_takes 41 = .ok (.iadd, 1) := by decide +kernel
theorem dX7_takes_42 : decode cX7_takes 42 = .ok (.iconst 0, 1) := by decide +kernel
theorem dX7_takes_43 : decode cX7_takes 43 = .ok (.bipush 99, 2) := by decide +kernel
theorem dX7_takes_45 : decode cX7_takes 45 = .ok (.invokestatic 60, 3) := by decide +kernel
theorem dX7_takes_48 : decode cX7_takes 48 = .ok (.ireturn, 1) := by decide +kernel
theorem dX7_takes_49 : decode cX7_takes 49 = .ok (.iload_n 1, 1) := by decide +kernel
theorem dX7_takes_50 : decode cX7_takes 50 = .ok (.bipush 15, 2) := by decide +kernel
theorem dX7_takes_52 : decode cX7_takes 52 = .ok (.if_icmp .lt 9, 3) := by decide +kernel
theorem dX7_takes_55 : decode cX7_takes 55 = .ok (.iconst 5, 1) := by decide +kernel
theorem dX7_takes_56 : decode cX7_takes 56 = .ok (.iload_n 1, 1) := by decide +kernel
theorem dX7_takes_57 : decode cX7_takes 57 = .ok (.imul, 1) := by decide +kernel
theorem dX7_takes_58 : decode cX7_takes 58 = .ok (.goto 6, 3) := by decide +kernel
theorem dX7_takes_61 : decode cX7_takes 61 = .ok (.iconst 4, 1) := by decide +kernel
theorem dX7_takes_62 : decode cX7_takes 62 = .ok (.iload_n 1, 1) := by decide +kernel
theorem dX7_takes_63 : decode cX7_takes 63 = .ok (.imul, 1) := by decide +kernel
theorem dX7_takes_64 : decode cX7_takes 64 = .ok (.iconst 0, 1) := by decide +kernel
theorem dX7_takes_65 : decode cX7_takes 65 = .ok (.bipush 99, 2) := by decide +kernel
theorem dX7_takes_67 : decode cX7_takes 67 = .ok (.invokestatic 60, 3) := by decide +kernel
theorem dX7_takes_70 : decode cX7_takes 70 = .ok (.ireturn, 1) := by decide +kernel
theorem dX7_takes_71 : decode cX7_takes 71 = .ok (.iconst 4, 1) := by decide +kernel
theorem dX7_takes_72 : decode cX7_takes 72 = .ok (.iload_n 1, 1) := by decide +kernel
theorem dX7_takes_73 : decode cX7_takes 73 = .ok (.imul, 1) := by decide +kernel
theorem dX7_takes_74 : decode cX7_takes 74 = .ok (.iconst 5, 1) := by decide +kernel
theorem dX7_takes_75 : decode cX7_takes 75 = .ok (.isub, 1) := by decide +kernel
theorem dX7_takes_76 : decode cX7_takes 76 = .ok (.iconst 0, 1) := by decide +kernel
theorem dX7_takes_77 : decode cX7_takes 77 = .ok (.bipush 99, 2) := by decide +kernel
theorem dX7_takes_79 : decode cX7_takes 79 = .ok (.invokestatic 60, 3) := by decide +kernel
theorem dX7_takes_82 : decode cX7_takes 82 = .ok (.ireturn, 1) := by decide +kernel
theorem dX7_takes_83 : decode cX7_takes 83 = .ok (.iconst 4, 1) := by decide +kernel
theorem dX7_takes_84 : decode cX7_takes 84 = .ok (.iload_n 1, 1) := by decide +kernel
theorem dX7_takes_85 : decode cX7_takes 85 = .ok (.imul, 1) := by decide +kernel
theorem dX7_takes_86 : decode cX7_takes 86 = .ok (.iconst 0, 1) := by decide +kernel
theorem dX7_takes_87 : decode cX7_takes 87 = .ok (.bipush 99, 2) := by decide +kernel
theorem dX7_takes_89 : decode cX7_takes 89 = .ok (.invokestatic 60, 3) := by decide +kernel
theorem dX7_takes_92 : decode cX7_takes 92 = .ok (.ireturn, 1) := by decide +kernel
theorem dX7_fades_0 : decode cX7_fades 0 = .ok (.aload_n 0, 1) := by decide +kernel
theorem dX7_fades_1 : decode cX7_fades 1 = .ok (.iload_n 1, 1) := by decide +kernel
theorem dX7_fades_2 : decode cX7_fades 2 = .ok (.iconst 3, 1) := by decide +kernel
theorem dX7_fades_3 : decode cX7_fades 3 = .ok (.invokevirtual 64, 3) := by decide +kernel
theorem dX7_fades_6 : decode cX7_fades 6 = .ok (.iconst 1, 1) := by decide +kernel
theorem dX7_fades_7 : decode cX7_fades 7 = .ok (.if_icmp .ne 8, 3) := by decide +kernel
theorem dX7_fades_10 : decode cX7_fades 10 = .ok (.bipush 9, 2) := by decide +kernel
theorem dX7_fades_12 : decode cX7_fades 12 = .ok (.goto 4, 3) := by decide +kernel
theorem dX7_fades_15 : decode cX7_fades 15 = .ok (.iconst 0, 1) := by decide +kernel
theorem dX7_fades_16 : decode cX7_fades 16 = .ok (.istore_n 2, 1) := by decide +kernel
theorem dX7_fades_17 : decode cX7_fades 17 = .ok (.aload_n 0, 1) := by decide +kernel
theorem dX7_fades_18 : decode cX7_fades 18 = .ok (.iload_n 1, 1) := by decide +kernel
theorem dX7_fades_19 : decode cX7_fades 19 = .ok (.iconst 0, 1) := by decide +kernel
theorem dX7_fades_20 : decode cX7_fades 20 = .ok (.invokevirtual 64, 3) := by decide +kernel
theorem dX7_fades_23 : decode cX7_fades 23 = .ok (.tableswitch 71 1 5 #[33, 54, 71, 37, 58], 33) := by decide +kernel
theorem dX7_fades_56 : decode cX7_fades 56 = .ok (.iload_n 2, 1) := by decide +kernel
theorem dX7_fades_57 : decode cX7_fades 57 = .ok (.iconst 2, 1) := by decide +kernel
theorem dX7_fades_58 : decode cX7_fades 58 = .ok (.idiv, 1) := by decide +kernel
theorem dX7_fades_59 : decode cX7_fades 59 = .ok (.ireturn, 1) := by decide +kernel
theorem dX7_fades_60 : decode cX7_fades 60 = .ok (.aload_n 0, 1) := by decide +kernel
theorem dX7_fades_61 : decode cX7_fades 61 = .ok (.iload_n 1, 1) := by decide +kernel
theorem dX7_fades_62 : decode cX7_fades 62 = .ok (.iconst 4, 1) := by decide +kernel
theorem dX7_fades_63 : decode cX7_fades 63 = .ok (.invokevirtual 64, 3) := by decide +kernel
theorem dX7_fades_66 : decode cX7_fades 66 = .ok (.ifCond .ne 7, 3) := by decide +kernel
theorem dX7_fades_69 : decode cX7_fades 69 = .ok (.iconst 0, 1) := by decide +kernel
theorem dX7_fades_70 : decode cX7_fades 70 = .ok (.goto 6, 3) := by decide +kernel
theorem dX7_fades_73 : decode cX7_fades 73 = .ok (.iload_n 2, 1) := by decide +kernel
theorem dX7_fades_74 : decode cX7_fades 74 = .ok (.iconst 2, 1) := by decide +kernel
theorem dX7_fades_75 : decode cX7_fades 75 = .ok (.idiv, 1) := by decide +kernel
theorem dX7_fades_76 : decode cX7_fades 76 = .ok (.ireturn, 1) := by decide +kernel
theorem dX7_fades_77 : decode cX7_fades 77 = .ok (.iload_n 2, 1) := by decide +kernel
theorem dX7_fades_78 : decode cX7_fades 78 = .ok (.iconst 1, 1) := by decide +kernel
theorem dX7_fades_79 : decode cX7_fades 79 = .ok (.iadd, 1) := by decide +kernel
theorem dX7_fades_80 : decode cX7_fades 80 = .ok (.ireturn, 1) := by decide +kernel
theorem dX7_fades_81 : decode cX7_fades 81 = .ok (.iload_n 2, 1) := by decide +kernel
theorem dX7_fades_82 : decode cX7_fades 82 = .ok (.iconst 1, 1) := by decide +kernel
theorem dX7_fades_83 : decode cX7_fades 83 = .ok (.iadd, 1) := by decide +kernel
theorem dX7_fades_84 : decode cX7_fades 84 = .ok (.aload_n 0, 1) := by decide +kernel
theorem dX7_fades_85 : decode cX7_fades 85 = .ok (.iload_n 1, 1) := by decide +kernel
theorem dX7_fades_86 : decode cX7_fades 86 = .ok (.iconst 4, 1) := by decide +kernel
theorem dX7_fades_87 : decode cX7_fades 87 = .ok (.invokevirtual 64, 3) := by decide +kernel
theorem dX7_fades_90 : decode cX7_fades 90 = .ok (.iconst 4, 1) := by decide +kernel
theorem dX7_fades_91 : decode cX7_fades 91 = .ok (.idiv, 1) := by decide +kernel
theorem dX7_fades_92 : decode cX7_fades 92 = .ok (.iadd, 1) := by decide +kernel
theorem dX7_fades_93 : decode cX7_fades 93 = .ok (.ireturn, 1) := by decide +kernel
theorem dX7_fades_94 : decode cX7_fades 94 = .ok (.iload_n 2, 1) := by decide +kernel
theorem dX7_fades_95 : decode cX7_fades 95 = .ok (.ireturn, 1) := by decide +kernel
theorem dX7_believed_0 : decode cX7_believed 0 = .ok (.aload_n 0, 1) := by decide +kernel
theorem dX7_believed_1 : decode cX7_believed 1 = .ok (.iload_n 1, 1) := by decide +kernel
theorem dX7_believed_2 : decode cX7_believed 2 = .ok (.iconst 2, 1) := by decide +kernel
theorem dX7_believed_3 : decode cX7_believed 3 = .ok (.invokevirtual 64, 3) := by decide +kernel
theorem dX7_believed_6 : decode cX7_believed 6 = .ok (.istore_n 2, 1) := by decide +kernel
theorem dX7_believed_7 : decode cX7_believed 7 = .ok (.aload_n 0, 1) := by decide +kernel
theorem dX7_believed_8 : decode cX7_believed 8 = .ok (.getfield 7, 3) := by decide +kernel
theorem dX7_believed_11 : decode cX7_believed 11 = .ok (.iconst 4, 1) := by decide +kernel
theorem dX7_believed_12 : decode cX7_believed 12 = .ok (.iaload, 1) := by decide +kernel
theorem dX7_believed_13 : decode cX7_believed 13 = .ok (.istore_n 3, 1) := by decide +kernel
theorem dX7_believed_14 : decode cX7_believed 14 = .ok (.iload_n 2, 1) := by decide +kernel
theorem dX7_believed_15 : decode cX7_believed 15 = .ok (.ifCond .ne 5, 3) := by decide +kernel
theorem dX7_believed_18 : decode cX7_believed 18 = .ok (.iconst 0, 1) := by decide +kernel
theorem dX7_believed_19 : decode cX7_believed 19 = .ok (.ireturn, 1) := by decide +kernel
theorem dX7_believed_20 : decode cX7_believed 20 = .ok (.iload_n 2, 1) := by decide +kernel
theorem dX7_believed_21 : decode cX7_believed 21 = .ok (.iload_n 3, 1) := by decide +kernel
theorem dX7_believed_22 : decode cX7_believed 22 = .ok (.imul, 1) := by decide +kernel
theorem dX7_believed_23 : decode cX7_believed 23 = .ok (.bipush 9, 2) := by decide +kernel
theorem dX7_believed_25 : decode cX7_believed 25 = .ok (.idiv, 1) := by decide +kernel
theorem dX7_believed_26 : decode cX7_believed 26 = .ok (.istore 4, 2) := by decide +kernel
theorem dX7_believed_28 : decode cX7_believed 28 = .ok (.iload_n 2, 1) := by decide +kernel
theorem dX7_believed_29 : decode cX7_believed 29 = .ok (.bipush 50, 2) := by decide +kernel
theorem dX7_believed_31 : decode cX7_believed 31 = .ok (.if_icmp .le 10, 3) := by decide +kernel
theorem dX7_believed_34 : decode cX7_believed 34 = .ok (.iload 4, 2) := by decide +kernel
theorem dX7_believed_36 : decode cX7_believed 36 = .ok (.iconst 5, 1) := by decide +kernel
theorem dX7_believed_37 : decode cX7_believed 37 = .ok (.iadd, 1) := by decide +kernel
theorem dX7_believed_38 : decode cX7_believed 38 = .ok (.goto 5, 3) := by decide +kernel
theorem dX7_believed_41 : decode cX7_believed 41 = .ok (.iload 4, 2) := by decide +kernel
theorem dX7_believed_43 : decode cX7_believed 43 = .ok (.istore 5, 2) := by decide +kernel
theorem dX7_believed_45 : decode cX7_believed 45 = .ok (.iload 4, 2) := by decide +kernel
theorem dX7_believed_47 : decode cX7_believed 47 = .ok (.aload_n 0, 1) := by decide +kernel
theorem dX7_believed_48 : decode cX7_believed 48 = .ok (.iload_n 1, 1) := by decide +kernel
theorem dX7_believed_49 : decode cX7_believed 49 = .ok (.iconst 4, 1) := by decide +kernel
theorem dX7_believed_50 : decode cX7_believed 50 = .ok (.invokevirtual 64, 3) := by decide +kernel
theorem dX7_believed_53 : decode cX7_believed 53 = .ok (.if_icmp .le 15, 3) := by decide +kernel
theorem dX7_believed_56 : decode cX7_believed 56 = .ok (.iload 4, 2) := by decide +kernel
theorem dX7_believed_58 : decode cX7_believed 58 = .ok (.aload_n 0, 1) := by decide +kernel
theorem dX7_believed_59 : decode cX7_believed 59 = .ok (.iload_n 1, 1) := by decide +kernel
theorem dX7_believed_60 : decode cX7_believed 60 = .ok (.iconst 4, 1) := by decide +kernel
theorem dX7_believed_61 : decode cX7_believed 61 = .ok (.invokevirtual 64, 3) := by decide +kernel
theorem dX7_believed_64 : decode cX7_believed 64 = .ok (.isub, 1) := by decide +kernel
theorem dX7_believed_65 : decode cX7_believed 65 = .ok (.goto 4, 3) := by decide +kernel
theorem dX7_believed_68 : decode cX7_believed 68 = .ok (.iconst 0, 1) := by decide +kernel
theorem dX7_believed_69 : decode cX7_believed 69 = .ok (.istore 6, 2) := by decide +kernel
theorem dX7_believed_71 : decode cX7_believed 71 = .ok (.aload_n 0, 1) := by decide +kernel
theorem dX7_believed_72 : decode cX7_believed 72 = .ok (.iload_n 1, 1) := by decide +kernel
theorem dX7_believed_73 : decode cX7_believed 73 = .ok (.iconst 0, 1) := by decide +kernel
theorem dX7_believed_74 : decode cX7_believed 74 = .ok (.invokevirtual 64, 3) := by decide +kernel
theorem dX7_believed_77 : decode cX7_believed 77 = .ok (.tableswitch 62 1 5 #[35, 43, 51, 38, 46], 35) := by decide +kernel
theorem dX7_believed_112 : decode cX7_believed 112 = .ok (.iload 5, 2) := by decide +kernel
theorem dX7_believed_114 : decode cX7_believed 114 = .ok (.ireturn, 1) := by decide +kernel
theorem dX7_believed_115 : decode cX7_believed 115 = .ok (.iconst 2, 1) := by decide +kernel
theorem dX7_believed_116 : decode cX7_believed 116 = .ok (.iload 5, 2) := by decide +kernel
theorem dX7_believed_118 : decode cX7_believed 118 = .ok (.imul, 1) := by decide +kernel
theorem dX7_believed_119 : decode cX7_believed 119 = .ok (.ireturn, 1) := by decide +kernel
theorem dX7_believed_120 : decode cX7_believed 120 = .ok (.iload 6, 2) := by decide +kernel
theorem dX7_believed_122 : decode cX7_believed 122 = .ok (.ireturn, 1) := by decide +kernel
theorem dX7_believed_123 : decode cX7_believed 123 = .ok (.iload 6, 2) := by decide +kernel
theorem dX7_believed_125 : decode cX7_believed 125 = .ok (.iload_n 3, 1) := by decide +kernel
theorem dX7_believed_126 : decode cX7_believed 126 = .ok (.iadd, 1) := by decide +kernel
theorem dX7_believed_127 : decode cX7_believed 127 = .ok (.ireturn, 1) := by decide +kernel
theorem dX7_believed_128 : decode cX7_believed 128 = .ok (.iload_n 3, 1) := by decide +kernel
theorem dX7_believed_129 : decode cX7_believed 129 = .ok (.iconst 5, 1) := by decide +kernel
theorem dX7_believed_130 : decode cX7_believed 130 = .ok (.if_icmp .lt 7, 3) := by decide +kernel
theorem dX7_believed_133 : decode cX7_believed 133 = .ok (.iload_n 2, 1) := by decide +kernel
theorem dX7_believed_134 : decode cX7_believed 134 = .ok (.goto 4, 3) := by decide +kernel
theorem dX7_believed_137 : decode cX7_believed 137 = .ok (.iconst 0, 1) := by decide +kernel
theorem dX7_believed_138 : decode cX7_believed 138 = .ok (.ireturn, 1) := by decide +kernel
theorem dX7_believed_139 : decode cX7_believed 139 = .ok (.iload 4, 2) := by decide +kernel
theorem dX7_believed_141 : decode cX7_believed 141 = .ok (.ireturn, 1) := by decide +kernel
theorem dX7_notWhite_0 : decode cX7_notWhite 0 = .ok (.iconst 0, 1) := by decide +kernel
theorem dX7_notWhite_1 : decode cX7_notWhite 1 = .ok (.istore_n 1, 1) := by decide +kernel
theorem dX7_notWhite_2 : decode cX7_notWhite 2 = .ok (.iconst 0, 1) := by decide +kernel
theorem dX7_notWhite_3 : decode cX7_notWhite 3 = .ok (.istore_n 2, 1) := by decide +kernel
theorem dX7_notWhite_4 : decode cX7_notWhite 4 = .ok (.iload_n 2, 1) := by decide +kernel
theorem dX7_notWhite_5 : decode cX7_notWhite 5 = .ok (.aload_n 0, 1) := by decide +kernel
theorem dX7_notWhite_6 : decode cX7_notWhite 6 = .ok (.getfield 7, 3) := by decide +kernel
theorem dX7_notWhite_9 : decode cX7_notWhite 9 = .ok (.iconst 5, 1) := by decide +kernel
theorem dX7_notWhite_10 : decode cX7_notWhite 10 = .ok (.iaload, 1) := by decide +kernel
theorem dX7_notWhite_11 : decode cX7_notWhite 11 = .ok (.if_icmp .ge 28, 3) := by decide +kernel
theorem dX7_notWhite_14 : decode cX7_notWhite 14 = .ok (.iload_n 1, 1) := by decide +kernel
theorem dX7_notWhite_15 : decode cX7_notWhite 15 = .ok (.aload_n 0, 1) := by decide +kernel
theorem dX7_notWhite_16 : decode cX7_notWhite 16 = .ok (.iload_n 2, 1) := by decide +kernel
theorem dX7_notWhite_17 : decode cX7_notWhite 17 = .ok (.iconst 2, 1) := by decide +kernel
theorem dX7_notWhite_18 : decode cX7_notWhite 18 = .ok (.invokevirtual 64, 3) := by decide +kernel
theorem dX7_notWhite_21 : decode cX7_notWhite 21 = .ok (.ifCond .le 9, 3) := by decide +kernel
theorem dX7_notWhite_24 : decode cX7_notWhite 24 = .ok (.iconst 1, 1) := by decide +kernel
theorem dX7_notWhite_25 : decode cX7_notWhite 25 = .ok (.iload_n 2, 1) := by decide +kernel
theorem dX7_notWhite_26 : decode cX7_notWhite 26 = .ok (.ishl, 1) := by decide +kernel
theorem dX7_notWhite_27 : decode cX7_notWhite 27 = .ok (.goto 4, 3) := by decide +kernel
theorem dX7_notWhite_30 : decode cX7_notWhite 30 = .ok (.iconst 0, 1) := by decide +kernel
theorem dX7_notWhite_31 : decode cX7_notWhite 31 = .ok (.ior, 1) := by decide +kernel
theorem dX7_notWhite_32 : decode cX7_notWhite 32 = .ok (.istore_n 1, 1) := by decide +kernel
theorem dX7_notWhite_33 : decode cX7_notWhite 33 = .ok (.iinc 2 1, 3) := by decide +kernel
theorem dX7_notWhite_36 : decode cX7_notWhite 36 = .ok (.goto (-32), 3) := by decide +kernel
theorem dX7_notWhite_39 : decode cX7_notWhite 39 = .ok (.iload_n 1, 1) := by decide +kernel
theorem dX7_notWhite_40 : decode cX7_notWhite 40 = .ok (.ireturn, 1) := by decide +kernel
theorem dX7_allBelieved_0 : decode cX7_allBelieved 0 = .ok (.iconst 0, 1) := by decide +kernel
theorem dX7_allBelieved_1 : decode cX7_allBelieved 1 = .ok (.istore_n 1, 1) := by decide +kernel
theorem dX7_allBelieved_2 : decode cX7_allBelieved 2 = .ok (.iconst 0, 1) := by decide +kernel
theorem dX7_allBelieved_3 : decode cX7_allBelieved 3 = .ok (.istore_n 2, 1) := by decide +kernel
theorem dX7_allBelieved_4 : decode cX7_allBelieved 4 = .ok (.iload_n 2, 1) := by decide +kernel
theorem dX7_allBelieved_5 : decode cX7_allBelieved 5 = .ok (.aload_n 0, 1) := by decide +kernel
theorem dX7_allBelieved_6 : decode cX7_allBelieved 6 = .ok (.getfield 7, 3) := by decide +kernel
theorem dX7_allBelieved_9 : decode cX7_allBelieved 9 = .ok (.iconst 5, 1) := by decide +kernel
theorem dX7_allBelieved_10 : decode cX7_allBelieved 10 = .ok (.iaload, 1) := by decide +kernel
theorem dX7_allBelieved_11 : decode cX7_allBelieved 11 = .ok (.if_icmp .ge 17, 3) := by decide +kernel
theorem dX7_allBelieved_14 : decode cX7_allBelieved 14 = .ok (.iload_n 1, 1) := by decide +kernel
theorem dX7_allBelieved_15 : decode cX7_allBelieved 15 = .ok (.aload_n 0, 1) := by decide +kernel
theorem dX7_allBelieved_16 : decode cX7_allBelieved 16 = .ok (.iload_n 2, 1) := by decide +kernel
theorem dX7_allBelieved_17 : decode cX7_allBelieved 17 = .ok (.invokevirtual 67, 3) := by decide +kernel
theorem dX7_allBelieved_20 : decode cX7_allBelieved 20 = .ok (.iadd, 1) := by decide +kernel
theorem dX7_allBelieved_21 : decode cX7_allBelieved 21 = .ok (.istore_n 1, 1) := by decide +kernel
theorem dX7_allBelieved_22 : decode cX7_allBelieved 22 = .ok (.iinc 2 1, 3) := by decide +kernel
theorem dX7_allBelieved_25 : decode cX7_allBelieved 25 = .ok (.goto (-21), 3) := by decide +kernel
theorem dX7_allBelieved_28 : decode cX7_allBelieved 28 = .ok (.iload_n 1, 1) := by decide +kernel
theorem dX7_allBelieved_29 : decode cX7_allBelieved 29 = .ok (.ireturn, 1) := by decide +kernel
theorem dX7_now_0 : decode cX7_now 0 = .ok (.iload_n 1, 1) := by decide +kernel
theorem dX7_now_1 : decode cX7_now 1 = .ok (.tableswitch 69 0 7 #[47, 54, 69, 69, 69, 69, 59, 64], 47) := by decide +kernel
theorem dX7_now_48 : decode cX7_now 48 = .ok (.aload_n 0, 1) := by decide +kernel
theorem dX7_now_49 : decode cX7_now 49 = .ok (.getfield 7, 3) := by decide +kernel
theorem dX7_now_52 : decode cX7_now 52 = .ok (.iconst 0, 1) := by decide +kernel
theorem dX7_now_53 : decode cX7_now 53 = .ok (.iaload, 1) := by decide +kernel
theorem dX7_now_54 : decode cX7_now 54 = .ok (.ireturn, 1) := by decide +kernel
theorem dX7_now_55 : decode cX7_now 55 = .ok (.aload_n 0, 1) := by decide +kernel
theorem dX7_now_56 : decode cX7_now 56 = .ok (.invokevirtual 70, 3) := by decide +kernel
theorem dX7_now_59 : decode cX7_now 59 = .ok (.ireturn, 1) := by decide +kernel
theorem dX7_now_60 : decode cX7_now 60 = .ok (.aload_n 0, 1) := by decide +kernel
theorem dX7_now_61 : decode cX7_now 61 = .ok (.invokevirtual 74, 3) := by decide +kernel
theorem dX7_now_64 : decode cX7_now 64 = .ok (.ireturn, 1) := by decide +kernel
theorem dX7_now_65 : decode cX7_now 65 = .ok (.aload_n 0, 1) := by decide +kernel
theorem dX7_now_66 : decode cX7_now 66 = .ok (.invokevirtual 77, 3) := by decide +kernel
theorem dX7_now_69 : decode cX7_now 69 = .ok (.ireturn, 1) := by decide +kernel
theorem dX7_now_70 : decode cX7_now 70 = .ok (.iload_n 1, 1) := by decide +kernel
theorem dX7_now_71 : decode cX7_now 71 = .ok (.iconst 2, 1) := by decide +kernel
theorem dX7_now_72 : decode cX7_now 72 = .ok (.iconst 5, 1) := by decide +kernel
theorem dX7_now_73 : decode cX7_now 73 = .ok (.invokestatic 45, 3) := by decide +kernel
theorem dX7_now_76 : decode cX7_now 76 = .ok (.ifCond .eq 16, 3) := by decide +kernel
theorem dX7_now_79 : decode cX7_now 79 = .ok (.aload_n 0, 1) := by decide +kernel
theorem dX7_now_80 : decode cX7_now 80 = .ok (.getfield 7, 3) := by decide +kernel
theorem dX7_now_83 : decode cX7_now 83 = .ok (.iconst 1, 1) := by decide +kernel
theorem dX7_now_84 : decode cX7_now 84 = .ok (.iload_n 1, 1) := by decide +kernel
theorem dX7_now_85 : decode cX7_now 85 = .ok (.iadd, 1) := by decide +kernel
theorem dX7_now_86 : decode cX7_now 86 = .ok (.iconst 2, 1) := by decide +kernel
theorem dX7_now_87 : decode cX7_now 87 = .ok (.isub, 1) := by decide +kernel
theorem dX7_now_88 : decode cX7_now 88 = .ok (.iaload, 1) := by decide +kernel
theorem dX7_now_89 : decode cX7_now 89 = .ok (.goto 9, 3) := by decide +kernel
theorem dX7_now_92 : decode cX7_now 92 = .ok (.aload_n 0, 1) := by decide +kernel
theorem dX7_now_93 : decode cX7_now 93 = .ok (.ldc 44, 2) := by decide +kernel
theorem dX7_now_95 : decode cX7_now 95 = .ok (.invokevirtual 57, 3) := by decide +kernel
theorem dX7_now_98 : decode cX7_now 98 = .ok (.ireturn, 1) := by decide +kernel
theorem dX7_adds_0 : decode cX7_adds 0 = .ok (.aload_n 0, 1) := by decide +kernel
theorem dX7_adds_1 : decode cX7_adds 1 = .ok (.getfield 7, 3) := by decide +kernel
theorem dX7_adds_4 : decode cX7_adds 4 = .ok (.iconst 5, 1) := by decide +kernel
theorem dX7_adds_5 : decode cX7_adds 5 = .ok (.iaload, 1) := by decide +kernel
theorem dX7_adds_6 : decode cX7_adds 6 = .ok (.istore 4, 2) := by decide +kernel
theorem dX7_adds_8 : decode cX7_adds 8 = .ok (.aload_n 0, 1) := by decide +kernel
theorem dX7_adds_9 : decode cX7_adds 9 = .ok (.getfield 7, 3) := by decide +kernel
theorem dX7_adds_12 : decode cX7_adds 12 = .ok (.iconst 3, 1) := by decide +kernel
theorem dX7_adds_13 : decode cX7_adds 13 = .ok (.dup2, 1) := by decide +kernel
theorem dX7_adds_14 : decode cX7_adds 14 = .ok (.iaload, 1) := by decide +kernel
theorem dX7_adds_15 : decode cX7_adds 15 = .ok (.iload_n 1, 1) := by decide +kernel
theorem dX7_adds_16 : decode cX7_adds 16 = .ok (.iload_n 2, 1) := by decide +kernel
theorem dX7_adds_17 : decode cX7_adds 17 = .ok (.invokestatic 80, 3) := by decide +kernel
theorem dX7_adds_20 : decode cX7_adds 20 = .ok (.isub, 1) := by decide +kernel
theorem dX7_adds_21 : decode cX7_adds 21 = .ok (.iastore, 1) := by decide +kernel
theorem dX7_adds_22 : decode cX7_adds 22 = .ok (.aload_n 0, 1) := by decide +kernel
theorem dX7_adds_23 : decode cX7_adds 23 = .ok (.iload 4, 2) := by decide +kernel
theorem dX7_adds_25 : decode cX7_adds 25 = .ok (.iconst 0, 1) := by decide +kernel
theorem dX7_adds_26 : decode cX7_adds 26 = .ok (.iload_n 1, 1) := by decide +kernel
theorem dX7_adds_27 : decode cX7_adds 27 = .ok (.invokevirtual 83, 3) := by decide +kernel
theorem dX7_adds_30 : decode cX7_adds 30 = .ok (.aload_n 0, 1) := by decide +kernel
theorem dX7_adds_31 : decode cX7_adds 31 = .ok (.iload 4, 2) := by decide +kernel
theorem dX7_adds_33 : decode cX7_adds 33 = .ok (.iconst 1, 1) := by decide +kernel
theorem dX7_adds_34 : decode cX7_adds 34 = .ok (.iload_n 2, 1) := by decide +kernel
theorem dX7_adds_35 : decode cX7_adds 35 = .ok (.invokevirtual 83, 3) := by decide +kernel
theorem dX7_adds_38 : decode cX7_adds 38 = .ok (.aload_n 0, 1) := by decide +kernel
theorem dX7_adds_39 : decode cX7_adds 39 = .ok (.iload 4, 2) := by decide +kernel
theorem dX7_adds_41 : decode cX7_adds 41 = .ok (.iconst 2, 1) := by decide +kernel
theorem dX7_adds_42 : decode cX7_adds 42 = .ok (.iload_n 1, 1) := by decide +kernel
theorem dX7_adds_43 : decode cX7_adds 43 = .ok (.aload_n 0, 1) := by decide +kernel
theorem dX7_adds_44 : decode cX7_adds 44 = .ok (.invokevirtual 70, 3) := by decide +kernel
theorem dX7_adds_47 : decode cX7_adds 47 = .ok (.invokestatic 87, 3) := by decide +kernel
theorem dX7_adds_50 : decode cX7_adds 50 = .ok (.invokevirtual 83, 3) := by decide +kernel
theorem dX7_adds_53 : decode cX7_adds 53 = .ok (.aload_n 0, 1) := by decide +kernel
theorem dX7_adds_54 : decode cX7_adds 54 = .ok (.iload 4, 2) := by decide +kernel
theorem dX7_adds_56 : decode cX7_adds 56 = .ok (.iconst 3, 1) := by decide +kernel
theorem dX7_adds_57 : decode cX7_adds 57 = .ok (.iload_n 3, 1) := by decide +kernel
theorem dX7_adds_58 : decode cX7_adds 58 = .ok (.invokevirtual 83, 3) := by decide +kernel
theorem dX7_adds_61 : decode cX7_adds 61 = .ok (.aload_n 0, 1) := by decide +kernel
theorem dX7_adds_62 : decode cX7_adds 62 = .ok (.iload 4, 2) := by decide +kernel
theorem dX7_adds_64 : decode cX7_adds 64 = .ok (.iconst 4, 1) := by decide +kernel
theorem dX7_adds_65 : decode cX7_adds 65 = .ok (.iconst 0, 1) := by decide +kernel
theorem dX7_adds_66 : decode cX7_adds 66 = .ok (.invokevirtual 83, 3) := by decide +kernel
theorem dX7_adds_69 : decode cX7_adds 69 = .ok (.aload_n 0, 1) := by decide +kernel
theorem dX7_adds_70 : decode cX7_adds 70 = .ok (.getfield 7, 3) := by decide +kernel
theorem dX7_adds_73 : decode cX7_adds 73 = .ok (.iconst 5, 1) := by decide +kernel
theorem dX7_adds_74 : decode cX7_adds 74 = .ok (.dup2, 1) := by decide +kernel
theorem dX7_adds_75 : decode cX7_adds 75 = .ok (.iaload, 1) := by decide +kernel
theorem dX7_adds_76 : decode cX7_adds 76 = .ok (.iconst 1, 1) := by decide +kernel
theorem dX7_adds_77 : decode cX7_adds 77 = .ok (.iadd, 1) := by decide +kernel
theorem dX7_adds_78 : decode cX7_adds 78 = .ok (.iastore, 1) := by decide +kernel
theorem dX7_adds_79 : decode cX7_adds 79 = .ok (.return_, 1) := by decide +kernel
theorem dX7_scribe_0 : decode cX7_scribe 0 = .ok (.iload_n 1, 1) := by decide +kernel
theorem dX7_scribe_1 : decode cX7_scribe 1 = .ok (.invokestatic 90, 3) := by decide +kernel
theorem dX7_scribe_4 : decode cX7_scribe 4 = .ok (.ifCond .eq 13, 3) := by decide +kernel
theorem dX7_scribe_7 : decode cX7_scribe 7 = .ok (.iload_n 2, 1) := by decide +kernel
theorem dX7_scribe_8 : decode cX7_scribe 8 = .ok (.iconst 1, 1) := by decide +kernel
theorem dX7_scribe_9 : decode cX7_scribe 9 = .ok (.bipush 99, 2) := by decide +kernel
theorem dX7_scribe_11 : decode cX7_scribe 11 = .ok (.invokestatic 45, 3) := by decide +kernel
theorem dX7_scribe_14 : decode cX7_scribe 14 = .ok (.ifCond .ne 10, 3) := by decide +kernel
theorem dX7_scribe_17 : decode cX7_scribe 17 = .ok (.aload_n 0, 1) := by decide +kernel
theorem dX7_scribe_18 : decode cX7_scribe 18 = .ok (.ldc 44, 2) := by decide +kernel
theorem dX7_scribe_20 : decode cX7_scribe 20 = .ok (.invokevirtual 57, 3) := by decide +kernel
theorem dX7_scribe_23 : decode cX7_scribe 23 = .ok (.ireturn, 1) := by decide +kernel
theorem dX7_scribe_24 : decode cX7_scribe 24 = .ok (.aload_n 0, 1) := by decide +kernel
theorem dX7_scribe_25 : decode cX7_scribe 25 = .ok (.getfield 7, 3) := by decide +kernel
theorem dX7_scribe_28 : decode cX7_scribe 28 = .ok (.iconst 5, 1) := by decide +kernel
theorem dX7_scribe_29 : decode cX7_scribe 29 = .ok (.iaload, 1) := by decide +kernel
theorem dX7_scribe_30 : decode cX7_scribe 30 = .ok (.bipush 8, 2) := by decide +kernel
theorem dX7_scribe_32 : decode cX7_scribe 32 = .ok (.if_icmp .ne 10, 3) := by decide +kernel
theorem dX7_scribe_35 : decode cX7_scribe 35 = .ok (.aload_n 0, 1) := by decide +kernel
theorem dX7_scribe_36 : decode cX7_scribe 36 = .ok (.ldc 94, 2) := by decide +kernel
theorem dX7_scribe_38 : decode cX7_scribe 38 = .ok (.invokevirtual 57, 3) := by decide +kernel
theorem dX7_scribe_41 : decode cX7_scribe 41 = .ok (.ireturn, 1) := by decide +kernel
theorem dX7_scribe_42 : decode cX7_scribe 42 = .ok (.iload_n 1, 1) := by decide +kernel
theorem dX7_scribe_43 : decode cX7_scribe 43 = .ok (.iload_n 2, 1) := by decide +kernel
theorem dX7_scribe_44 : decode cX7_scribe 44 = .ok (.invokestatic 80, 3) := by decide +kernel
theorem dX7_scribe_47 : decode cX7_scribe 47 = .ok (.aload_n 0, 1) := by decide +kernel
theorem dX7_scribe_48 : decode cX7_scribe 48 = .ok (.getfield 7, 3) := by decide +kernel
theorem dX7_scribe_51 : decode cX7_scribe 51 = .ok (.iconst 3, 1) := by decide +kernel
theorem dX7_scribe_52 : decode cX7_scribe 52 = .ok (.iaload, 1) := by decide +kernel
theorem dX7_scribe_53 : decode cX7_scribe 53 = .ok (.if_icmp .le 10, 3) := by decide +kernel
theorem dX7_scribe_56 : decode cX7_scribe 56 = .ok (.aload_n 0, 1) := by decide +kernel
theorem dX7_scribe_57 : decode cX7_scribe 57 = .ok (.ldc 95, 2) := by decide +kernel
theorem dX7_scribe_59 : decode cX7_scribe 59 = .ok (.invokevirtual 57, 3) := by decide +kernel
theorem dX7_scribe_62 : decode cX7_scribe 62 = .ok (.ireturn, 1) := by decide +kernel
theorem dX7_scribe_63 : decode cX7_scribe 63 = .ok (.aload_n 0, 1) := by decide +kernel
theorem dX7_scribe_64 : decode cX7_scribe 64 = .ok (.iload_n 1, 1) := by decide +kernel
theorem dX7_scribe_65 : decode cX7_scribe 65 = .ok (.iload_n 2, 1) := by decide +kernel
theorem dX7_scribe_66 : decode cX7_scribe 66 = .ok (.iconst 0, 1) := by decide +kernel
theorem dX7_scribe_67 : decode cX7_scribe 67 = .ok (.invokevirtual 96, 3) := by decide +kernel
theorem dX7_scribe_70 : decode cX7_scribe 70 = .ok (.aload_n 0, 1) := by decide +kernel
theorem dX7_scribe_71 : decode cX7_scribe 71 = .ok (.getfield 7, 3) := by decide +kernel
theorem dX7_scribe_74 : decode cX7_scribe 74 = .ok (.iconst 5, 1) := by decide +kernel
theorem dX7_scribe_75 : decode cX7_scribe 75 = .ok (.iaload, 1) := by decide +kernel
theorem dX7_scribe_76 : decode cX7_scribe 76 = .ok (.iconst 1, 1) := by decide +kernel
theorem dX7_scribe_77 : decode cX7_scribe 77 = .ok (.isub, 1) := by decide +kernel
theorem dX7_scribe_78 : decode cX7_scribe 78 = .ok (.ireturn, 1) := by decide +kernel
theorem dX7_of_0 : decode cX7_of 0 = .ok (.aload_n 0, 1) := by decide +kernel
theorem dX7_of_1 : decode cX7_of 1 = .ok (.iload_n 1, 1) := by decide +kernel
theorem dX7_of_2 : decode cX7_of 2 = .ok (.invokevirtual 99, 3) := by decide +kernel
theorem dX7_of_5 : decode cX7_of 5 = .ok (.ifCond .eq 13, 3) := by decide +kernel
theorem dX7_of_8 : decode cX7_of 8 = .ok (.iload_n 2, 1) := by decide +kernel
theorem dX7_of_9 : decode cX7_of 9 = .ok (.iconst 0, 1) := by decide +kernel
theorem dX7_of_10 : decode cX7_of 10 = .ok (.bipush 8, 2) := by decide +kernel
theorem dX7_of_12 : decode cX7_of 12 = .ok (.invokestatic 45, 3) := by decide +kernel
theorem dX7_of_15 : decode cX7_of 15 = .ok (.ifCond .ne 10, 3) := by decide +kernel
theorem dX7_of_18 : decode cX7_of 18 = .ok (.aload_n 0, 1) := by decide +kernel
theorem dX7_of_19 : decode cX7_of 19 = .ok (.ldc 44, 2) := by decide +kernel
theorem dX7_of_21 : decode cX7_of 21 = .ok (.invokevirtual 57, 3) := by decide +kernel
theorem dX7_of_24 : decode cX7_of 24 = .ok (.ireturn, 1) := by decide +kernel
theorem dX7_of_25 : decode cX7_of 25 = .ok (.iload_n 2, 1) := by decide +kernel
theorem dX7_of_26 : decode cX7_of 26 = .ok (.tableswitch 72 5 8 #[30, 46, 60, 66], 30) := by decide +kernel
theorem dX7_of_56 : decode cX7_of 56 = .ok (.aload_n 0, 1) := by decide +kernel
theorem dX7_of_57 : decode cX7_of 57 = .ok (.iload_n 1, 1) := by decide +kernel
theorem dX7_of_58 : decode cX7_of 58 = .ok (.iconst 0, 1) := by decide +kernel
theorem dX7_of_59 : decode cX7_of 59 = .ok (.invokevirtual 64, 3) := by decide +kernel
theorem dX7_of_62 : decode cX7_of 62 = .ok (.aload_n 0, 1) := by decide +kernel
theorem dX7_of_63 : decode cX7_of 63 = .ok (.iload_n 1, 1) := by decide +kernel
theorem dX7_of_64 : decode cX7_of 64 = .ok (.iconst 1, 1) := by decide +kernel
theorem dX7_of_65 : decode cX7_of 65 = .ok (.invokevirtual 64, 3) := by decide +kernel
theorem dX7_of_68 : decode cX7_of 68 = .ok (.invokestatic 80, 3) := by decide +kernel
theorem dX7_of_71 : decode cX7_of 71 = .ok (.ireturn, 1) := by decide +kernel
theorem dX7_of_72 : decode cX7_of 72 = .ok (.aload_n 0, 1) := by decide +kernel
theorem dX7_of_73 : decode cX7_of 73 = .ok (.iload_n 1, 1) := by decide +kernel
theorem dX7_of_74 : decode cX7_of 74 = .ok (.iconst 0, 1) := by decide +kernel
theorem dX7_of_75 : decode cX7_of 75 = .ok (.invokevirtual 64, 3) := by decide +kernel
theorem dX7_of_78 : decode cX7_of 78 = .ok (.aload_n 0, 1) := by decide +kernel
theorem dX7_of_79 : decode cX7_of 79 = .ok (.invokevirtual 70, 3) := by decide +kernel
theorem dX7_of_82 : decode cX7_of 82 = .ok (.invokestatic 87, 3) := by decide +kernel
theorem dX7_of_85 : decode cX7_of 85 = .ok (.ireturn, 1) := by decide +kernel
theorem dX7_of_86 : decode cX7_of 86 = .ok (.aload_n 0, 1) := by decide +kernel
theorem dX7_of_87 : decode cX7_of 87 = .ok (.iload_n 1, 1) := by decide +kernel
theorem dX7_of_88 : decode cX7_of 88 = .ok (.invokevirtual 102, 3) := by decide +kernel
theorem dX7_of_91 : decode cX7_of 91 = .ok (.ireturn, 1) := by decide +kernel
theorem dX7_of_92 : decode cX7_of 92 = .ok (.aload_n 0, 1) := by decide +kernel
theorem dX7_of_93 : decode cX7_of 93 = .ok (.iload_n 1, 1) := by decide +kernel
theorem dX7_of_94 : decode cX7_of 94 = .ok (.invokevirtual 67, 3) := by decide +kernel
theorem dX7_of_97 : decode cX7_of 97 = .ok (.ireturn, 1) := by decide +kernel
theorem dX7_of_98 : decode cX7_of 98 = .ok (.aload_n 0, 1) := by decide +kernel
theorem dX7_of_99 : decode cX7_of 99 = .ok (.iload_n 1, 1) := by decide +kernel
theorem dX7_of_100 : decode cX7_of 100 = .ok (.iload_n 2, 1) := by decide +kernel
theorem dX7_of_101 : decode cX7_of 101 = .ok (.invokevirtual 64, 3) := by decide +kernel
theorem dX7_of_104 : decode cX7_of 104 = .ok (.ireturn, 1) := by decide +kernel
theorem dX7_isPart_0 : decode cX7_isPart 0 = .ok (.iload_n 0, 1) := by decide +kernel
theorem dX7_isPart_1 : decode cX7_isPart 1 = .ok (.tableswitch 50 1 3 #[27, 35, 43], 27) := by decide +kernel
theorem dX7_isPart_28 : decode cX7_isPart 28 = .ok (.iload_n 1, 1) := by decide +kernel
theorem dX7_isPart_29 : decode cX7_isPart 29 = .ok (.iconst 1, 1) := by decide +kernel
theorem dX7_isPart_30 : decode cX7_isPart 30 = .ok (.bipush 99, 2) := by decide +kernel
theorem dX7_isPart_32 : decode cX7_isPart 32 = .ok (.invokestatic 45, 3) := by decide +kernel
theorem dX7_isPart_35 : decode cX7_isPart 35 = .ok (.ireturn, 1) := by decide +kernel
theorem dX7_isPart_36 : decode cX7_isPart 36 = .ok (.iload_n 1, 1) := by decide +kernel
theorem dX7_isPart_37 : decode cX7_isPart 37 = .ok (.iconst 0, 1) := by decide +kernel
theorem dX7_isPart_38 : decode cX7_isPart 38 = .ok (.bipush 99, 2) := by decide +kernel
theorem dX7_isPart_40 : decode cX7_isPart 40 = .ok (.invokestatic 45, 3) := by decide +kernel
theorem dX7_isPart_43 : decode cX7_isPart 43 = .ok (.ireturn, 1) := by decide +kernel
theorem dX7_isPart_44 : decode cX7_isPart 44 = .ok (.iload_n 1, 1) := by decide +kernel
theorem dX7_isPart_45 : decode cX7_isPart 45 = .ok (.iconst 0, 1) := by decide +kernel
theorem dX7_isPart_46 : decode cX7_isPart 46 = .ok (.iconst 1, 1) := by decide +kernel
theorem dX7_isPart_47 : decode cX7_isPart 47 = .ok (.invokestatic 45, 3) := by decide +kernel
theorem dX7_isPart_50 : decode cX7_isPart 50 = .ok (.ireturn, 1) := by decide +kernel
theorem dX7_isPart_51 : decode cX7_isPart 51 = .ok (.iload_n 0, 1) := by decide +kernel
theorem dX7_isPart_52 : decode cX7_isPart 52 = .ok (.iconst 4, 1) := by decide +kernel
theorem dX7_isPart_53 : decode cX7_isPart 53 = .ok (.if_icmp .ne 18, 3) := by decide +kernel
theorem dX7_isPart_56 : decode cX7_isPart 56 = .ok (.iload_n 1, 1) := by decide +kernel
theorem dX7_isPart_57 : decode cX7_isPart 57 = .ok (.iconst 0, 1) := by decide +kernel
theorem dX7_isPart_58 : decode cX7_isPart 58 = .ok (.sipush 9999, 3) := by decide +kernel
theorem dX7_isPart_61 : decode cX7_isPart 61 = .ok (.invokestatic 45, 3) := by decide +kernel
theorem dX7_isPart_64 : decode cX7_isPart 64 = .ok (.ifCond .eq 7, 3) := by decide +kernel
theorem dX7_isPart_67 : decode cX7_isPart 67 = .ok (.iconst 1, 1) := by decide +kernel
theorem dX7_isPart_68 : decode cX7_isPart 68 = .ok (.goto 4, 3) := by decide +kernel
theorem dX7_isPart_71 : decode cX7_isPart 71 = .ok (.iconst 0, 1) := by decide +kernel
theorem dX7_isPart_72 : decode cX7_isPart 72 = .ok (.ireturn, 1) := by decide +kernel
theorem dX7_set_0 : decode cX7_set 0 = .ok (.aload_n 0, 1) := by decide +kernel
theorem dX7_set_1 : decode cX7_set 1 = .ok (.iload_n 1, 1) := by decide +kernel
theorem dX7_set_2 : decode cX7_set 2 = .ok (.invokevirtual 99, 3) := by decide +kernel
theorem dX7_set_5 : decode cX7_set 5 = .ok (.ifCond .eq 27, 3) := by decide +kernel
theorem dX7_set_8 : decode cX7_set 8 = .ok (.iload_n 2, 1) := by decide +kernel
theorem dX7_set_9 : decode cX7_set 9 = .ok (.iload_n 3, 1) := by decide +kernel
theorem dX7_set_10 : decode cX7_set 10 = .ok (.invokestatic 105, 3) := by decide +kernel
theorem dX7_set_13 : decode cX7_set 13 = .ok (.ifCond .eq 19, 3) := by decide +kernel
theorem dX7_set_16 : decode cX7_set 16 = .ok (.aload_n 0, 1) := by decide +kernel
theorem dX7_set_17 : decode cX7_set 17 = .ok (.bipush 18, 2) := by decide +kernel
theorem dX7_set_19 : decode cX7_set 19 = .ok (.iconst 5, 1) := by decide +kernel
theorem dX7_set_20 : decode cX7_set 20 = .ok (.iload_n 1, 1) := by decide +kernel
theorem dX7_set_21 : decode cX7_set 21 = .ok (.imul, 1) := by decide +kernel
theorem dX7_set_22 : decode cX7_set 22 = .ok (.iadd, 1) := by decide +kernel
theorem dX7_set_23 : decode cX7_set 23 = .ok (.iload_n 2, 1) := by decide +kernel
theorem dX7_set_24 : decode cX7_set 24 = .ok (.iadd, 1) := by decide +kernel
theorem dX7_set_25 : decode cX7_set 25 = .ok (.iload_n 3, 1) := by decide +kernel
theorem dX7_set_26 : decode cX7_set 26 = .ok (.invokevirtual 53, 3) := by decide +kernel
theorem dX7_set_29 : decode cX7_set 29 = .ok (.goto 9, 3) := by decide +kernel
end
section
theorem dX7_set_32 : decode cX7_set 32 = .ok (.aload_n 0, 1) := by decide +kernel
theorem dX7_set_33 : decode cX7_set 33 = .ok (.ldc 44, 2) := by decide +kernel
theorem dX7_set_35 : decode cX7_set 35 = .ok (.invokevirtual 57, 3) := by decide +kernel
theorem dX7_set_38 : decode cX7_set 38 = .ok (.ireturn, 1) := by decide +kernel
theorem dX7_turn_0 : decode cX7_turn 0 = .ok (.aload_n 0, 1) := by decide +kernel
theorem dX7_turn_1 : decode cX7_turn 1 = .ok (.iload_n 1, 1) := by decide +kernel
theorem dX7_turn_2 : decode cX7_turn 2 = .ok (.invokevirtual 99, 3) := by decide +kernel
theorem dX7_turn_5 : decode cX7_turn 5 = .ok (.ifCond .eq 24, 3) := by decide +kernel
theorem dX7_turn_8 : decode cX7_turn 8 = .ok (.iload_n 2, 1) := by decide +kernel
theorem dX7_turn_9 : decode cX7_turn 9 = .ok (.invokestatic 90, 3) := by decide +kernel
theorem dX7_turn_12 : decode cX7_turn 12 = .ok (.ifCond .eq 17, 3) := by decide +kernel
theorem dX7_turn_15 : decode cX7_turn 15 = .ok (.aload_n 0, 1) := by decide +kernel
theorem dX7_turn_16 : decode cX7_turn 16 = .ok (.bipush 18, 2) := by decide +kernel
theorem dX7_turn_18 : decode cX7_turn 18 = .ok (.iconst 5, 1) := by decide +kernel
theorem dX7_turn_19 : decode cX7_turn 19 = .ok (.iload_n 1, 1) := by decide +kernel
theorem dX7_turn_20 : decode cX7_turn 20 = .ok (.imul, 1) := by decide +kernel
theorem dX7_turn_21 : decode cX7_turn 21 = .ok (.iadd, 1) := by decide +kernel
theorem dX7_turn_22 : decode cX7_turn 22 = .ok (.iload_n 2, 1) := by decide +kernel
theorem dX7_turn_23 : decode cX7_turn 23 = .ok (.invokevirtual 53, 3) := by decide +kernel
theorem dX7_turn_26 : decode cX7_turn 26 = .ok (.goto 9, 3) := by decide +kernel
theorem dX7_turn_29 : decode cX7_turn 29 = .ok (.aload_n 0, 1) := by decide +kernel
theorem dX7_turn_30 : decode cX7_turn 30 = .ok (.ldc 44, 2) := by decide +kernel
theorem dX7_turn_32 : decode cX7_turn 32 = .ok (.invokevirtual 57, 3) := by decide +kernel
theorem dX7_turn_35 : decode cX7_turn 35 = .ok (.ireturn, 1) := by decide +kernel
theorem dX7_as_0 : decode cX7_as 0 = .ok (.aload_n 0, 1) := by decide +kernel
theorem dX7_as_1 : decode cX7_as 1 = .ok (.iload_n 1, 1) := by decide +kernel
theorem dX7_as_2 : decode cX7_as 2 = .ok (.invokevirtual 99, 3) := by decide +kernel
theorem dX7_as_5 : decode cX7_as 5 = .ok (.ifCond .eq 10, 3) := by decide +kernel
theorem dX7_as_8 : decode cX7_as 8 = .ok (.iload_n 2, 1) := by decide +kernel
theorem dX7_as_9 : decode cX7_as 9 = .ok (.invokestatic 90, 3) := by decide +kernel
theorem dX7_as_12 : decode cX7_as 12 = .ok (.ifCond .ne 10, 3) := by decide +kernel
theorem dX7_as_15 : decode cX7_as 15 = .ok (.aload_n 0, 1) := by decide +kernel
theorem dX7_as_16 : decode cX7_as 16 = .ok (.ldc 44, 2) := by decide +kernel
theorem dX7_as_18 : decode cX7_as 18 = .ok (.invokevirtual 57, 3) := by decide +kernel
theorem dX7_as_21 : decode cX7_as 21 = .ok (.ireturn, 1) := by decide +kernel
theorem dX7_as_22 : decode cX7_as 22 = .ok (.aload_n 0, 1) := by decide +kernel
theorem dX7_as_23 : decode cX7_as 23 = .ok (.iload_n 1, 1) := by decide +kernel
theorem dX7_as_24 : decode cX7_as 24 = .ok (.iconst 0, 1) := by decide +kernel
theorem dX7_as_25 : decode cX7_as 25 = .ok (.invokevirtual 64, 3) := by decide +kernel
theorem dX7_as_28 : decode cX7_as 28 = .ok (.istore_n 3, 1) := by decide +kernel
theorem dX7_as_29 : decode cX7_as 29 = .ok (.iload_n 2, 1) := by decide +kernel
theorem dX7_as_30 : decode cX7_as 30 = .ok (.ifCond .eq 28, 3) := by decide +kernel
theorem dX7_as_33 : decode cX7_as 33 = .ok (.iload_n 2, 1) := by decide +kernel
theorem dX7_as_34 : decode cX7_as 34 = .ok (.iload_n 3, 1) := by decide +kernel
theorem dX7_as_35 : decode cX7_as 35 = .ok (.if_icmp .eq 23, 3) := by decide +kernel
theorem dX7_as_38 : decode cX7_as 38 = .ok (.iload_n 2, 1) := by decide +kernel
theorem dX7_as_39 : decode cX7_as 39 = .ok (.iconst 1, 1) := by decide +kernel
theorem dX7_as_40 : decode cX7_as 40 = .ok (.if_icmp .ne 8, 3) := by decide +kernel
theorem dX7_as_43 : decode cX7_as 43 = .ok (.iload_n 3, 1) := by decide +kernel
theorem dX7_as_44 : decode cX7_as 44 = .ok (.iconst 4, 1) := by decide +kernel
theorem dX7_as_45 : decode cX7_as 45 = .ok (.if_icmp .eq 13, 3) := by decide +kernel
theorem dX7_as_48 : decode cX7_as 48 = .ok (.iload_n 2, 1) := by decide +kernel
theorem dX7_as_49 : decode cX7_as 49 = .ok (.iconst 2, 1) := by decide +kernel
theorem dX7_as_50 : decode cX7_as 50 = .ok (.if_icmp .ne 12, 3) := by decide +kernel
theorem dX7_as_53 : decode cX7_as 53 = .ok (.iload_n 3, 1) := by decide +kernel
theorem dX7_as_54 : decode cX7_as 54 = .ok (.iconst 5, 1) := by decide +kernel
theorem dX7_as_55 : decode cX7_as 55 = .ok (.if_icmp .ne 7, 3) := by decide +kernel
theorem dX7_as_58 : decode cX7_as 58 = .ok (.iconst 1, 1) := by decide +kernel
theorem dX7_as_59 : decode cX7_as 59 = .ok (.goto 4, 3) := by decide +kernel
theorem dX7_as_62 : decode cX7_as 62 = .ok (.iconst 0, 1) := by decide +kernel
theorem dX7_as_63 : decode cX7_as 63 = .ok (.istore 4, 2) := by decide +kernel
theorem dX7_as_65 : decode cX7_as 65 = .ok (.iload 4, 2) := by decide +kernel
theorem dX7_as_67 : decode cX7_as 67 = .ok (.ifCond .eq 12, 3) := by decide +kernel
theorem dX7_as_70 : decode cX7_as 70 = .ok (.aload_n 0, 1) := by decide +kernel
theorem dX7_as_71 : decode cX7_as 71 = .ok (.iload_n 1, 1) := by decide +kernel
theorem dX7_as_72 : decode cX7_as 72 = .ok (.iconst 2, 1) := by decide +kernel
theorem dX7_as_73 : decode cX7_as 73 = .ok (.invokevirtual 64, 3) := by decide +kernel
theorem dX7_as_76 : decode cX7_as 76 = .ok (.goto 9, 3) := by decide +kernel
theorem dX7_as_79 : decode cX7_as 79 = .ok (.aload_n 0, 1) := by decide +kernel
theorem dX7_as_80 : decode cX7_as 80 = .ok (.ldc 109, 2) := by decide +kernel
theorem dX7_as_82 : decode cX7_as 82 = .ok (.invokevirtual 57, 3) := by decide +kernel
theorem dX7_as_85 : decode cX7_as 85 = .ok (.ireturn, 1) := by decide +kernel
theorem dX7_looks_0 : decode cX7_looks 0 = .ok (.aload_n 0, 1) := by decide +kernel
theorem dX7_looks_1 : decode cX7_looks 1 = .ok (.iload_n 1, 1) := by decide +kernel
theorem dX7_looks_2 : decode cX7_looks 2 = .ok (.invokevirtual 99, 3) := by decide +kernel
theorem dX7_looks_5 : decode cX7_looks 5 = .ok (.ifCond .ne 10, 3) := by decide +kernel
theorem dX7_looks_8 : decode cX7_looks 8 = .ok (.aload_n 0, 1) := by decide +kernel
theorem dX7_looks_9 : decode cX7_looks 9 = .ok (.ldc 44, 2) := by decide +kernel
theorem dX7_looks_11 : decode cX7_looks 11 = .ok (.invokevirtual 57, 3) := by decide +kernel
theorem dX7_looks_14 : decode cX7_looks 14 = .ok (.ireturn, 1) := by decide +kernel
theorem dX7_looks_15 : decode cX7_looks 15 = .ok (.aload_n 0, 1) := by decide +kernel
theorem dX7_looks_16 : decode cX7_looks 16 = .ok (.getfield 7, 3) := by decide +kernel
theorem dX7_looks_19 : decode cX7_looks 19 = .ok (.iconst 4, 1) := by decide +kernel
theorem dX7_looks_20 : decode cX7_looks 20 = .ok (.iaload, 1) := by decide +kernel
theorem dX7_looks_21 : decode cX7_looks 21 = .ok (.ifCond .ne 10, 3) := by decide +kernel
theorem dX7_looks_24 : decode cX7_looks 24 = .ok (.aload_n 0, 1) := by decide +kernel
theorem dX7_looks_25 : decode cX7_looks 25 = .ok (.ldc 95, 2) := by decide +kernel
theorem dX7_looks_27 : decode cX7_looks 27 = .ok (.invokevirtual 57, 3) := by decide +kernel
theorem dX7_looks_30 : decode cX7_looks 30 = .ok (.ireturn, 1) := by decide +kernel
theorem dX7_looks_31 : decode cX7_looks 31 = .ok (.aload_n 0, 1) := by decide +kernel
theorem dX7_looks_32 : decode cX7_looks 32 = .ok (.iload_n 1, 1) := by decide +kernel
theorem dX7_looks_33 : decode cX7_looks 33 = .ok (.invokevirtual 67, 3) := by decide +kernel
theorem dX7_looks_36 : decode cX7_looks 36 = .ok (.istore_n 2, 1) := by decide +kernel
theorem dX7_looks_37 : decode cX7_looks 37 = .ok (.aload_n 0, 1) := by decide +kernel
theorem dX7_looks_38 : decode cX7_looks 38 = .ok (.iload_n 1, 1) := by decide +kernel
theorem dX7_looks_39 : decode cX7_looks 39 = .ok (.iconst 4, 1) := by decide +kernel
theorem dX7_looks_40 : decode cX7_looks 40 = .ok (.aload_n 0, 1) := by decide +kernel
theorem dX7_looks_41 : decode cX7_looks 41 = .ok (.iload_n 1, 1) := by decide +kernel
theorem dX7_looks_42 : decode cX7_looks 42 = .ok (.iconst 4, 1) := by decide +kernel
theorem dX7_looks_43 : decode cX7_looks 43 = .ok (.invokevirtual 64, 3) := by decide +kernel
theorem dX7_looks_46 : decode cX7_looks 46 = .ok (.iconst 1, 1) := by decide +kernel
theorem dX7_looks_47 : decode cX7_looks 47 = .ok (.iadd, 1) := by decide +kernel
theorem dX7_looks_48 : decode cX7_looks 48 = .ok (.iconst 0, 1) := by decide +kernel
theorem dX7_looks_49 : decode cX7_looks 49 = .ok (.sipush 9999, 3) := by decide +kernel
theorem dX7_looks_52 : decode cX7_looks 52 = .ok (.invokestatic 60, 3) := by decide +kernel
theorem dX7_looks_55 : decode cX7_looks 55 = .ok (.invokevirtual 83, 3) := by decide +kernel
theorem dX7_looks_58 : decode cX7_looks 58 = .ok (.iload_n 2, 1) := by decide +kernel
theorem dX7_looks_59 : decode cX7_looks 59 = .ok (.ireturn, 1) := by decide +kernel
theorem dX7_over_0 : decode cX7_over 0 = .ok (.aload_n 0, 1) := by decide +kernel
theorem dX7_over_1 : decode cX7_over 1 = .ok (.iload_n 1, 1) := by decide +kernel
theorem dX7_over_2 : decode cX7_over 2 = .ok (.invokevirtual 99, 3) := by decide +kernel
theorem dX7_over_5 : decode cX7_over 5 = .ok (.ifCond .ne 10, 3) := by decide +kernel
theorem dX7_over_8 : decode cX7_over 8 = .ok (.aload_n 0, 1) := by decide +kernel
theorem dX7_over_9 : decode cX7_over 9 = .ok (.ldc 44, 2) := by decide +kernel
theorem dX7_over_11 : decode cX7_over 11 = .ok (.invokevirtual 57, 3) := by decide +kernel
theorem dX7_over_14 : decode cX7_over 14 = .ok (.ireturn, 1) := by decide +kernel
theorem dX7_over_15 : decode cX7_over 15 = .ok (.aload_n 0, 1) := by decide +kernel
theorem dX7_over_16 : decode cX7_over 16 = .ok (.iload_n 1, 1) := by decide +kernel
theorem dX7_over_17 : decode cX7_over 17 = .ok (.iconst 0, 1) := by decide +kernel
theorem dX7_over_18 : decode cX7_over 18 = .ok (.invokevirtual 64, 3) := by decide +kernel
theorem dX7_over_21 : decode cX7_over 21 = .ok (.aload_n 0, 1) := by decide +kernel
theorem dX7_over_22 : decode cX7_over 22 = .ok (.iload_n 1, 1) := by decide +kernel
theorem dX7_over_23 : decode cX7_over 23 = .ok (.iconst 1, 1) := by decide +kernel
theorem dX7_over_24 : decode cX7_over 24 = .ok (.invokevirtual 64, 3) := by decide +kernel
theorem dX7_over_27 : decode cX7_over 27 = .ok (.invokestatic 80, 3) := by decide +kernel
theorem dX7_over_30 : decode cX7_over 30 = .ok (.istore_n 2, 1) := by decide +kernel
theorem dX7_over_31 : decode cX7_over 31 = .ok (.iload_n 2, 1) := by decide +kernel
theorem dX7_over_32 : decode cX7_over 32 = .ok (.aload_n 0, 1) := by decide +kernel
theorem dX7_over_33 : decode cX7_over 33 = .ok (.getfield 7, 3) := by decide +kernel
theorem dX7_over_36 : decode cX7_over 36 = .ok (.iconst 3, 1) := by decide +kernel
theorem dX7_over_37 : decode cX7_over 37 = .ok (.iaload, 1) := by decide +kernel
theorem dX7_over_38 : decode cX7_over 38 = .ok (.if_icmp .le 10, 3) := by decide +kernel
theorem dX7_over_41 : decode cX7_over 41 = .ok (.aload_n 0, 1) := by decide +kernel
theorem dX7_over_42 : decode cX7_over 42 = .ok (.ldc 95, 2) := by decide +kernel
theorem dX7_over_44 : decode cX7_over 44 = .ok (.invokevirtual 57, 3) := by decide +kernel
theorem dX7_over_47 : decode cX7_over 47 = .ok (.ireturn, 1) := by decide +kernel
theorem dX7_over_48 : decode cX7_over 48 = .ok (.aload_n 0, 1) := by decide +kernel
theorem dX7_over_49 : decode cX7_over 49 = .ok (.getfield 7, 3) := by decide +kernel
theorem dX7_over_52 : decode cX7_over 52 = .ok (.iconst 3, 1) := by decide +kernel
theorem dX7_over_53 : decode cX7_over 53 = .ok (.dup2, 1) := by decide +kernel
theorem dX7_over_54 : decode cX7_over 54 = .ok (.iaload, 1) := by decide +kernel
theorem dX7_over_55 : decode cX7_over 55 = .ok (.iload_n 2, 1) := by decide +kernel
theorem dX7_over_56 : decode cX7_over 56 = .ok (.isub, 1) := by decide +kernel
theorem dX7_over_57 : decode cX7_over 57 = .ok (.iastore, 1) := by decide +kernel
theorem dX7_over_58 : decode cX7_over 58 = .ok (.aload_n 0, 1) := by decide +kernel
theorem dX7_over_59 : decode cX7_over 59 = .ok (.iload_n 1, 1) := by decide +kernel
theorem dX7_over_60 : decode cX7_over 60 = .ok (.iconst 2, 1) := by decide +kernel
theorem dX7_over_61 : decode cX7_over 61 = .ok (.aload_n 0, 1) := by decide +kernel
theorem dX7_over_62 : decode cX7_over 62 = .ok (.iload_n 1, 1) := by decide +kernel
theorem dX7_over_63 : decode cX7_over 63 = .ok (.iconst 0, 1) := by decide +kernel
theorem dX7_over_64 : decode cX7_over 64 = .ok (.invokevirtual 64, 3) := by decide +kernel
theorem dX7_over_67 : decode cX7_over 67 = .ok (.aload_n 0, 1) := by decide +kernel
theorem dX7_over_68 : decode cX7_over 68 = .ok (.invokevirtual 70, 3) := by decide +kernel
theorem dX7_over_71 : decode cX7_over 71 = .ok (.invokestatic 87, 3) := by decide +kernel
theorem dX7_over_74 : decode cX7_over 74 = .ok (.invokevirtual 83, 3) := by decide +kernel
theorem dX7_over_77 : decode cX7_over 77 = .ok (.aload_n 0, 1) := by decide +kernel
theorem dX7_over_78 : decode cX7_over 78 = .ok (.iload_n 1, 1) := by decide +kernel
theorem dX7_over_79 : decode cX7_over 79 = .ok (.iconst 4, 1) := by decide +kernel
theorem dX7_over_80 : decode cX7_over 80 = .ok (.iconst 0, 1) := by decide +kernel
theorem dX7_over_81 : decode cX7_over 81 = .ok (.invokevirtual 83, 3) := by decide +kernel
theorem dX7_over_84 : decode cX7_over 84 = .ok (.aload_n 0, 1) := by decide +kernel
theorem dX7_over_85 : decode cX7_over 85 = .ok (.iload_n 1, 1) := by decide +kernel
theorem dX7_over_86 : decode cX7_over 86 = .ok (.iconst 2, 1) := by decide +kernel
theorem dX7_over_87 : decode cX7_over 87 = .ok (.invokevirtual 64, 3) := by decide +kernel
theorem dX7_over_90 : decode cX7_over 90 = .ok (.ireturn, 1) := by decide +kernel
theorem dX7_oneNight_0 : decode cX7_oneNight 0 = .ok (.aload_n 0, 1) := by decide +kernel
theorem dX7_oneNight_1 : decode cX7_oneNight 1 = .ok (.getfield 7, 3) := by decide +kernel
theorem dX7_oneNight_4 : decode cX7_oneNight 4 = .ok (.iconst 2, 1) := by decide +kernel
theorem dX7_oneNight_5 : decode cX7_oneNight 5 = .ok (.iaload, 1) := by decide +kernel
theorem dX7_oneNight_6 : decode cX7_oneNight 6 = .ok (.aload_n 0, 1) := by decide +kernel
theorem dX7_oneNight_7 : decode cX7_oneNight 7 = .ok (.invokevirtual 70, 3) := by decide +kernel
theorem dX7_oneNight_10 : decode cX7_oneNight 10 = .ok (.aload_n 0, 1) := by decide +kernel
theorem dX7_oneNight_11 : decode cX7_oneNight 11 = .ok (.getfield 7, 3) := by decide +kernel
theorem dX7_oneNight_14 : decode cX7_oneNight 14 = .ok (.iconst 1, 1) := by decide +kernel
theorem dX7_oneNight_15 : decode cX7_oneNight 15 = .ok (.iaload, 1) := by decide +kernel
theorem dX7_oneNight_16 : decode cX7_oneNight 16 = .ok (.imul, 1) := by decide +kernel
theorem dX7_oneNight_17 : decode cX7_oneNight 17 = .ok (.iadd, 1) := by decide +kernel
theorem dX7_oneNight_18 : decode cX7_oneNight 18 = .ok (.istore_n 1, 1) := by decide +kernel
theorem dX7_oneNight_19 : decode cX7_oneNight 19 = .ok (.aload_n 0, 1) := by decide +kernel
theorem dX7_oneNight_20 : decode cX7_oneNight 20 = .ok (.getfield 7, 3) := by decide +kernel
theorem dX7_oneNight_23 : decode cX7_oneNight 23 = .ok (.iconst 3, 1) := by decide +kernel
theorem dX7_oneNight_24 : decode cX7_oneNight 24 = .ok (.aload_n 0, 1) := by decide +kernel
theorem dX7_oneNight_25 : decode cX7_oneNight 25 = .ok (.getfield 7, 3) := by decide +kernel
theorem dX7_oneNight_28 : decode cX7_oneNight 28 = .ok (.iconst 3, 1) := by decide +kernel
theorem dX7_oneNight_29 : decode cX7_oneNight 29 = .ok (.iaload, 1) := by decide +kernel
theorem dX7_oneNight_30 : decode cX7_oneNight 30 = .ok (.iload_n 1, 1) := by decide +kernel
theorem dX7_oneNight_31 : decode cX7_oneNight 31 = .ok (.bipush 9, 2) := by decide +kernel
theorem dX7_oneNight_33 : decode cX7_oneNight 33 = .ok (.idiv, 1) := by decide +kernel
theorem dX7_oneNight_34 : decode cX7_oneNight 34 = .ok (.iadd, 1) := by decide +kernel
theorem dX7_oneNight_35 : decode cX7_oneNight 35 = .ok (.iconst 0, 1) := by decide +kernel
theorem dX7_oneNight_36 : decode cX7_oneNight 36 = .ok (.sipush 999, 3) := by decide +kernel
theorem dX7_oneNight_39 : decode cX7_oneNight 39 = .ok (.invokestatic 60, 3) := by decide +kernel
theorem dX7_oneNight_42 : decode cX7_oneNight 42 = .ok (.iastore, 1) := by decide +kernel
theorem dX7_oneNight_43 : decode cX7_oneNight 43 = .ok (.aload_n 0, 1) := by decide +kernel
theorem dX7_oneNight_44 : decode cX7_oneNight 44 = .ok (.getfield 7, 3) := by decide +kernel
theorem dX7_oneNight_47 : decode cX7_oneNight 47 = .ok (.iconst 2, 1) := by decide +kernel
theorem dX7_oneNight_48 : decode cX7_oneNight 48 = .ok (.iload_n 1, 1) := by decide +kernel
theorem dX7_oneNight_49 : decode cX7_oneNight 49 = .ok (.bipush 9, 2) := by decide +kernel
theorem dX7_oneNight_51 : decode cX7_oneNight 51 = .ok (.irem, 1) := by decide +kernel
theorem dX7_oneNight_52 : decode cX7_oneNight 52 = .ok (.iastore, 1) := by decide +kernel
theorem dX7_oneNight_53 : decode cX7_oneNight 53 = .ok (.iconst 0, 1) := by decide +kernel
theorem dX7_oneNight_54 : decode cX7_oneNight 54 = .ok (.istore_n 2, 1) := by decide +kernel
theorem dX7_oneNight_55 : decode cX7_oneNight 55 = .ok (.iload_n 2, 1) := by decide +kernel
theorem dX7_oneNight_56 : decode cX7_oneNight 56 = .ok (.aload_n 0, 1) := by decide +kernel
theorem dX7_oneNight_57 : decode cX7_oneNight 57 = .ok (.getfield 7, 3) := by decide +kernel
theorem dX7_oneNight_60 : decode cX7_oneNight 60 = .ok (.iconst 5, 1) := by decide +kernel
theorem dX7_oneNight_61 : decode cX7_oneNight 61 = .ok (.iaload, 1) := by decide +kernel
theorem dX7_oneNight_62 : decode cX7_oneNight 62 = .ok (.if_icmp .ge 33, 3) := by decide +kernel
theorem dX7_oneNight_65 : decode cX7_oneNight 65 = .ok (.aload_n 0, 1) := by decide +kernel
theorem dX7_oneNight_66 : decode cX7_oneNight 66 = .ok (.iload_n 2, 1) := by decide +kernel
theorem dX7_oneNight_67 : decode cX7_oneNight 67 = .ok (.iconst 2, 1) := by decide +kernel
theorem dX7_oneNight_68 : decode cX7_oneNight 68 = .ok (.aload_n 0, 1) := by decide +kernel
theorem dX7_oneNight_69 : decode cX7_oneNight 69 = .ok (.iload_n 2, 1) := by decide +kernel
theorem dX7_oneNight_70 : decode cX7_oneNight 70 = .ok (.iconst 2, 1) := by decide +kernel
theorem dX7_oneNight_71 : decode cX7_oneNight 71 = .ok (.invokevirtual 64, 3) := by decide +kernel
theorem dX7_oneNight_74 : decode cX7_oneNight 74 = .ok (.aload_n 0, 1) := by decide +kernel
theorem dX7_oneNight_75 : decode cX7_oneNight 75 = .ok (.iload_n 2, 1) := by decide +kernel
theorem dX7_oneNight_76 : decode cX7_oneNight 76 = .ok (.invokevirtual 102, 3) := by decide +kernel
theorem dX7_oneNight_79 : decode cX7_oneNight 79 = .ok (.isub, 1) := by decide +kernel
theorem dX7_oneNight_80 : decode cX7_oneNight 80 = .ok (.iconst 0, 1) := by decide +kernel
theorem dX7_oneNight_81 : decode cX7_oneNight 81 = .ok (.bipush 99, 2) := by decide +kernel
theorem dX7_oneNight_83 : decode cX7_oneNight 83 = .ok (.invokestatic 60, 3) := by decide +kernel
theorem dX7_oneNight_86 : decode cX7_oneNight 86 = .ok (.invokevirtual 83, 3) := by decide +kernel
theorem dX7_oneNight_89 : decode cX7_oneNight 89 = .ok (.iinc 2 1, 3) := by decide +kernel
theorem dX7_oneNight_92 : decode cX7_oneNight 92 = .ok (.goto (-37), 3) := by decide +kernel
theorem dX7_oneNight_95 : decode cX7_oneNight 95 = .ok (.aload_n 0, 1) := by decide +kernel
theorem dX7_oneNight_96 : decode cX7_oneNight 96 = .ok (.getfield 7, 3) := by decide +kernel
theorem dX7_oneNight_99 : decode cX7_oneNight 99 = .ok (.iconst 0, 1) := by decide +kernel
theorem dX7_oneNight_100 : decode cX7_oneNight 100 = .ok (.dup2, 1) := by decide +kernel
theorem dX7_oneNight_101 : decode cX7_oneNight 101 = .ok (.iaload, 1) := by decide +kernel
theorem dX7_oneNight_102 : decode cX7_oneNight 102 = .ok (.iconst 1, 1) := by decide +kernel
theorem dX7_oneNight_103 : decode cX7_oneNight 103 = .ok (.iadd, 1) := by decide +kernel
theorem dX7_oneNight_104 : decode cX7_oneNight 104 = .ok (.iastore, 1) := by decide +kernel
theorem dX7_oneNight_105 : decode cX7_oneNight 105 = .ok (.return_, 1) := by decide +kernel
theorem dX7_passes_0 : decode cX7_passes 0 = .ok (.iconst 0, 1) := by decide +kernel
theorem dX7_passes_1 : decode cX7_passes 1 = .ok (.istore_n 2, 1) := by decide +kernel
theorem dX7_passes_2 : decode cX7_passes 2 = .ok (.iload_n 2, 1) := by decide +kernel
theorem dX7_passes_3 : decode cX7_passes 3 = .ok (.iload_n 1, 1) := by decide +kernel
theorem dX7_passes_4 : decode cX7_passes 4 = .ok (.if_icmp .ge 13, 3) := by decide +kernel
theorem dX7_passes_7 : decode cX7_passes 7 = .ok (.aload_n 0, 1) := by decide +kernel
theorem dX7_passes_8 : decode cX7_passes 8 = .ok (.invokevirtual 110, 3) := by decide +kernel
theorem dX7_passes_11 : decode cX7_passes 11 = .ok (.iinc 2 1, 3) := by decide +kernel
theorem dX7_passes_14 : decode cX7_passes 14 = .ok (.goto (-12), 3) := by decide +kernel
theorem dX7_passes_17 : decode cX7_passes 17 = .ok (.return_, 1) := by decide +kernel
theorem dX7_nights_0 : decode cX7_nights 0 = .ok (.iload_n 1, 1) := by decide +kernel
theorem dX7_nights_1 : decode cX7_nights 1 = .ok (.iconst 1, 1) := by decide +kernel
theorem dX7_nights_2 : decode cX7_nights 2 = .ok (.bipush 100, 2) := by decide +kernel
theorem dX7_nights_4 : decode cX7_nights 4 = .ok (.invokestatic 45, 3) := by decide +kernel
theorem dX7_nights_7 : decode cX7_nights 7 = .ok (.ifCond .ne 10, 3) := by decide +kernel
theorem dX7_nights_10 : decode cX7_nights 10 = .ok (.aload_n 0, 1) := by decide +kernel
theorem dX7_nights_11 : decode cX7_nights 11 = .ok (.ldc 44, 2) := by decide +kernel
theorem dX7_nights_13 : decode cX7_nights 13 = .ok (.invokevirtual 57, 3) := by decide +kernel
theorem dX7_nights_16 : decode cX7_nights 16 = .ok (.ireturn, 1) := by decide +kernel
theorem dX7_nights_17 : decode cX7_nights 17 = .ok (.aload_n 0, 1) := by decide +kernel
theorem dX7_nights_18 : decode cX7_nights 18 = .ok (.getfield 7, 3) := by decide +kernel
theorem dX7_nights_21 : decode cX7_nights 21 = .ok (.iconst 0, 1) := by decide +kernel
theorem dX7_nights_22 : decode cX7_nights 22 = .ok (.iaload, 1) := by decide +kernel
theorem dX7_nights_23 : decode cX7_nights 23 = .ok (.iload_n 1, 1) := by decide +kernel
theorem dX7_nights_24 : decode cX7_nights 24 = .ok (.iadd, 1) := by decide +kernel
theorem dX7_nights_25 : decode cX7_nights 25 = .ok (.sipush 9999, 3) := by decide +kernel
theorem dX7_nights_28 : decode cX7_nights 28 = .ok (.if_icmp .le 10, 3) := by decide +kernel
theorem dX7_nights_31 : decode cX7_nights 31 = .ok (.aload_n 0, 1) := by decide +kernel
theorem dX7_nights_32 : decode cX7_nights 32 = .ok (.ldc 95, 2) := by decide +kernel
theorem dX7_nights_34 : decode cX7_nights 34 = .ok (.invokevirtual 57, 3) := by decide +kernel
theorem dX7_nights_37 : decode cX7_nights 37 = .ok (.ireturn, 1) := by decide +kernel
theorem dX7_nights_38 : decode cX7_nights 38 = .ok (.aload_n 0, 1) := by decide +kernel
theorem dX7_nights_39 : decode cX7_nights 39 = .ok (.iload_n 1, 1) := by decide +kernel
theorem dX7_nights_40 : decode cX7_nights 40 = .ok (.invokevirtual 113, 3) := by decide +kernel
theorem dX7_nights_43 : decode cX7_nights 43 = .ok (.aload_n 0, 1) := by decide +kernel
theorem dX7_nights_44 : decode cX7_nights 44 = .ok (.getfield 7, 3) := by decide +kernel
theorem dX7_nights_47 : decode cX7_nights 47 = .ok (.iconst 3, 1) := by decide +kernel
theorem dX7_nights_48 : decode cX7_nights 48 = .ok (.iaload, 1) := by decide +kernel
theorem dX7_nights_49 : decode cX7_nights 49 = .ok (.ireturn, 1) := by decide +kernel
theorem dX7_behind_0 : decode cX7_behind 0 = .ok (.aload_n 0, 1) := by decide +kernel
theorem dX7_behind_1 : decode cX7_behind 1 = .ok (.iload_n 1, 1) := by decide +kernel
theorem dX7_behind_2 : decode cX7_behind 2 = .ok (.invokevirtual 113, 3) := by decide +kernel
theorem dX7_behind_5 : decode cX7_behind 5 = .ok (.iload_n 2, 1) := by decide +kernel
theorem dX7_behind_6 : decode cX7_behind 6 = .ok (.ifCond .ne 12, 3) := by decide +kernel
theorem dX7_behind_9 : decode cX7_behind 9 = .ok (.aload_n 0, 1) := by decide +kernel
theorem dX7_behind_10 : decode cX7_behind 10 = .ok (.getfield 7, 3) := by decide +kernel
theorem dX7_behind_13 : decode cX7_behind 13 = .ok (.iconst 3, 1) := by decide +kernel
theorem dX7_behind_14 : decode cX7_behind 14 = .ok (.iaload, 1) := by decide +kernel
theorem dX7_behind_15 : decode cX7_behind 15 = .ok (.goto 34, 3) := by decide +kernel
theorem dX7_behind_18 : decode cX7_behind 18 = .ok (.iload_n 2, 1) := by decide +kernel
theorem dX7_behind_19 : decode cX7_behind 19 = .ok (.iconst 1, 1) := by decide +kernel
theorem dX7_behind_20 : decode cX7_behind 20 = .ok (.if_icmp .ne 10, 3) := by decide +kernel
theorem dX7_behind_23 : decode cX7_behind 23 = .ok (.aload_n 0, 1) := by decide +kernel
theorem dX7_behind_24 : decode cX7_behind 24 = .ok (.invokevirtual 77, 3) := by decide +kernel
theorem dX7_behind_27 : decode cX7_behind 27 = .ok (.goto 22, 3) := by decide +kernel
theorem dX7_behind_30 : decode cX7_behind 30 = .ok (.iload_n 2, 1) := by decide +kernel
theorem dX7_behind_31 : decode cX7_behind 31 = .ok (.iconst 2, 1) := by decide +kernel
theorem dX7_behind_32 : decode cX7_behind 32 = .ok (.if_icmp .ne 12, 3) := by decide +kernel
theorem dX7_behind_35 : decode cX7_behind 35 = .ok (.aload_n 0, 1) := by decide +kernel
theorem dX7_behind_36 : decode cX7_behind 36 = .ok (.iload_n 3, 1) := by decide +kernel
theorem dX7_behind_37 : decode cX7_behind 37 = .ok (.iconst 2, 1) := by decide +kernel
theorem dX7_behind_38 : decode cX7_behind 38 = .ok (.invokevirtual 64, 3) := by decide +kernel
theorem dX7_behind_41 : decode cX7_behind 41 = .ok (.goto 8, 3) := by decide +kernel
theorem dX7_behind_44 : decode cX7_behind 44 = .ok (.aload_n 0, 1) := by decide +kernel
theorem dX7_behind_45 : decode cX7_behind 45 = .ok (.iload_n 3, 1) := by decide +kernel
theorem dX7_behind_46 : decode cX7_behind 46 = .ok (.invokevirtual 67, 3) := by decide +kernel
theorem dX7_behind_49 : decode cX7_behind 49 = .ok (.istore 4, 2) := by decide +kernel
theorem dX7_behind_51 : decode cX7_behind 51 = .ok (.aload_n 0, 1) := by decide +kernel
theorem dX7_behind_52 : decode cX7_behind 52 = .ok (.iconst 0, 1) := by decide +kernel
theorem dX7_behind_53 : decode cX7_behind 53 = .ok (.aload_n 0, 1) := by decide +kernel
theorem dX7_behind_54 : decode cX7_behind 54 = .ok (.getfield 16, 3) := by decide +kernel
theorem dX7_behind_57 : decode cX7_behind 57 = .ok (.invokevirtual 117, 3) := by decide +kernel
theorem dX7_behind_60 : decode cX7_behind 60 = .ok (.iload 4, 2) := by decide +kernel
theorem dX7_behind_62 : decode cX7_behind 62 = .ok (.ireturn, 1) := by decide +kernel
theorem dX7_ink_0 : decode cX7_ink 0 = .ok (.iload_n 1, 1) := by decide +kernel
theorem dX7_ink_1 : decode cX7_ink 1 = .ok (.iconst 0, 1) := by decide +kernel
theorem dX7_ink_2 : decode cX7_ink 2 = .ok (.sipush 200, 3) := by decide +kernel
theorem dX7_ink_5 : decode cX7_ink 5 = .ok (.invokestatic 45, 3) := by decide +kernel
theorem dX7_ink_8 : decode cX7_ink 8 = .ok (.ifCond .ne 10, 3) := by decide +kernel
theorem dX7_ink_11 : decode cX7_ink 11 = .ok (.aload_n 0, 1) := by decide +kernel
theorem dX7_ink_12 : decode cX7_ink 12 = .ok (.ldc 44, 2) := by decide +kernel
theorem dX7_ink_14 : decode cX7_ink 14 = .ok (.invokevirtual 57, 3) := by decide +kernel
theorem dX7_ink_17 : decode cX7_ink 17 = .ok (.ireturn, 1) := by decide +kernel
theorem dX7_ink_18 : decode cX7_ink 18 = .ok (.aload_n 0, 1) := by decide +kernel
theorem dX7_ink_19 : decode cX7_ink 19 = .ok (.iconst 1, 1) := by decide +kernel
theorem dX7_ink_20 : decode cX7_ink 20 = .ok (.aload_n 0, 1) := by decide +kernel
theorem dX7_ink_21 : decode cX7_ink 21 = .ok (.getfield 16, 3) := by decide +kernel
theorem dX7_ink_24 : decode cX7_ink 24 = .ok (.invokevirtual 117, 3) := by decide +kernel
theorem dX7_ink_27 : decode cX7_ink 27 = .ok (.aload_n 0, 1) := by decide +kernel
theorem dX7_ink_28 : decode cX7_ink 28 = .ok (.iload_n 1, 1) := by decide +kernel
theorem dX7_ink_29 : decode cX7_ink 29 = .ok (.iconst 0, 1) := by decide +kernel
theorem dX7_ink_30 : decode cX7_ink 30 = .ok (.iconst 0, 1) := by decide +kernel
theorem dX7_ink_31 : decode cX7_ink 31 = .ok (.invokevirtual 121, 3) := by decide +kernel
theorem dX7_ink_34 : decode cX7_ink 34 = .ok (.ireturn, 1) := by decide +kernel
theorem dX7_on_0 : decode cX7_on 0 = .ok (.aload_n 0, 1) := by decide +kernel
theorem dX7_on_1 : decode cX7_on 1 = .ok (.iload_n 1, 1) := by decide +kernel
theorem dX7_on_2 : decode cX7_on 2 = .ok (.invokevirtual 99, 3) := by decide +kernel
theorem dX7_on_5 : decode cX7_on 5 = .ok (.ifCond .eq 23, 3) := by decide +kernel
theorem dX7_on_8 : decode cX7_on 8 = .ok (.iload_n 2, 1) := by decide +kernel
theorem dX7_on_9 : decode cX7_on 9 = .ok (.iconst 0, 1) := by decide +kernel
theorem dX7_on_10 : decode cX7_on 10 = .ok (.sipush 200, 3) := by decide +kernel
theorem dX7_on_13 : decode cX7_on 13 = .ok (.invokestatic 45, 3) := by decide +kernel
theorem dX7_on_16 : decode cX7_on 16 = .ok (.ifCond .eq 12, 3) := by decide +kernel
theorem dX7_on_19 : decode cX7_on 19 = .ok (.iload_n 3, 1) := by decide +kernel
theorem dX7_on_20 : decode cX7_on 20 = .ok (.iconst 0, 1) := by decide +kernel
theorem dX7_on_21 : decode cX7_on 21 = .ok (.iconst 1, 1) := by decide +kernel
theorem dX7_on_22 : decode cX7_on 22 = .ok (.invokestatic 45, 3) := by decide +kernel
theorem dX7_on_25 : decode cX7_on 25 = .ok (.ifCond .ne 10, 3) := by decide +kernel
theorem dX7_on_28 : decode cX7_on 28 = .ok (.aload_n 0, 1) := by decide +kernel
theorem dX7_on_29 : decode cX7_on 29 = .ok (.ldc 44, 2) := by decide +kernel
theorem dX7_on_31 : decode cX7_on 31 = .ok (.invokevirtual 57, 3) := by decide +kernel
theorem dX7_on_34 : decode cX7_on 34 = .ok (.ireturn, 1) := by decide +kernel
theorem dX7_on_35 : decode cX7_on 35 = .ok (.aload_n 0, 1) := by decide +kernel
theorem dX7_on_36 : decode cX7_on 36 = .ok (.iconst 1, 1) := by decide +kernel
theorem dX7_on_37 : decode cX7_on 37 = .ok (.aload_n 0, 1) := by decide +kernel
theorem dX7_on_38 : decode cX7_on 38 = .ok (.getfield 16, 3) := by decide +kernel
theorem dX7_on_41 : decode cX7_on 41 = .ok (.invokevirtual 117, 3) := by decide +kernel
theorem dX7_on_44 : decode cX7_on 44 = .ok (.aload_n 0, 1) := by decide +kernel
theorem dX7_on_45 : decode cX7_on 45 = .ok (.iload_n 2, 1) := by decide +kernel
theorem dX7_on_46 : decode cX7_on 46 = .ok (.iconst 2, 1) := by decide +kernel
theorem dX7_on_47 : decode cX7_on 47 = .ok (.iload_n 3, 1) := by decide +kernel
theorem dX7_on_48 : decode cX7_on 48 = .ok (.iadd, 1) := by decide +kernel
theorem dX7_on_49 : decode cX7_on 49 = .ok (.iload_n 1, 1) := by decide +kernel
theorem dX7_on_50 : decode cX7_on 50 = .ok (.invokevirtual 121, 3) := by decide +kernel
theorem dX7_on_53 : decode cX7_on 53 = .ok (.ireturn, 1) := by decide +kernel
theorem dX7_all_0 : decode cX7_all 0 = .ok (.iload_n 1, 1) := by decide +kernel
theorem dX7_all_1 : decode cX7_all 1 = .ok (.iconst 0, 1) := by decide +kernel
theorem dX7_all_2 : decode cX7_all 2 = .ok (.sipush 200, 3) := by decide +kernel
theorem dX7_all_5 : decode cX7_all 5 = .ok (.invokestatic 45, 3) := by decide +kernel
theorem dX7_all_8 : decode cX7_all 8 = .ok (.ifCond .ne 10, 3) := by decide +kernel
theorem dX7_all_11 : decode cX7_all 11 = .ok (.aload_n 0, 1) := by decide +kernel
theorem dX7_all_12 : decode cX7_all 12 = .ok (.ldc 44, 2) := by decide +kernel
theorem dX7_all_14 : decode cX7_all 14 = .ok (.invokevirtual 57, 3) := by decide +kernel
theorem dX7_all_17 : decode cX7_all 17 = .ok (.ireturn, 1) := by decide +kernel
theorem dX7_all_18 : decode cX7_all 18 = .ok (.aload_n 0, 1) := by decide +kernel
theorem dX7_all_19 : decode cX7_all 19 = .ok (.iconst 1, 1) := by decide +kernel
theorem dX7_all_20 : decode cX7_all 20 = .ok (.aload_n 0, 1) := by decide +kernel
theorem dX7_all_21 : decode cX7_all 21 = .ok (.getfield 16, 3) := by decide +kernel
theorem dX7_all_24 : decode cX7_all 24 = .ok (.invokevirtual 117, 3) := by decide +kernel
theorem dX7_all_27 : decode cX7_all 27 = .ok (.aload_n 0, 1) := by decide +kernel
theorem dX7_all_28 : decode cX7_all 28 = .ok (.iload_n 1, 1) := by decide +kernel
theorem dX7_all_29 : decode cX7_all 29 = .ok (.iconst 1, 1) := by decide +kernel
theorem dX7_all_30 : decode cX7_all 30 = .ok (.iconst 0, 1) := by decide +kernel
theorem dX7_all_31 : decode cX7_all 31 = .ok (.invokevirtual 121, 3) := by decide +kernel
theorem dX7_all_34 : decode cX7_all 34 = .ok (.ireturn, 1) := by decide +kernel
theorem dX7_white_0 : decode cX7_white 0 = .ok (.aload_n 0, 1) := by decide +kernel
theorem dX7_white_1 : decode cX7_white 1 = .ok (.iload_n 1, 1) := by decide +kernel
theorem dX7_white_2 : decode cX7_white 2 = .ok (.invokevirtual 99, 3) := by decide +kernel
theorem dX7_white_5 : decode cX7_white 5 = .ok (.ifCond .ne 10, 3) := by decide +kernel
theorem dX7_white_8 : decode cX7_white 8 = .ok (.aload_n 0, 1) := by decide +kernel
theorem dX7_white_9 : decode cX7_white 9 = .ok (.ldc 44, 2) := by decide +kernel
theorem dX7_white_11 : decode cX7_white 11 = .ok (.invokevirtual 57, 3) := by decide +kernel
theorem dX7_white_14 : decode cX7_white 14 = .ok (.ireturn, 1) := by decide +kernel
theorem dX7_white_15 : decode cX7_white 15 = .ok (.aload_n 0, 1) := by decide +kernel
theorem dX7_white_16 : decode cX7_white 16 = .ok (.iconst 1, 1) := by decide +kernel
theorem dX7_white_17 : decode cX7_white 17 = .ok (.aload_n 0, 1) := by decide +kernel
theorem dX7_white_18 : decode cX7_white 18 = .ok (.getfield 16, 3) := by decide +kernel
theorem dX7_white_21 : decode cX7_white 21 = .ok (.invokevirtual 117, 3) := by decide +kernel
theorem dX7_white_24 : decode cX7_white 24 = .ok (.iconst 0, 1) := by decide +kernel
theorem dX7_white_25 : decode cX7_white 25 = .ok (.istore_n 2, 1) := by decide +kernel
theorem dX7_white_26 : decode cX7_white 26 = .ok (.iload_n 2, 1) := by decide +kernel
theorem dX7_white_27 : decode cX7_white 27 = .ok (.sipush 200, 3) := by decide +kernel
theorem dX7_white_30 : decode cX7_white 30 = .ok (.if_icmp .gt 22, 3) := by decide +kernel
theorem dX7_white_33 : decode cX7_white 33 = .ok (.aload_n 0, 1) := by decide +kernel
theorem dX7_white_34 : decode cX7_white 34 = .ok (.iload_n 1, 1) := by decide +kernel
theorem dX7_white_35 : decode cX7_white 35 = .ok (.iconst 2, 1) := by decide +kernel
theorem dX7_white_36 : decode cX7_white 36 = .ok (.invokevirtual 64, 3) := by decide +kernel
theorem dX7_white_39 : decode cX7_white 39 = .ok (.ifCond .le 13, 3) := by decide +kernel
theorem dX7_white_42 : decode cX7_white 42 = .ok (.aload_n 0, 1) := by decide +kernel
theorem dX7_white_43 : decode cX7_white 43 = .ok (.invokevirtual 110, 3) := by decide +kernel
theorem dX7_white_46 : decode cX7_white 46 = .ok (.iinc 2 1, 3) := by decide +kernel
theorem dX7_white_49 : decode cX7_white 49 = .ok (.goto (-23), 3) := by decide +kernel
theorem dX7_white_52 : decode cX7_white 52 = .ok (.aload_n 0, 1) := by decide +kernel
theorem dX7_white_53 : decode cX7_white 53 = .ok (.iconst 0, 1) := by decide +kernel
theorem dX7_white_54 : decode cX7_white 54 = .ok (.aload_n 0, 1) := by decide +kernel
theorem dX7_white_55 : decode cX7_white 55 = .ok (.getfield 16, 3) := by decide +kernel
theorem dX7_white_58 : decode cX7_white 58 = .ok (.invokevirtual 117, 3) := by decide +kernel
theorem dX7_white_61 : decode cX7_white 61 = .ok (.iload_n 2, 1) := by decide +kernel
theorem dX7_white_62 : decode cX7_white 62 = .ok (.sipush 200, 3) := by decide +kernel
theorem dX7_white_65 : decode cX7_white 65 = .ok (.if_icmp .le 12, 3) := by decide +kernel
theorem dX7_white_68 : decode cX7_white 68 = .ok (.aload_n 0, 1) := by decide +kernel
theorem dX7_white_69 : decode cX7_white 69 = .ok (.ldc 124, 2) := by decide +kernel
theorem dX7_white_71 : decode cX7_white 71 = .ok (.invokevirtual 57, 3) := by decide +kernel
theorem dX7_white_74 : decode cX7_white 74 = .ok (.goto 4, 3) := by decide +kernel
theorem dX7_white_77 : decode cX7_white 77 = .ok (.iload_n 2, 1) := by decide +kernel
theorem dX7_white_78 : decode cX7_white 78 = .ok (.ireturn, 1) := by decide +kernel
theorem dX7_comes_0 : decode cX7_comes 0 = .ok (.iload_n 1, 1) := by decide +kernel
theorem dX7_comes_1 : decode cX7_comes 1 = .ok (.iconst 0, 1) := by decide +kernel
theorem dX7_comes_2 : decode cX7_comes 2 = .ok (.sipush 999, 3) := by decide +kernel
theorem dX7_comes_5 : decode cX7_comes 5 = .ok (.invokestatic 45, 3) := by decide +kernel
theorem dX7_comes_8 : decode cX7_comes 8 = .ok (.ifCond .ne 10, 3) := by decide +kernel
theorem dX7_comes_11 : decode cX7_comes 11 = .ok (.aload_n 0, 1) := by decide +kernel
theorem dX7_comes_12 : decode cX7_comes 12 = .ok (.ldc 44, 2) := by decide +kernel
theorem dX7_comes_14 : decode cX7_comes 14 = .ok (.invokevirtual 57, 3) := by decide +kernel
theorem dX7_comes_17 : decode cX7_comes 17 = .ok (.ireturn, 1) := by decide +kernel
theorem dX7_comes_18 : decode cX7_comes 18 = .ok (.aload_n 0, 1) := by decide +kernel
theorem dX7_comes_19 : decode cX7_comes 19 = .ok (.iconst 1, 1) := by decide +kernel
theorem dX7_comes_20 : decode cX7_comes 20 = .ok (.aload_n 0, 1) := by decide +kernel
theorem dX7_comes_21 : decode cX7_comes 21 = .ok (.getfield 16, 3) := by decide +kernel
theorem dX7_comes_24 : decode cX7_comes 24 = .ok (.invokevirtual 117, 3) := by decide +kernel
theorem dX7_comes_27 : decode cX7_comes 27 = .ok (.iconst 0, 1) := by decide +kernel
theorem dX7_comes_28 : decode cX7_comes 28 = .ok (.istore_n 2, 1) := by decide +kernel
theorem dX7_comes_29 : decode cX7_comes 29 = .ok (.iload_n 2, 1) := by decide +kernel
theorem dX7_comes_30 : decode cX7_comes 30 = .ok (.sipush 200, 3) := by decide +kernel
theorem dX7_comes_33 : decode cX7_comes 33 = .ok (.if_icmp .gt 23, 3) := by decide +kernel
theorem dX7_comes_36 : decode cX7_comes 36 = .ok (.aload_n 0, 1) := by decide +kernel
theorem dX7_comes_37 : decode cX7_comes 37 = .ok (.getfield 7, 3) := by decide +kernel
theorem dX7_comes_40 : decode cX7_comes 40 = .ok (.iconst 3, 1) := by decide +kernel
theorem dX7_comes_41 : decode cX7_comes 41 = .ok (.iaload, 1) := by decide +kernel
theorem dX7_comes_42 : decode cX7_comes 42 = .ok (.iload_n 1, 1) := by decide +kernel
theorem dX7_comes_43 : decode cX7_comes 43 = .ok (.if_icmp .ge 13, 3) := by decide +kernel
theorem dX7_comes_46 : decode cX7_comes 46 = .ok (.aload_n 0, 1) := by decide +kernel
theorem dX7_comes_47 : decode cX7_comes 47 = .ok (.invokevirtual 110, 3) := by decide +kernel
theorem dX7_comes_50 : decode cX7_comes 50 = .ok (.iinc 2 1, 3) := by decide +kernel
theorem dX7_comes_53 : decode cX7_comes 53 = .ok (.goto (-24), 3) := by decide +kernel
theorem dX7_comes_56 : decode cX7_comes 56 = .ok (.aload_n 0, 1) := by decide +kernel
theorem dX7_comes_57 : decode cX7_comes 57 = .ok (.iconst 0, 1) := by decide +kernel
theorem dX7_comes_58 : decode cX7_comes 58 = .ok (.aload_n 0, 1) := by decide +kernel
theorem dX7_comes_59 : decode cX7_comes 59 = .ok (.getfield 16, 3) := by decide +kernel
theorem dX7_comes_62 : decode cX7_comes 62 = .ok (.invokevirtual 117, 3) := by decide +kernel
theorem dX7_comes_65 : decode cX7_comes 65 = .ok (.iload_n 2, 1) := by decide +kernel
theorem dX7_comes_66 : decode cX7_comes 66 = .ok (.sipush 200, 3) := by decide +kernel
theorem dX7_comes_69 : decode cX7_comes 69 = .ok (.if_icmp .le 12, 3) := by decide +kernel
theorem dX7_comes_72 : decode cX7_comes 72 = .ok (.aload_n 0, 1) := by decide +kernel
theorem dX7_comes_73 : decode cX7_comes 73 = .ok (.ldc 124, 2) := by decide +kernel
theorem dX7_comes_75 : decode cX7_comes 75 = .ok (.invokevirtual 57, 3) := by decide +kernel
theorem dX7_comes_78 : decode cX7_comes 78 = .ok (.goto 4, 3) := by decide +kernel
theorem dX7_comes_81 : decode cX7_comes 81 = .ok (.iload_n 2, 1) := by decide +kernel
theorem dX7_comes_82 : decode cX7_comes 82 = .ok (.ireturn, 1) := by decide +kernel
theorem dX7_when_0 : decode cX7_when 0 = .ok (.iload_n 1, 1) := by decide +kernel
theorem dX7_when_1 : decode cX7_when 1 = .ok (.invokestatic 90, 3) := by decide +kernel
theorem dX7_when_4 : decode cX7_when 4 = .ok (.ifCond .eq 13, 3) := by decide +kernel
theorem dX7_when_7 : decode cX7_when 7 = .ok (.iload_n 2, 1) := by decide +kernel
theorem dX7_when_8 : decode cX7_when 8 = .ok (.iconst 1, 1) := by decide +kernel
theorem dX7_when_9 : decode cX7_when 9 = .ok (.bipush 99, 2) := by decide +kernel
theorem dX7_when_11 : decode cX7_when 11 = .ok (.invokestatic 45, 3) := by decide +kernel
theorem dX7_when_14 : decode cX7_when 14 = .ok (.ifCond .ne 10, 3) := by decide +kernel
theorem dX7_when_17 : decode cX7_when 17 = .ok (.aload_n 0, 1) := by decide +kernel
theorem dX7_when_18 : decode cX7_when 18 = .ok (.ldc 44, 2) := by decide +kernel
theorem dX7_when_20 : decode cX7_when 20 = .ok (.invokevirtual 57, 3) := by decide +kernel
theorem dX7_when_23 : decode cX7_when 23 = .ok (.ireturn, 1) := by decide +kernel
theorem dX7_when_24 : decode cX7_when 24 = .ok (.iconst (-1), 1) := by decide +kernel
theorem dX7_when_25 : decode cX7_when 25 = .ok (.istore_n 3, 1) := by decide +kernel
theorem dX7_when_26 : decode cX7_when 26 = .ok (.iconst (-1), 1) := by decide +kernel
theorem dX7_when_27 : decode cX7_when 27 = .ok (.istore 4, 2) := by decide +kernel
theorem dX7_when_29 : decode cX7_when 29 = .ok (.aload_n 0, 1) := by decide +kernel
theorem dX7_when_30 : decode cX7_when 30 = .ok (.iconst 1, 1) := by decide +kernel
theorem dX7_when_31 : decode cX7_when 31 = .ok (.aload_n 0, 1) := by decide +kernel
theorem dX7_when_32 : decode cX7_when 32 = .ok (.getfield 16, 3) := by decide +kernel
theorem dX7_when_35 : decode cX7_when 35 = .ok (.invokevirtual 117, 3) := by decide +kernel
theorem dX7_when_38 : decode cX7_when 38 = .ok (.iconst 0, 1) := by decide +kernel
theorem dX7_when_39 : decode cX7_when 39 = .ok (.istore 5, 2) := by decide +kernel
theorem dX7_when_41 : decode cX7_when 41 = .ok (.iload 5, 2) := by decide +kernel
theorem dX7_when_43 : decode cX7_when 43 = .ok (.bipush 12, 2) := by decide +kernel
theorem dX7_when_45 : decode cX7_when 45 = .ok (.if_icmp .ge 71, 3) := by decide +kernel
theorem dX7_when_48 : decode cX7_when 48 = .ok (.iload_n 1, 1) := by decide +kernel
theorem dX7_when_49 : decode cX7_when 49 = .ok (.iload_n 2, 1) := by decide +kernel
theorem dX7_when_50 : decode cX7_when 50 = .ok (.invokestatic 80, 3) := by decide +kernel
theorem dX7_when_53 : decode cX7_when 53 = .ok (.aload_n 0, 1) := by decide +kernel
theorem dX7_when_54 : decode cX7_when 54 = .ok (.getfield 7, 3) := by decide +kernel
theorem dX7_when_57 : decode cX7_when 57 = .ok (.iconst 3, 1) := by decide +kernel
theorem dX7_when_58 : decode cX7_when 58 = .ok (.iaload, 1) := by decide +kernel
theorem dX7_when_59 : decode cX7_when 59 = .ok (.if_icmp .gt 14, 3) := by decide +kernel
theorem dX7_when_62 : decode cX7_when 62 = .ok (.iload_n 1, 1) := by decide +kernel
theorem dX7_when_63 : decode cX7_when 63 = .ok (.aload_n 0, 1) := by decide +kernel
theorem dX7_when_64 : decode cX7_when 64 = .ok (.invokevirtual 70, 3) := by decide +kernel
theorem dX7_when_67 : decode cX7_when 67 = .ok (.invokestatic 87, 3) := by decide +kernel
theorem dX7_when_70 : decode cX7_when 70 = .ok (.goto 4, 3) := by decide +kernel
theorem dX7_when_73 : decode cX7_when 73 = .ok (.iconst (-1), 1) := by decide +kernel
theorem dX7_when_74 : decode cX7_when 74 = .ok (.istore 6, 2) := by decide +kernel
theorem dX7_when_76 : decode cX7_when 76 = .ok (.iload 6, 2) := by decide +kernel
theorem dX7_when_78 : decode cX7_when 78 = .ok (.iload 4, 2) := by decide +kernel
theorem dX7_when_80 : decode cX7_when 80 = .ok (.if_icmp .le 8, 3) := by decide +kernel
theorem dX7_when_83 : decode cX7_when 83 = .ok (.iload 5, 2) := by decide +kernel
theorem dX7_when_85 : decode cX7_when 85 = .ok (.goto 4, 3) := by decide +kernel
theorem dX7_when_88 : decode cX7_when 88 = .ok (.iload_n 3, 1) := by decide +kernel
theorem dX7_when_89 : decode cX7_when 89 = .ok (.istore_n 3, 1) := by decide +kernel
theorem dX7_when_90 : decode cX7_when 90 = .ok (.iload 6, 2) := by decide +kernel
theorem dX7_when_92 : decode cX7_when 92 = .ok (.iload 4, 2) := by decide +kernel
theorem dX7_when_94 : decode cX7_when 94 = .ok (.if_icmp .le 8, 3) := by decide +kernel
theorem dX7_when_97 : decode cX7_when 97 = .ok (.iload 6, 2) := by decide +kernel
theorem dX7_when_99 : decode cX7_when 99 = .ok (.goto 5, 3) := by decide +kernel
theorem dX7_when_102 : decode cX7_when 102 = .ok (.iload 4, 2) := by decide +kernel
theorem dX7_when_104 : decode cX7_when 104 = .ok (.istore 4, 2) := by decide +kernel
theorem dX7_when_106 : decode cX7_when 106 = .ok (.aload_n 0, 1) := by decide +kernel
theorem dX7_when_107 : decode cX7_when 107 = .ok (.invokevirtual 110, 3) := by decide +kernel
theorem dX7_when_110 : decode cX7_when 110 = .ok (.iinc 5 1, 3) := by decide +kernel
theorem dX7_when_113 : decode cX7_when 113 = .ok (.goto (-72), 3) := by decide +kernel
theorem dX7_when_116 : decode cX7_when 116 = .ok (.aload_n 0, 1) := by decide +kernel
theorem dX7_when_117 : decode cX7_when 117 = .ok (.iconst 0, 1) := by decide +kernel
theorem dX7_when_118 : decode cX7_when 118 = .ok (.aload_n 0, 1) := by decide +kernel
theorem dX7_when_119 : decode cX7_when 119 = .ok (.getfield 16, 3) := by decide +kernel
theorem dX7_when_122 : decode cX7_when 122 = .ok (.invokevirtual 117, 3) := by decide +kernel
theorem dX7_when_125 : decode cX7_when 125 = .ok (.iload_n 3, 1) := by decide +kernel
theorem dX7_when_126 : decode cX7_when 126 = .ok (.ifCond .ge 12, 3) := by decide +kernel
theorem dX7_when_129 : decode cX7_when 129 = .ok (.aload_n 0, 1) := by decide +kernel
theorem dX7_when_130 : decode cX7_when 130 = .ok (.ldc 124, 2) := by decide +kernel
theorem dX7_when_132 : decode cX7_when 132 = .ok (.invokevirtual 57, 3) := by decide +kernel
theorem dX7_when_135 : decode cX7_when 135 = .ok (.goto 4, 3) := by decide +kernel
theorem dX7_when_138 : decode cX7_when 138 = .ok (.iload_n 3, 1) := by decide +kernel
theorem dX7_when_139 : decode cX7_when 139 = .ok (.ireturn, 1) := by decide +kernel
theorem dX7_shade_0 : decode cX7_shade 0 = .ok (.iload_n 1, 1) := by decide +kernel
theorem dX7_shade_1 : decode cX7_shade 1 = .ok (.iconst 1, 1) := by decide +kernel
theorem dX7_shade_2 : decode cX7_shade 2 = .ok (.bipush 60, 2) := by decide +kernel
theorem dX7_shade_4 : decode cX7_shade 4 = .ok (.invokestatic 45, 3) := by decide +kernel
theorem dX7_shade_7 : decode cX7_shade 7 = .ok (.ifCond .ne 10, 3) := by decide +kernel
theorem dX7_shade_10 : decode cX7_shade 10 = .ok (.aload_n 0, 1) := by decide +kernel
theorem dX7_shade_11 : decode cX7_shade 11 = .ok (.ldc 44, 2) := by decide +kernel
theorem dX7_shade_13 : decode cX7_shade 13 = .ok (.invokevirtual 57, 3) := by decide +kernel
theorem dX7_shade_16 : decode cX7_shade 16 = .ok (.ireturn, 1) := by decide +kernel
theorem dX7_shade_17 : decode cX7_shade 17 = .ok (.iconst (-1), 1) := by decide +kernel
theorem dX7_shade_18 : decode cX7_shade 18 = .ok (.istore_n 2, 1) := by decide +kernel
theorem dX7_shade_19 : decode cX7_shade 19 = .ok (.iconst (-1), 1) := by decide +kernel
theorem dX7_shade_20 : decode cX7_shade 20 = .ok (.istore_n 3, 1) := by decide +kernel
theorem dX7_shade_21 : decode cX7_shade 21 = .ok (.aload_n 0, 1) := by decide +kernel
theorem dX7_shade_22 : decode cX7_shade 22 = .ok (.iconst 1, 1) := by decide +kernel
theorem dX7_shade_23 : decode cX7_shade 23 = .ok (.aload_n 0, 1) := by decide +kernel
theorem dX7_shade_24 : decode cX7_shade 24 = .ok (.getfield 16, 3) := by decide +kernel
theorem dX7_shade_27 : decode cX7_shade 27 = .ok (.invokevirtual 117, 3) := by decide +kernel
theorem dX7_shade_30 : decode cX7_shade 30 = .ok (.iconst 0, 1) := by decide +kernel
theorem dX7_shade_31 : decode cX7_shade 31 = .ok (.istore 4, 2) := by decide +kernel
theorem dX7_shade_33 : decode cX7_shade 33 = .ok (.iload 4, 2) := by decide +kernel
theorem dX7_shade_35 : decode cX7_shade 35 = .ok (.aload_n 0, 1) := by decide +kernel
theorem dX7_shade_36 : decode cX7_shade 36 = .ok (.getfield 7, 3) := by decide +kernel
theorem dX7_shade_39 : decode cX7_shade 39 = .ok (.iconst 5, 1) := by decide +kernel
theorem dX7_shade_40 : decode cX7_shade 40 = .ok (.iaload, 1) := by decide +kernel
theorem dX7_shade_41 : decode cX7_shade 41 = .ok (.if_icmp .ge 63, 3) := by decide +kernel
theorem dX7_shade_44 : decode cX7_shade 44 = .ok (.aload_n 0, 1) := by decide +kernel
theorem dX7_shade_45 : decode cX7_shade 45 = .ok (.iload 4, 2) := by decide +kernel
theorem dX7_shade_47 : decode cX7_shade 47 = .ok (.iconst 3, 1) := by decide +kernel
theorem dX7_shade_48 : decode cX7_shade 48 = .ok (.invokevirtual 64, 3) := by decide +kernel
theorem dX7_shade_51 : decode cX7_shade 51 = .ok (.iconst 1, 1) := by decide +kernel
theorem dX7_shade_52 : decode cX7_shade 52 = .ok (.if_icmp .ne 46, 3) := by decide +kernel
theorem dX7_shade_55 : decode cX7_shade 55 = .ok (.aload_n 0, 1) := by decide +kernel
theorem dX7_shade_56 : decode cX7_shade 56 = .ok (.iload 4, 2) := by decide +kernel
theorem dX7_shade_58 : decode cX7_shade 58 = .ok (.iconst 3, 1) := by decide +kernel
theorem dX7_shade_59 : decode cX7_shade 59 = .ok (.iconst 0, 1) := by decide +kernel
theorem dX7_shade_60 : decode cX7_shade 60 = .ok (.invokevirtual 83, 3) := by decide +kernel
theorem dX7_shade_63 : decode cX7_shade 63 = .ok (.aload_n 0, 1) := by decide +kernel
theorem dX7_shade_64 : decode cX7_shade 64 = .ok (.iload_n 1, 1) := by decide +kernel
theorem dX7_shade_65 : decode cX7_shade 65 = .ok (.iconst 1, 1) := by decide +kernel
theorem dX7_shade_66 : decode cX7_shade 66 = .ok (.iconst 0, 1) := by decide +kernel
theorem dX7_shade_67 : decode cX7_shade 67 = .ok (.invokevirtual 121, 3) := by decide +kernel
theorem dX7_shade_70 : decode cX7_shade 70 = .ok (.istore 5, 2) := by decide +kernel
theorem dX7_shade_72 : decode cX7_shade 72 = .ok (.iload 5, 2) := by decide +kernel
theorem dX7_shade_74 : decode cX7_shade 74 = .ok (.iload_n 3, 1) := by decide +kernel
theorem dX7_shade_75 : decode cX7_shade 75 = .ok (.if_icmp .le 8, 3) := by decide +kernel
theorem dX7_shade_78 : decode cX7_shade 78 = .ok (.iload 4, 2) := by decide +kernel
theorem dX7_shade_80 : decode cX7_shade 80 = .ok (.goto 4, 3) := by decide +kernel
theorem dX7_shade_83 : decode cX7_shade 83 = .ok (.iload_n 2, 1) := by decide +kernel
theorem dX7_shade_84 : decode cX7_shade 84 = .ok (.istore_n 2, 1) := by decide +kernel
theorem dX7_shade_85 : decode cX7_shade 85 = .ok (.iload 5, 2) := by decide +kernel
theorem dX7_shade_87 : decode cX7_shade 87 = .ok (.iload_n 3, 1) := by decide +kernel
theorem dX7_shade_88 : decode cX7_shade 88 = .ok (.if_icmp .le 8, 3) := by decide +kernel
theorem dX7_shade_91 : decode cX7_shade 91 = .ok (.iload 5, 2) := by decide +kernel
theorem dX7_shade_93 : decode cX7_shade 93 = .ok (.goto 4, 3) := by decide +kernel
theorem dX7_shade_96 : decode cX7_shade 96 = .ok (.iload_n 3, 1) := by decide +kernel
theorem dX7_shade_97 : decode cX7_shade 97 = .ok (.istore_n 3, 1) := by decide +kernel
theorem dX7_shade_98 : decode cX7_shade 98 = .ok (.iinc 4 1, 3) := by decide +kernel
theorem dX7_shade_101 : decode cX7_shade 101 = .ok (.goto (-68), 3) := by decide +kernel
theorem dX7_shade_104 : decode cX7_shade 104 = .ok (.iload_n 2, 1) := by decide +kernel
theorem dX7_shade_105 : decode cX7_shade 105 = .ok (.ifCond .ge 12, 3) := by decide +kernel
theorem dX7_shade_108 : decode cX7_shade 108 = .ok (.aload_n 0, 1) := by decide +kernel
theorem dX7_shade_109 : decode cX7_shade 109 = .ok (.ldc 124, 2) := by decide +kernel
theorem dX7_shade_111 : decode cX7_shade 111 = .ok (.invokevirtual 57, 3) := by decide +kernel
theorem dX7_shade_114 : decode cX7_shade 114 = .ok (.goto 4, 3) := by decide +kernel
theorem dX7_shade_117 : decode cX7_shade 117 = .ok (.iload_n 2, 1) := by decide +kernel
theorem dX7_shade_118 : decode cX7_shade 118 = .ok (.ireturn, 1) := by decide +kernel
theorem dX7_enough_0 : decode cX7_enough 0 = .ok (.iload_n 1, 1) := by decide +kernel
theorem dX7_enough_1 : decode cX7_enough 1 = .ok (.iconst 1, 1) := by decide +kernel
theorem dX7_enough_2 : decode cX7_enough 2 = .ok (.bipush 60, 2) := by decide +kernel
theorem dX7_enough_4 : decode cX7_enough 4 = .ok (.invokestatic 45, 3) := by decide +kernel
theorem dX7_enough_7 : decode cX7_enough 7 = .ok (.ifCond .eq 14, 3) := by decide +kernel
theorem dX7_enough_10 : decode cX7_enough 10 = .ok (.iload_n 2, 1) := by decide +kernel
theorem dX7_enough_11 : decode cX7_enough 11 = .ok (.iconst 0, 1) := by decide +kernel
theorem dX7_enough_12 : decode cX7_enough 12 = .ok (.sipush 999, 3) := by decide +kernel
theorem dX7_enough_15 : decode cX7_enough 15 = .ok (.invokestatic 45, 3) := by decide +kernel
theorem dX7_enough_18 : decode cX7_enough 18 = .ok (.ifCond .ne 10, 3) := by decide +kernel
theorem dX7_enough_21 : decode cX7_enough 21 = .ok (.aload_n 0, 1) := by decide +kernel
theorem dX7_enough_22 : decode cX7_enough 22 = .ok (.ldc 44, 2) := by decide +kernel
theorem dX7_enough_24 : decode cX7_enough 24 = .ok (.invokevirtual 57, 3) := by decide +kernel
theorem dX7_enough_27 : decode cX7_enough 27 = .ok (.ireturn, 1) := by decide +kernel
theorem dX7_enough_28 : decode cX7_enough 28 = .ok (.iconst (-1), 1) := by decide +kernel
theorem dX7_enough_29 : decode cX7_enough 29 = .ok (.istore_n 3, 1) := by decide +kernel
theorem dX7_enough_30 : decode cX7_enough 30 = .ok (.iconst 0, 1) := by decide +kernel
theorem dX7_enough_31 : decode cX7_enough 31 = .ok (.istore 4, 2) := by decide +kernel
theorem dX7_enough_33 : decode cX7_enough 33 = .ok (.aload_n 0, 1) := by decide +kernel
theorem dX7_enough_34 : decode cX7_enough 34 = .ok (.iconst 1, 1) := by decide +kernel
theorem dX7_enough_35 : decode cX7_enough 35 = .ok (.aload_n 0, 1) := by decide +kernel
theorem dX7_enough_36 : decode cX7_enough 36 = .ok (.getfield 16, 3) := by decide +kernel
theorem dX7_enough_39 : decode cX7_enough 39 = .ok (.invokevirtual 117, 3) := by decide +kernel
theorem dX7_enough_42 : decode cX7_enough 42 = .ok (.iload_n 3, 1) := by decide +kernel
theorem dX7_enough_43 : decode cX7_enough 43 = .ok (.bipush 9, 2) := by decide +kernel
theorem dX7_enough_45 : decode cX7_enough 45 = .ok (.if_icmp .ge 39, 3) := by decide +kernel
theorem dX7_enough_48 : decode cX7_enough 48 = .ok (.iload 4, 2) := by decide +kernel
theorem dX7_enough_50 : decode cX7_enough 50 = .ok (.ifCond .ne 34, 3) := by decide +kernel
theorem dX7_enough_53 : decode cX7_enough 53 = .ok (.iinc 3 1, 3) := by decide +kernel
theorem dX7_enough_56 : decode cX7_enough 56 = .ok (.aload_n 0, 1) := by decide +kernel
theorem dX7_enough_57 : decode cX7_enough 57 = .ok (.getfield 7, 3) := by decide +kernel
theorem dX7_enough_60 : decode cX7_enough 60 = .ok (.iconst 1, 1) := by decide +kernel
theorem dX7_enough_61 : decode cX7_enough 61 = .ok (.iload_n 3, 1) := by decide +kernel
theorem dX7_enough_62 : decode cX7_enough 62 = .ok (.iastore, 1) := by decide +kernel
theorem dX7_enough_63 : decode cX7_enough 63 = .ok (.aload_n 0, 1) := by decide +kernel
theorem dX7_enough_64 : decode cX7_enough 64 = .ok (.iload_n 1, 1) := by decide +kernel
theorem dX7_enough_65 : decode cX7_enough 65 = .ok (.iconst 0, 1) := by decide +kernel
theorem dX7_enough_66 : decode cX7_enough 66 = .ok (.iconst 0, 1) := by decide +kernel
theorem dX7_enough_67 : decode cX7_enough 67 = .ok (.invokevirtual 121, 3) := by decide +kernel
theorem dX7_enough_70 : decode cX7_enough 70 = .ok (.iload_n 2, 1) := by decide +kernel
theorem dX7_enough_71 : decode cX7_enough 71 = .ok (.if_icmp .lt 7, 3) := by decide +kernel
theorem dX7_enough_74 : decode cX7_enough 74 = .ok (.iconst 1, 1) := by decide +kernel
theorem dX7_enough_75 : decode cX7_enough 75 = .ok (.goto 4, 3) := by decide +kernel
theorem dX7_enough_78 : decode cX7_enough 78 = .ok (.iconst 0, 1) := by decide +kernel
theorem dX7_enough_79 : decode cX7_enough 79 = .ok (.istore 4, 2) := by decide +kernel
theorem dX7_enough_81 : decode cX7_enough 81 = .ok (.goto (-39), 3) := by decide +kernel
theorem dX7_enough_84 : decode cX7_enough 84 = .ok (.iload 4, 2) := by decide +kernel
theorem dX7_enough_86 : decode cX7_enough 86 = .ok (.ifCond .eq 7, 3) := by decide +kernel
theorem dX7_enough_89 : decode cX7_enough 89 = .ok (.iload_n 3, 1) := by decide +kernel
theorem dX7_enough_90 : decode cX7_enough 90 = .ok (.goto 9, 3) := by decide +kernel
theorem dX7_enough_93 : decode cX7_enough 93 = .ok (.aload_n 0, 1) := by decide +kernel
theorem dX7_enough_94 : decode cX7_enough 94 = .ok (.ldc 124, 2) := by decide +kernel
theorem dX7_enough_96 : decode cX7_enough 96 = .ok (.invokevirtual 57, 3) := by decide +kernel
theorem dX7_enough_99 : decode cX7_enough 99 = .ok (.ireturn, 1) := by decide +kernel
theorem dX7_kind_0 : decode cX7_kind 0 = .ok (.aload_n 0, 1) := by decide +kernel
theorem dX7_kind_1 : decode cX7_kind 1 = .ok (.iload_n 1, 1) := by decide +kernel
theorem dX7_kind_2 : decode cX7_kind 2 = .ok (.invokevirtual 99, 3) := by decide +kernel
theorem dX7_kind_5 : decode cX7_kind 5 = .ok (.ifCond .eq 13, 3) := by decide +kernel
theorem dX7_kind_8 : decode cX7_kind 8 = .ok (.iload_n 2, 1) := by decide +kernel
theorem dX7_kind_9 : decode cX7_kind 9 = .ok (.iconst 0, 1) := by decide +kernel
theorem dX7_kind_10 : decode cX7_kind 10 = .ok (.bipush 60, 2) := by decide +kernel
theorem dX7_kind_12 : decode cX7_kind 12 = .ok (.invokestatic 45, 3) := by decide +kernel
theorem dX7_kind_15 : decode cX7_kind 15 = .ok (.ifCond .ne 10, 3) := by decide +kernel
theorem dX7_kind_18 : decode cX7_kind 18 = .ok (.aload_n 0, 1) := by decide +kernel
theorem dX7_kind_19 : decode cX7_kind 19 = .ok (.ldc 44, 2) := by decide +kernel
theorem dX7_kind_21 : decode cX7_kind 21 = .ok (.invokevirtual 57, 3) := by decide +kernel
theorem dX7_kind_24 : decode cX7_kind 24 = .ok (.ireturn, 1) := by decide +kernel
theorem dX7_kind_25 : decode cX7_kind 25 = .ok (.iconst 0, 1) := by decide +kernel
theorem dX7_kind_26 : decode cX7_kind 26 = .ok (.istore_n 3, 1) := by decide +kernel
theorem dX7_kind_27 : decode cX7_kind 27 = .ok (.iconst (-1), 1) := by decide +kernel
theorem dX7_kind_28 : decode cX7_kind 28 = .ok (.istore 4, 2) := by decide +kernel
theorem dX7_kind_30 : decode cX7_kind 30 = .ok (.aload_n 0, 1) := by decide +kernel
theorem dX7_kind_31 : decode cX7_kind 31 = .ok (.iconst 1, 1) := by decide +kernel
theorem dX7_kind_32 : decode cX7_kind 32 = .ok (.aload_n 0, 1) := by decide +kernel
theorem dX7_kind_33 : decode cX7_kind 33 = .ok (.getfield 16, 3) := by decide +kernel
theorem dX7_kind_36 : decode cX7_kind 36 = .ok (.invokevirtual 117, 3) := by decide +kernel
theorem dX7_kind_39 : decode cX7_kind 39 = .ok (.iconst 0, 1) := by decide +kernel
theorem dX7_kind_40 : decode cX7_kind 40 = .ok (.istore 5, 2) := by decide +kernel
theorem dX7_kind_42 : decode cX7_kind 42 = .ok (.iload 5, 2) := by decide +kernel
theorem dX7_kind_44 : decode cX7_kind 44 = .ok (.iconst 5, 1) := by decide +kernel
theorem dX7_kind_45 : decode cX7_kind 45 = .ok (.if_icmp .gt 56, 3) := by decide +kernel
theorem dX7_kind_48 : decode cX7_kind 48 = .ok (.aload_n 0, 1) := by decide +kernel
theorem dX7_kind_49 : decode cX7_kind 49 = .ok (.iload_n 1, 1) := by decide +kernel
theorem dX7_kind_50 : decode cX7_kind 50 = .ok (.iconst 0, 1) := by decide +kernel
theorem dX7_kind_51 : decode cX7_kind 51 = .ok (.iload 5, 2) := by decide +kernel
theorem dX7_kind_53 : decode cX7_kind 53 = .ok (.invokevirtual 83, 3) := by decide +kernel
theorem dX7_kind_56 : decode cX7_kind 56 = .ok (.aload_n 0, 1) := by decide +kernel
theorem dX7_kind_57 : decode cX7_kind 57 = .ok (.iload_n 2, 1) := by decide +kernel
theorem dX7_kind_58 : decode cX7_kind 58 = .ok (.iconst 3, 1) := by decide +kernel
theorem dX7_kind_59 : decode cX7_kind 59 = .ok (.iload_n 1, 1) := by decide +kernel
theorem dX7_kind_60 : decode cX7_kind 60 = .ok (.invokevirtual 121, 3) := by decide +kernel
theorem dX7_kind_63 : decode cX7_kind 63 = .ok (.istore 6, 2) := by decide +kernel
theorem dX7_kind_65 : decode cX7_kind 65 = .ok (.iload 6, 2) := by decide +kernel
theorem dX7_kind_67 : decode cX7_kind 67 = .ok (.iload 4, 2) := by decide +kernel
theorem dX7_kind_69 : decode cX7_kind 69 = .ok (.if_icmp .le 8, 3) := by decide +kernel
theorem dX7_kind_72 : decode cX7_kind 72 = .ok (.iload 5, 2) := by decide +kernel
theorem dX7_kind_74 : decode cX7_kind 74 = .ok (.goto 4, 3) := by decide +kernel
theorem dX7_kind_77 : decode cX7_kind 77 = .ok (.iload_n 3, 1) := by decide +kernel
theorem dX7_kind_78 : decode cX7_kind 78 = .ok (.istore_n 3, 1) := by decide +kernel
theorem dX7_kind_79 : decode cX7_kind 79 = .ok (.iload 6, 2) := by decide +kernel
theorem dX7_kind_81 : decode cX7_kind 81 = .ok (.iload 4, 2) := by decide +kernel
theorem dX7_kind_83 : decode cX7_kind 83 = .ok (.if_icmp .le 8, 3) := by decide +kernel
theorem dX7_kind_86 : decode cX7_kind 86 = .ok (.iload 6, 2) := by decide +kernel
theorem dX7_kind_88 : decode cX7_kind 88 = .ok (.goto 5, 3) := by decide +kernel
theorem dX7_kind_91 : decode cX7_kind 91 = .ok (.iload 4, 2) := by decide +kernel
theorem dX7_kind_93 : decode cX7_kind 93 = .ok (.istore 4, 2) := by decide +kernel
theorem dX7_kind_95 : decode cX7_kind 95 = .ok (.iinc 5 1, 3) := by decide +kernel
theorem dX7_kind_98 : decode cX7_kind 98 = .ok (.goto (-56), 3) := by decide +kernel
theorem dX7_kind_101 : decode cX7_kind 101 = .ok (.iload_n 3, 1) := by decide +kernel
theorem dX7_kind_102 : decode cX7_kind 102 = .ok (.ireturn, 1) := by decide +kernel
theorem dX7_lamp_0 : decode cX7_lamp 0 = .ok (.iload_n 1, 1) := by decide +kernel
theorem dX7_lamp_1 : decode cX7_lamp 1 = .ok (.iconst 0, 1) := by decide +kernel
theorem dX7_lamp_2 : decode cX7_lamp 2 = .ok (.bipush 60, 2) := by decide +kernel
theorem dX7_lamp_4 : decode cX7_lamp 4 = .ok (.invokestatic 45, 3) := by decide +kernel
theorem dX7_lamp_7 : decode cX7_lamp 7 = .ok (.ifCond .eq 14, 3) := by decide +kernel
theorem dX7_lamp_10 : decode cX7_lamp 10 = .ok (.iload_n 2, 1) := by decide +kernel
theorem dX7_lamp_11 : decode cX7_lamp 11 = .ok (.iconst 0, 1) := by decide +kernel
theorem dX7_lamp_12 : decode cX7_lamp 12 = .ok (.sipush 9999, 3) := by decide +kernel
theorem dX7_lamp_15 : decode cX7_lamp 15 = .ok (.invokestatic 45, 3) := by decide +kernel
theorem dX7_lamp_18 : decode cX7_lamp 18 = .ok (.ifCond .ne 10, 3) := by decide +kernel
theorem dX7_lamp_21 : decode cX7_lamp 21 = .ok (.aload_n 0, 1) := by decide +kernel
theorem dX7_lamp_22 : decode cX7_lamp 22 = .ok (.ldc 44, 2) := by decide +kernel
theorem dX7_lamp_24 : decode cX7_lamp 24 = .ok (.invokevirtual 57, 3) := by decide +kernel
theorem dX7_lamp_27 : decode cX7_lamp 27 = .ok (.ireturn, 1) := by decide +kernel
theorem dX7_lamp_28 : decode cX7_lamp 28 = .ok (.iconst (-1), 1) := by decide +kernel
theorem dX7_lamp_29 : decode cX7_lamp 29 = .ok (.istore_n 3, 1) := by decide +kernel
theorem dX7_lamp_30 : decode cX7_lamp 30 = .ok (.iconst 0, 1) := by decide +kernel
theorem dX7_lamp_31 : decode cX7_lamp 31 = .ok (.istore 4, 2) := by decide +kernel
theorem dX7_lamp_33 : decode cX7_lamp 33 = .ok (.aload_n 0, 1) := by decide +kernel
theorem dX7_lamp_34 : decode cX7_lamp 34 = .ok (.iconst 1, 1) := by decide +kernel
theorem dX7_lamp_35 : decode cX7_lamp 35 = .ok (.aload_n 0, 1) := by decide +kernel
theorem dX7_lamp_36 : decode cX7_lamp 36 = .ok (.getfield 16, 3) := by decide +kernel
theorem dX7_lamp_39 : decode cX7_lamp 39 = .ok (.invokevirtual 117, 3) := by decide +kernel
theorem dX7_lamp_42 : decode cX7_lamp 42 = .ok (.iload_n 3, 1) := by decide +kernel
theorem dX7_lamp_43 : decode cX7_lamp 43 = .ok (.bipush 9, 2) := by decide +kernel
theorem dX7_lamp_45 : decode cX7_lamp 45 = .ok (.if_icmp .ge 39, 3) := by decide +kernel
theorem dX7_lamp_48 : decode cX7_lamp 48 = .ok (.iload 4, 2) := by decide +kernel
theorem dX7_lamp_50 : decode cX7_lamp 50 = .ok (.ifCond .ne 34, 3) := by decide +kernel
theorem dX7_lamp_53 : decode cX7_lamp 53 = .ok (.iinc 3 1, 3) := by decide +kernel
theorem dX7_lamp_56 : decode cX7_lamp 56 = .ok (.aload_n 0, 1) := by decide +kernel
theorem dX7_lamp_57 : decode cX7_lamp 57 = .ok (.getfield 7, 3) := by decide +kernel
theorem dX7_lamp_60 : decode cX7_lamp 60 = .ok (.iconst 4, 1) := by decide +kernel
theorem dX7_lamp_61 : decode cX7_lamp 61 = .ok (.iload_n 3, 1) := by decide +kernel
theorem dX7_lamp_62 : decode cX7_lamp 62 = .ok (.iastore, 1) := by decide +kernel
theorem dX7_lamp_63 : decode cX7_lamp 63 = .ok (.aload_n 0, 1) := by decide +kernel
theorem dX7_lamp_64 : decode cX7_lamp 64 = .ok (.iload_n 1, 1) := by decide +kernel
theorem dX7_lamp_65 : decode cX7_lamp 65 = .ok (.iconst 1, 1) := by decide +kernel
theorem dX7_lamp_66 : decode cX7_lamp 66 = .ok (.iconst 0, 1) := by decide +kernel
theorem dX7_lamp_67 : decode cX7_lamp 67 = .ok (.invokevirtual 121, 3) := by decide +kernel
theorem dX7_lamp_70 : decode cX7_lamp 70 = .ok (.iload_n 2, 1) := by decide +kernel
theorem dX7_lamp_71 : decode cX7_lamp 71 = .ok (.if_icmp .lt 7, 3) := by decide +kernel
theorem dX7_lamp_74 : decode cX7_lamp 74 = .ok (.iconst 1, 1) := by decide +kernel
theorem dX7_lamp_75 : decode cX7_lamp 75 = .ok (.goto 4, 3) := by decide +kernel
theorem dX7_lamp_78 : decode cX7_lamp 78 = .ok (.iconst 0, 1) := by decide +kernel
theorem dX7_lamp_79 : decode cX7_lamp 79 = .ok (.istore 4, 2) := by decide +kernel
theorem dX7_lamp_81 : decode cX7_lamp 81 = .ok (.goto (-39), 3) := by decide +kernel
theorem dX7_lamp_84 : decode cX7_lamp 84 = .ok (.iload 4, 2) := by decide +kernel
theorem dX7_lamp_86 : decode cX7_lamp 86 = .ok (.ifCond .eq 7, 3) := by decide +kernel
theorem dX7_lamp_89 : decode cX7_lamp 89 = .ok (.iload_n 3, 1) := by decide +kernel
theorem dX7_lamp_90 : decode cX7_lamp 90 = .ok (.goto 9, 3) := by decide +kernel
theorem dX7_lamp_93 : decode cX7_lamp 93 = .ok (.aload_n 0, 1) := by decide +kernel
theorem dX7_lamp_94 : decode cX7_lamp 94 = .ok (.ldc 124, 2) := by decide +kernel
theorem dX7_lamp_96 : decode cX7_lamp 96 = .ok (.invokevirtual 57, 3) := by decide +kernel
theorem dX7_lamp_99 : decode cX7_lamp 99 = .ok (.ireturn, 1) := by decide +kernel
theorem dX7_wordsOf_0 : decode cX7_wordsOf 0 = .ok (.bipush 99, 2) := by decide +kernel
theorem dX7_wordsOf_2 : decode cX7_wordsOf 2 = .ok (.istore_n 2, 1) := by decide +kernel
theorem dX7_wordsOf_3 : decode cX7_wordsOf 3 = .ok (.iload_n 2, 1) := by decide +kernel
theorem dX7_wordsOf_4 : decode cX7_wordsOf 4 = .ok (.ifCond .le 23, 3) := by decide +kernel
theorem dX7_wordsOf_7 : decode cX7_wordsOf 7 = .ok (.iload_n 1, 1) := by decide +kernel
theorem dX7_wordsOf_8 : decode cX7_wordsOf 8 = .ok (.iload_n 2, 1) := by decide +kernel
theorem dX7_wordsOf_9 : decode cX7_wordsOf 9 = .ok (.invokestatic 80, 3) := by decide +kernel
theorem dX7_wordsOf_12 : decode cX7_wordsOf 12 = .ok (.aload_n 0, 1) := by decide +kernel
theorem dX7_wordsOf_13 : decode cX7_wordsOf 13 = .ok (.getfield 7, 3) := by decide +kernel
theorem dX7_wordsOf_16 : decode cX7_wordsOf 16 = .ok (.iconst 3, 1) := by decide +kernel
theorem dX7_wordsOf_17 : decode cX7_wordsOf 17 = .ok (.iaload, 1) := by decide +kernel
theorem dX7_wordsOf_18 : decode cX7_wordsOf 18 = .ok (.if_icmp .le 9, 3) := by decide +kernel
theorem dX7_wordsOf_21 : decode cX7_wordsOf 21 = .ok (.iinc 2 (-1), 3) := by decide +kernel
theorem dX7_wordsOf_24 : decode cX7_wordsOf 24 = .ok (.goto (-21), 3) := by decide +kernel
theorem dX7_wordsOf_27 : decode cX7_wordsOf 27 = .ok (.iload_n 2, 1) := by decide +kernel
theorem dX7_wordsOf_28 : decode cX7_wordsOf 28 = .ok (.ireturn, 1) := by decide +kernel
theorem dX7_longest_0 : decode cX7_longest 0 = .ok (.iload_n 1, 1) := by decide +kernel
theorem dX7_longest_1 : decode cX7_longest 1 = .ok (.invokestatic 90, 3) := by decide +kernel
theorem dX7_longest_4 : decode cX7_longest 4 = .ok (.ifCond .ne 10, 3) := by decide +kernel
theorem dX7_longest_7 : decode cX7_longest 7 = .ok (.aload_n 0, 1) := by decide +kernel
theorem dX7_longest_8 : decode cX7_longest 8 = .ok (.ldc 44, 2) := by decide +kernel
theorem dX7_longest_10 : decode cX7_longest 10 = .ok (.invokevirtual 57, 3) := by decide +kernel
theorem dX7_longest_13 : decode cX7_longest 13 = .ok (.ireturn, 1) := by decide +kernel
theorem dX7_longest_14 : decode cX7_longest 14 = .ok (.aload_n 0, 1) := by decide +kernel
theorem dX7_longest_15 : decode cX7_longest 15 = .ok (.getfield 7, 3) := by decide +kernel
theorem dX7_longest_18 : decode cX7_longest 18 = .ok (.iconst 5, 1) := by decide +kernel
theorem dX7_longest_19 : decode cX7_longest 19 = .ok (.iaload, 1) := by decide +kernel
theorem dX7_longest_20 : decode cX7_longest 20 = .ok (.bipush 8, 2) := by decide +kernel
theorem dX7_longest_22 : decode cX7_longest 22 = .ok (.if_icmp .ne 10, 3) := by decide +kernel
theorem dX7_longest_25 : decode cX7_longest 25 = .ok (.aload_n 0, 1) := by decide +kernel
theorem dX7_longest_26 : decode cX7_longest 26 = .ok (.ldc 94, 2) := by decide +kernel
theorem dX7_longest_28 : decode cX7_longest 28 = .ok (.invokevirtual 57, 3) := by decide +kernel
theorem dX7_longest_31 : decode cX7_longest 31 = .ok (.ireturn, 1) := by decide +kernel
theorem dX7_longest_32 : decode cX7_longest 32 = .ok (.aload_n 0, 1) := by decide +kernel
theorem dX7_longest_33 : decode cX7_longest 33 = .ok (.iload_n 1, 1) := by decide +kernel
theorem dX7_longest_34 : decode cX7_longest 34 = .ok (.invokevirtual 125, 3) := by decide +kernel
theorem dX7_longest_37 : decode cX7_longest 37 = .ok (.ifCond .le 11, 3) := by decide +kernel
theorem dX7_longest_40 : decode cX7_longest 40 = .ok (.aload_n 0, 1) := by decide +kernel
theorem dX7_longest_41 : decode cX7_longest 41 = .ok (.iload_n 1, 1) := by decide +kernel
theorem dX7_longest_42 : decode cX7_longest 42 = .ok (.invokevirtual 125, 3) := by decide +kernel
theorem dX7_longest_45 : decode cX7_longest 45 = .ok (.goto 9, 3) := by decide +kernel
theorem dX7_longest_48 : decode cX7_longest 48 = .ok (.aload_n 0, 1) := by decide +kernel
theorem dX7_longest_49 : decode cX7_longest 49 = .ok (.ldc 124, 2) := by decide +kernel
theorem dX7_longest_51 : decode cX7_longest 51 = .ok (.invokevirtual 57, 3) := by decide +kernel
theorem dX7_longest_54 : decode cX7_longest 54 = .ok (.ireturn, 1) := by decide +kernel
theorem dX7_sunny_0 : decode cX7_sunny 0 = .ok (.iload_n 1, 1) := by decide +kernel
theorem dX7_sunny_1 : decode cX7_sunny 1 = .ok (.iconst 1, 1) := by decide +kernel
theorem dX7_sunny_2 : decode cX7_sunny 2 = .ok (.bipush 20, 2) := by decide +kernel
theorem dX7_sunny_4 : decode cX7_sunny 4 = .ok (.invokestatic 45, 3) := by decide +kernel
theorem dX7_sunny_7 : decode cX7_sunny 7 = .ok (.ifCond .eq 14, 3) := by decide +kernel
theorem dX7_sunny_10 : decode cX7_sunny 10 = .ok (.iload_n 2, 1) := by decide +kernel
theorem dX7_sunny_11 : decode cX7_sunny 11 = .ok (.iconst 0, 1) := by decide +kernel
theorem dX7_sunny_12 : decode cX7_sunny 12 = .ok (.sipush 9999, 3) := by decide +kernel
theorem dX7_sunny_15 : decode cX7_sunny 15 = .ok (.invokestatic 45, 3) := by decide +kernel
theorem dX7_sunny_18 : decode cX7_sunny 18 = .ok (.ifCond .ne 10, 3) := by decide +kernel
theorem dX7_sunny_21 : decode cX7_sunny 21 = .ok (.aload_n 0, 1) := by decide +kernel
theorem dX7_sunny_22 : decode cX7_sunny 22 = .ok (.ldc 44, 2) := by decide +kernel
theorem dX7_sunny_24 : decode cX7_sunny 24 = .ok (.invokevirtual 57, 3) := by decide +kernel
theorem dX7_sunny_27 : decode cX7_sunny 27 = .ok (.ireturn, 1) := by decide +kernel
theorem dX7_sunny_28 : decode cX7_sunny 28 = .ok (.iconst (-1), 1) := by decide +kernel
theorem dX7_sunny_29 : decode cX7_sunny 29 = .ok (.istore_n 3, 1) := by decide +kernel
theorem dX7_sunny_30 : decode cX7_sunny 30 = .ok (.aload_n 0, 1) := by decide +kernel
theorem dX7_sunny_31 : decode cX7_sunny 31 = .ok (.iconst 1, 1) := by decide +kernel
theorem dX7_sunny_32 : decode cX7_sunny 32 = .ok (.aload_n 0, 1) := by decide +kernel
theorem dX7_sunny_33 : decode cX7_sunny 33 = .ok (.getfield 16, 3) := by decide +kernel
theorem dX7_sunny_36 : decode cX7_sunny 36 = .ok (.invokevirtual 117, 3) := by decide +kernel
theorem dX7_sunny_39 : decode cX7_sunny 39 = .ok (.iconst 0, 1) := by decide +kernel
theorem dX7_sunny_40 : decode cX7_sunny 40 = .ok (.istore 4, 2) := by decide +kernel
theorem dX7_sunny_42 : decode cX7_sunny 42 = .ok (.iload 4, 2) := by decide +kernel
theorem dX7_sunny_44 : decode cX7_sunny 44 = .ok (.iconst 1, 1) := by decide +kernel
theorem dX7_sunny_45 : decode cX7_sunny 45 = .ok (.aload_n 0, 1) := by decide +kernel
theorem dX7_sunny_46 : decode cX7_sunny 46 = .ok (.getfield 7, 3) := by decide +kernel
theorem dX7_sunny_49 : decode cX7_sunny 49 = .ok (.iconst 5, 1) := by decide +kernel
theorem dX7_sunny_50 : decode cX7_sunny 50 = .ok (.iaload, 1) := by decide +kernel
theorem dX7_sunny_51 : decode cX7_sunny 51 = .ok (.ishl, 1) := by decide +kernel
theorem dX7_sunny_52 : decode cX7_sunny 52 = .ok (.if_icmp .ge 89, 3) := by decide +kernel
theorem dX7_sunny_55 : decode cX7_sunny 55 = .ok (.iconst 0, 1) := by decide +kernel
theorem dX7_sunny_56 : decode cX7_sunny 56 = .ok (.istore 5, 2) := by decide +kernel
theorem dX7_sunny_58 : decode cX7_sunny 58 = .ok (.iload 5, 2) := by decide +kernel
theorem dX7_sunny_60 : decode cX7_sunny 60 = .ok (.aload_n 0, 1) := by decide +kernel
theorem dX7_sunny_61 : decode cX7_sunny 61 = .ok (.getfield 7, 3) := by decide +kernel
theorem dX7_sunny_64 : decode cX7_sunny 64 = .ok (.iconst 5, 1) := by decide +kernel
theorem dX7_sunny_65 : decode cX7_sunny 65 = .ok (.iaload, 1) := by decide +kernel
theorem dX7_sunny_66 : decode cX7_sunny 66 = .ok (.if_icmp .ge 23, 3) := by decide +kernel
theorem dX7_sunny_69 : decode cX7_sunny 69 = .ok (.aload_n 0, 1) := by decide +kernel
theorem dX7_sunny_70 : decode cX7_sunny 70 = .ok (.iload 5, 2) := by decide +kernel
theorem dX7_sunny_72 : decode cX7_sunny 72 = .ok (.iconst 3, 1) := by decide +kernel
theorem dX7_sunny_73 : decode cX7_sunny 73 = .ok (.iload 4, 2) := by decide +kernel
theorem dX7_sunny_75 : decode cX7_sunny 75 = .ok (.iload 5, 2) := by decide +kernel
theorem dX7_sunny_77 : decode cX7_sunny 77 = .ok (.ishr, 1) := by decide +kernel
theorem dX7_sunny_78 : decode cX7_sunny 78 = .ok (.iconst 1, 1) := by decide +kernel
theorem dX7_sunny_79 : decode cX7_sunny 79 = .ok (.iand, 1) := by decide +kernel
theorem dX7_sunny_80 : decode cX7_sunny 80 = .ok (.invokevirtual 83, 3) := by decide +kernel
theorem dX7_sunny_83 : decode cX7_sunny 83 = .ok (.iinc 5 1, 3) := by decide +kernel
theorem dX7_sunny_86 : decode cX7_sunny 86 = .ok (.goto (-28), 3) := by decide +kernel
theorem dX7_sunny_89 : decode cX7_sunny 89 = .ok (.aload_n 0, 1) := by decide +kernel
theorem dX7_sunny_90 : decode cX7_sunny 90 = .ok (.iload_n 1, 1) := by decide +kernel
theorem dX7_sunny_91 : decode cX7_sunny 91 = .ok (.iconst 1, 1) := by decide +kernel
theorem dX7_sunny_92 : decode cX7_sunny 92 = .ok (.iconst 0, 1) := by decide +kernel
theorem dX7_sunny_93 : decode cX7_sunny 93 = .ok (.invokevirtual 121, 3) := by decide +kernel
theorem dX7_sunny_96 : decode cX7_sunny 96 = .ok (.iload_n 2, 1) := by decide +kernel
theorem dX7_sunny_97 : decode cX7_sunny 97 = .ok (.if_icmp .lt 7, 3) := by decide +kernel
theorem dX7_sunny_100 : decode cX7_sunny 100 = .ok (.iconst 1, 1) := by decide +kernel
theorem dX7_sunny_101 : decode cX7_sunny 101 = .ok (.goto 4, 3) := by decide +kernel
theorem dX7_sunny_104 : decode cX7_sunny 104 = .ok (.iconst 0, 1) := by decide +kernel
theorem dX7_sunny_105 : decode cX7_sunny 105 = .ok (.istore 5, 2) := by decide +kernel
theorem dX7_sunny_107 : decode cX7_sunny 107 = .ok (.iload 5, 2) := by decide +kernel
theorem dX7_sunny_109 : decode cX7_sunny 109 = .ok (.ifCond .eq 24, 3) := by decide +kernel
theorem dX7_sunny_112 : decode cX7_sunny 112 = .ok (.iload_n 3, 1) := by decide +kernel
theorem dX7_sunny_113 : decode cX7_sunny 113 = .ok (.ifCond .lt 15, 3) := by decide +kernel
theorem dX7_sunny_116 : decode cX7_sunny 116 = .ok (.iload 4, 2) := by decide +kernel
theorem dX7_sunny_118 : decode cX7_sunny 118 = .ok (.invokestatic 128, 3) := by decide +kernel
theorem dX7_sunny_121 : decode cX7_sunny 121 = .ok (.iload_n 3, 1) := by decide +kernel
theorem dX7_sunny_122 : decode cX7_sunny 122 = .ok (.invokestatic 128, 3) := by decide +kernel
theorem dX7_sunny_125 : decode cX7_sunny 125 = .ok (.if_icmp .le 8, 3) := by decide +kernel
theorem dX7_sunny_128 : decode cX7_sunny 128 = .ok (.iload 4, 2) := by decide +kernel
theorem dX7_sunny_130 : decode cX7_sunny 130 = .ok (.goto 4, 3) := by decide +kernel
theorem dX7_sunny_133 : decode cX7_sunny 133 = .ok (.iload_n 3, 1) := by decide +kernel
theorem dX7_sunny_134 : decode cX7_sunny 134 = .ok (.istore_n 3, 1) := by decide +kernel
theorem dX7_sunny_135 : decode cX7_sunny 135 = .ok (.iinc 4 1, 3) := by decide +kernel
theorem dX7_sunny_138 : decode cX7_sunny 138 = .ok (.goto (-96), 3) := by decide +kernel
theorem dX7_sunny_141 : decode cX7_sunny 141 = .ok (.iload_n 3, 1) := by decide +kernel
theorem dX7_sunny_142 : decode cX7_sunny 142 = .ok (.ifCond .ge 12, 3) := by decide +kernel
theorem dX7_sunny_145 : decode cX7_sunny 145 = .ok (.aload_n 0, 1) := by decide +kernel
theorem dX7_sunny_146 : decode cX7_sunny 146 = .ok (.ldc 124, 2) := by decide +kernel
theorem dX7_sunny_148 : decode cX7_sunny 148 = .ok (.invokevirtual 57, 3) := by decide +kernel
theorem dX7_sunny_151 : decode cX7_sunny 151 = .ok (.goto 4, 3) := by decide +kernel
theorem dX7_sunny_154 : decode cX7_sunny 154 = .ok (.iload_n 3, 1) := by decide +kernel
theorem dX7_sunny_155 : decode cX7_sunny 155 = .ok (.ireturn, 1) := by decide +kernel
theorem dX7_feed_0 : decode cX7_feed 0 = .ok (.iload_n 2, 1) := by decide +kernel
theorem dX7_feed_1 : decode cX7_feed 1 = .ok (.iconst 1, 1) := by decide +kernel
theorem dX7_feed_2 : decode cX7_feed 2 = .ok (.iconst 4, 1) := by decide +kernel
theorem dX7_feed_3 : decode cX7_feed 3 = .ok (.invokestatic 45, 3) := by decide +kernel
theorem dX7_feed_6 : decode cX7_feed 6 = .ok (.ifCond .ne 10, 3) := by decide +kernel
theorem dX7_feed_9 : decode cX7_feed 9 = .ok (.aload_n 0, 1) := by decide +kernel
theorem dX7_feed_10 : decode cX7_feed 10 = .ok (.ldc 44, 2) := by decide +kernel
theorem dX7_feed_12 : decode cX7_feed 12 = .ok (.invokevirtual 57, 3) := by decide +kernel
theorem dX7_feed_15 : decode cX7_feed 15 = .ok (.ireturn, 1) := by decide +kernel
theorem dX7_feed_16 : decode cX7_feed 16 = .ok (.aload_n 0, 1) := by decide +kernel
theorem dX7_feed_17 : decode cX7_feed 17 = .ok (.getfield 131, 3) := by decide +kernel
theorem dX7_feed_20 : decode cX7_feed 20 = .ok (.iload_n 2, 1) := by decide +kernel
theorem dX7_feed_21 : decode cX7_feed 21 = .ok (.iadd, 1) := by decide +kernel
theorem dX7_feed_22 : decode cX7_feed 22 = .ok (.bipush 120, 2) := by decide +kernel
theorem dX7_feed_24 : decode cX7_feed 24 = .ok (.if_icmp .le 10, 3) := by decide +kernel
theorem dX7_feed_27 : decode cX7_feed 27 = .ok (.aload_n 0, 1) := by decide +kernel
theorem dX7_feed_28 : decode cX7_feed 28 = .ok (.ldc 94, 2) := by decide +kernel
theorem dX7_feed_30 : decode cX7_feed 30 = .ok (.invokevirtual 57, 3) := by decide +kernel
theorem dX7_feed_33 : decode cX7_feed 33 = .ok (.ireturn, 1) := by decide +kernel
theorem dX7_feed_34 : decode cX7_feed 34 = .ok (.iload_n 2, 1) := by decide +kernel
theorem dX7_feed_35 : decode cX7_feed 35 = .ok (.iconst 1, 1) := by decide +kernel
theorem dX7_feed_36 : decode cX7_feed 36 = .ok (.isub, 1) := by decide +kernel
theorem dX7_feed_37 : decode cX7_feed 37 = .ok (.istore_n 3, 1) := by decide +kernel
theorem dX7_feed_38 : decode cX7_feed 38 = .ok (.iload_n 3, 1) := by decide +kernel
theorem dX7_feed_39 : decode cX7_feed 39 = .ok (.ifCond .lt 38, 3) := by decide +kernel
theorem dX7_feed_42 : decode cX7_feed 42 = .ok (.aload_n 0, 1) := by decide +kernel
theorem dX7_feed_43 : decode cX7_feed 43 = .ok (.getfield 22, 3) := by decide +kernel
theorem dX7_feed_46 : decode cX7_feed 46 = .ok (.aload_n 0, 1) := by decide +kernel
theorem dX7_feed_47 : decode cX7_feed 47 = .ok (.getfield 131, 3) := by decide +kernel
theorem dX7_feed_50 : decode cX7_feed 50 = .ok (.iload_n 1, 1) := by decide +kernel
theorem dX7_feed_51 : decode cX7_feed 51 = .ok (.bipush 8, 2) := by decide +kernel
theorem dX7_feed_53 : decode cX7_feed 53 = .ok (.iload_n 3, 1) := by decide +kernel
theorem dX7_feed_54 : decode cX7_feed 54 = .ok (.imul, 1) := by decide +kernel
theorem dX7_feed_55 : decode cX7_feed 55 = .ok (.ishr, 1) := by decide +kernel
theorem dX7_feed_56 : decode cX7_feed 56 = .ok (.sipush 255, 3) := by decide +kernel
theorem dX7_feed_59 : decode cX7_feed 59 = .ok (.iand, 1) := by decide +kernel
theorem dX7_feed_60 : decode cX7_feed 60 = .ok (.iastore, 1) := by decide +kernel
theorem dX7_feed_61 : decode cX7_feed 61 = .ok (.aload_n 0, 1) := by decide +kernel
theorem dX7_feed_62 : decode cX7_feed 62 = .ok (.dup, 1) := by decide +kernel
theorem dX7_feed_63 : decode cX7_feed 63 = .ok (.getfield 131, 3) := by decide +kernel
theorem dX7_feed_66 : decode cX7_feed 66 = .ok (.iconst 1, 1) := by decide +kernel
theorem dX7_feed_67 : decode cX7_feed 67 = .ok (.iadd, 1) := by decide +kernel
theorem dX7_feed_68 : decode cX7_feed 68 = .ok (.putfield 131, 3) := by decide +kernel
theorem dX7_feed_71 : decode cX7_feed 71 = .ok (.iinc 3 (-1), 3) := by decide +kernel
theorem dX7_feed_74 : decode cX7_feed 74 = .ok (.goto (-36), 3) := by decide +kernel
theorem dX7_feed_77 : decode cX7_feed 77 = .ok (.aload_n 0, 1) := by decide +kernel
theorem dX7_feed_78 : decode cX7_feed 78 = .ok (.getfield 131, 3) := by decide +kernel
theorem dX7_feed_81 : decode cX7_feed 81 = .ok (.ireturn, 1) := by decide +kernel
theorem dX7_wipe_0 : decode cX7_wipe 0 = .ok (.aload_n 0, 1) := by decide +kernel
theorem dX7_wipe_1 : decode cX7_wipe 1 = .ok (.getfield 131, 3) := by decide +kernel
theorem dX7_wipe_4 : decode cX7_wipe 4 = .ok (.istore_n 1, 1) := by decide +kernel
theorem dX7_wipe_5 : decode cX7_wipe 5 = .ok (.aload_n 0, 1) := by decide +kernel
theorem dX7_wipe_6 : decode cX7_wipe 6 = .ok (.iconst 0, 1) := by decide +kernel
theorem dX7_wipe_7 : decode cX7_wipe 7 = .ok (.putfield 131, 3) := by decide +kernel
theorem dX7_wipe_10 : decode cX7_wipe 10 = .ok (.iload_n 1, 1) := by decide +kernel
theorem dX7_wipe_11 : decode cX7_wipe 11 = .ok (.ireturn, 1) := by decide +kernel
theorem dX7_byteAt_0 : decode cX7_byteAt 0 = .ok (.iload_n 1, 1) := by decide +kernel
theorem dX7_byteAt_1 : decode cX7_byteAt 1 = .ok (.aload_n 0, 1) := by decide +kernel
theorem dX7_byteAt_2 : decode cX7_byteAt 2 = .ok (.getfield 131, 3) := by decide +kernel
theorem dX7_byteAt_5 : decode cX7_byteAt 5 = .ok (.if_icmp .ge 12, 3) := by decide +kernel
theorem dX7_byteAt_8 : decode cX7_byteAt 8 = .ok (.aload_n 0, 1) := by decide +kernel
theorem dX7_byteAt_9 : decode cX7_byteAt 9 = .ok (.getfield 22, 3) := by decide +kernel
theorem dX7_byteAt_12 : decode cX7_byteAt 12 = .ok (.iload_n 1, 1) := by decide +kernel
theorem dX7_byteAt_13 : decode cX7_byteAt 13 = .ok (.iaload, 1) := by decide +kernel
theorem dX7_byteAt_14 : decode cX7_byteAt 14 = .ok (.goto 4, 3) := by decide +kernel
theorem dX7_byteAt_17 : decode cX7_byteAt 17 = .ok (.iconst (-1), 1) := by decide +kernel
theorem dX7_byteAt_18 : decode cX7_byteAt 18 = .ok (.ireturn, 1) := by decide +kernel
theorem dX7_isLetter_0 : decode cX7_isLetter 0 = .ok (.iload_n 0, 1) := by decide +kernel
theorem dX7_isLetter_1 : decode cX7_isLetter 1 = .ok (.bipush 97, 2) := by decide +kernel
theorem dX7_isLetter_3 : decode cX7_isLetter 3 = .ok (.bipush 122, 2) := by decide +kernel
theorem dX7_isLetter_5 : decode cX7_isLetter 5 = .ok (.invokestatic 45, 3) := by decide +kernel
theorem dX7_isLetter_8 : decode cX7_isLetter 8 = .ok (.ireturn, 1) := by decide +kernel
theorem dX7_isDigit_0 : decode cX7_isDigit 0 = .ok (.iload_n 0, 1) := by decide +kernel
theorem dX7_isDigit_1 : decode cX7_isDigit 1 = .ok (.bipush 48, 2) := by decide +kernel
theorem dX7_isDigit_3 : decode cX7_isDigit 3 = .ok (.bipush 57, 2) := by decide +kernel
theorem dX7_isDigit_5 : decode cX7_isDigit 5 = .ok (.invokestatic 45, 3) := by decide +kernel
theorem dX7_isDigit_8 : decode cX7_isDigit 8 = .ok (.ireturn, 1) := by decide +kernel
theorem dX7_advance_0 : decode cX7_advance 0 = .ok (.aload_n 0, 1) := by decide +kernel
theorem dX7_advance_1 : decode cX7_advance 1 = .ok (.aload_n 0, 1) := by decide +kernel
theorem dX7_advance_2 : decode cX7_advance 2 = .ok (.getfield 135, 3) := by decide +kernel
theorem dX7_advance_5 : decode cX7_advance 5 = .ok (.putfield 138, 3) := by decide +kernel
theorem dX7_advance_8 : decode cX7_advance 8 = .ok (.aload_n 0, 1) := by decide +kernel
theorem dX7_advance_9 : decode cX7_advance 9 = .ok (.aload_n 0, 1) := by decide +kernel
theorem dX7_advance_10 : decode cX7_advance 10 = .ok (.getfield 138, 3) := by decide +kernel
theorem dX7_advance_13 : decode cX7_advance 13 = .ok (.invokevirtual 141, 3) := by decide +kernel
theorem dX7_advance_16 : decode cX7_advance 16 = .ok (.bipush 32, 2) := by decide +kernel
theorem dX7_advance_18 : decode cX7_advance 18 = .ok (.if_icmp .ne 16, 3) := by decide +kernel
theorem dX7_advance_21 : decode cX7_advance 21 = .ok (.aload_n 0, 1) := by decide +kernel
theorem dX7_advance_22 : decode cX7_advance 22 = .ok (.dup, 1) := by decide +kernel
theorem dX7_advance_23 : decode cX7_advance 23 = .ok (.getfield 138, 3) := by decide +kernel
theorem dX7_advance_26 : decode cX7_advance 26 = .ok (.iconst 1, 1) := by decide +kernel
theorem dX7_advance_27 : decode cX7_advance 27 = .ok (.iadd, 1) := by decide +kernel
theorem dX7_advance_28 : decode cX7_advance 28 = .ok (.putfield 138, 3) := by decide +kernel
theorem dX7_advance_31 : decode cX7_advance 31 = .ok (.goto (-23), 3) := by decide +kernel
theorem dX7_advance_34 : decode cX7_advance 34 = .ok (.aload_n 0, 1) := by decide +kernel
theorem dX7_advance_35 : decode cX7_advance 35 = .ok (.aload_n 0, 1) := by decide +kernel
theorem dX7_advance_36 : decode cX7_advance 36 = .ok (.getfield 138, 3) := by decide +kernel
theorem dX7_advance_39 : decode cX7_advance 39 = .ok (.putfield 135, 3) := by decide +kernel
theorem dX7_advance_42 : decode cX7_advance 42 = .ok (.aload_n 0, 1) := by decide +kernel
theorem dX7_advance_43 : decode cX7_advance 43 = .ok (.aload_n 0, 1) := by decide +kernel
theorem dX7_advance_44 : decode cX7_advance 44 = .ok (.getfield 138, 3) := by decide +kernel
theorem dX7_advance_47 : decode cX7_advance 47 = .ok (.invokevirtual 141, 3) := by decide +kernel
theorem dX7_advance_50 : decode cX7_advance 50 = .ok (.istore_n 1, 1) := by decide +kernel
theorem dX7_advance_51 : decode cX7_advance 51 = .ok (.aload_n 0, 1) := by decide +kernel
theorem dX7_advance_52 : decode cX7_advance 52 = .ok (.iload_n 1, 1) := by decide +kernel
theorem dX7_advance_53 : decode cX7_advance 53 = .ok (.ifCond .ge 7, 3) := by decide +kernel
theorem dX7_advance_56 : decode cX7_advance 56 = .ok (.iconst 0, 1) := by decide +kernel
theorem dX7_advance_57 : decode cX7_advance 57 = .ok (.goto 26, 3) := by decide +kernel
theorem dX7_advance_60 : decode cX7_advance 60 = .ok (.iload_n 1, 1) := by decide +kernel
theorem dX7_advance_61 : decode cX7_advance 61 = .ok (.invokestatic 144, 3) := by decide +kernel
theorem dX7_advance_64 : decode cX7_advance 64 = .ok (.ifCond .eq 7, 3) := by decide +kernel
theorem dX7_advance_67 : decode cX7_advance 67 = .ok (.iconst 1, 1) := by decide +kernel
theorem dX7_advance_68 : decode cX7_advance 68 = .ok (.goto 15, 3) := by decide +kernel
theorem dX7_advance_71 : decode cX7_advance 71 = .ok (.iload_n 1, 1) := by decide +kernel
theorem dX7_advance_72 : decode cX7_advance 72 = .ok (.invokestatic 147, 3) := by decide +kernel
theorem dX7_advance_75 : decode cX7_advance 75 = .ok (.ifCond .eq 7, 3) := by decide +kernel
theorem dX7_advance_78 : decode cX7_advance 78 = .ok (.iconst 2, 1) := by decide +kernel
theorem dX7_advance_79 : decode cX7_advance 79 = .ok (.goto 4, 3) := by decide +kernel
theorem dX7_advance_82 : decode cX7_advance 82 = .ok (.iconst 3, 1) := by decide +kernel
theorem dX7_advance_83 : decode cX7_advance 83 = .ok (.putfield 150, 3) := by decide +kernel
theorem dX7_advance_86 : decode cX7_advance 86 = .ok (.aload_n 0, 1) := by decide +kernel
theorem dX7_advance_87 : decode cX7_advance 87 = .ok (.lconst 0, 1) := by decide +kernel
theorem dX7_advance_88 : decode cX7_advance 88 = .ok (.putfield 153, 3) := by decide +kernel
theorem dX7_advance_91 : decode cX7_advance 91 = .ok (.aload_n 0, 1) := by decide +kernel
theorem dX7_advance_92 : decode cX7_advance 92 = .ok (.aload_n 0, 1) := by decide +kernel
theorem dX7_advance_93 : decode cX7_advance 93 = .ok (.getfield 150, 3) := by decide +kernel
theorem dX7_advance_96 : decode cX7_advance 96 = .ok (.iconst 2, 1) := by decide +kernel
theorem dX7_advance_97 : decode cX7_advance 97 = .ok (.if_icmp .ne 7, 3) := by decide +kernel
theorem dX7_advance_100 : decode cX7_advance 100 = .ok (.iconst 0, 1) := by decide +kernel
theorem dX7_advance_101 : decode cX7_advance 101 = .ok (.goto 4, 3) := by decide +kernel
theorem dX7_advance_104 : decode cX7_advance 104 = .ok (.iload_n 1, 1) := by decide +kernel
theorem dX7_advance_105 : decode cX7_advance 105 = .ok (.putfield 157, 3) := by decide +kernel
theorem dX7_advance_108 : decode cX7_advance 108 = .ok (.aload_n 0, 1) := by decide +kernel
theorem dX7_advance_109 : decode cX7_advance 109 = .ok (.getfield 150, 3) := by decide +kernel
theorem dX7_advance_112 : decode cX7_advance 112 = .ok (.iconst 3, 1) := by decide +kernel
theorem dX7_advance_113 : decode cX7_advance 113 = .ok (.if_icmp .ne 13, 3) := by decide +kernel
theorem dX7_advance_116 : decode cX7_advance 116 = .ok (.aload_n 0, 1) := by decide +kernel
theorem dX7_advance_117 : decode cX7_advance 117 = .ok (.dup, 1) := by decide +kernel
theorem dX7_advance_118 : decode cX7_advance 118 = .ok (.getfield 135, 3) := by decide +kernel
theorem dX7_advance_121 : decode cX7_advance 121 = .ok (.iconst 1, 1) := by decide +kernel
theorem dX7_advance_122 : decode cX7_advance 122 = .ok (.iadd, 1) := by decide +kernel
theorem dX7_advance_123 : decode cX7_advance 123 = .ok (.putfield 135, 3) := by decide +kernel
theorem dX7_advance_126 : decode cX7_advance 126 = .ok (.aload_n 0, 1) := by decide +kernel
theorem dX7_advance_127 : decode cX7_advance 127 = .ok (.getfield 150, 3) := by decide +kernel
theorem dX7_advance_130 : decode cX7_advance 130 = .ok (.iconst 1, 1) := by decide +kernel
theorem dX7_advance_131 : decode cX7_advance 131 = .ok (.if_icmp .ne 76, 3) := by decide +kernel
theorem dX7_advance_134 : decode cX7_advance 134 = .ok (.aload_n 0, 1) := by decide +kernel
theorem dX7_advance_135 : decode cX7_advance 135 = .ok (.aload_n 0, 1) := by decide +kernel
theorem dX7_advance_136 : decode cX7_advance 136 = .ok (.getfield 135, 3) := by decide +kernel
theorem dX7_advance_139 : decode cX7_advance 139 = .ok (.invokevirtual 141, 3) := by decide +kernel
theorem dX7_advance_142 : decode cX7_advance 142 = .ok (.invokestatic 144, 3) := by decide +kernel
theorem dX7_advance_145 : decode cX7_advance 145 = .ok (.ifCond .eq 62, 3) := by decide +kernel
theorem dX7_advance_148 : decode cX7_advance 148 = .ok (.aload_n 0, 1) := by decide +kernel
theorem dX7_advance_149 : decode cX7_advance 149 = .ok (.aload_n 0, 1) := by decide +kernel
theorem dX7_advance_150 : decode cX7_advance 150 = .ok (.getfield 135, 3) := by decide +kernel
theorem dX7_advance_153 : decode cX7_advance 153 = .ok (.aload_n 0, 1) := by decide +kernel
theorem dX7_advance_154 : decode cX7_advance 154 = .ok (.getfield 138, 3) := by decide +kernel
theorem dX7_advance_157 : decode cX7_advance 157 = .ok (.isub, 1) := by decide +kernel
theorem dX7_advance_158 : decode cX7_advance 158 = .ok (.bipush 12, 2) := by decide +kernel
theorem dX7_advance_160 : decode cX7_advance 160 = .ok (.if_icmp .ge 28, 3) := by decide +kernel
theorem dX7_advance_163 : decode cX7_advance 163 = .ok (.ldc2_w 160, 3) := by decide +kernel
theorem dX7_advance_166 : decode cX7_advance 166 = .ok (.aload_n 0, 1) := by decide +kernel
theorem dX7_advance_167 : decode cX7_advance 167 = .ok (.getfield 153, 3) := by decide +kernel
theorem dX7_advance_170 : decode cX7_advance 170 = .ok (.lmul, 1) := by decide +kernel
theorem dX7_advance_171 : decode cX7_advance 171 = .ok (.aload_n 0, 1) := by decide +kernel
theorem dX7_advance_172 : decode cX7_advance 172 = .ok (.aload_n 0, 1) := by decide +kernel
theorem dX7_advance_173 : decode cX7_advance 173 = .ok (.getfield 135, 3) := by decide +kernel
theorem dX7_advance_176 : decode cX7_advance 176 = .ok (.invokevirtual 141, 3) := by decide +kernel
theorem dX7_advance_179 : decode cX7_advance 179 = .ok (.i2l, 1) := by decide +kernel
theorem dX7_advance_180 : decode cX7_advance 180 = .ok (.ladd, 1) := by decide +kernel
theorem dX7_advance_181 : decode cX7_advance 181 = .ok (.ldc2_w 162, 3) := by decide +kernel
theorem dX7_advance_184 : decode cX7_advance 184 = .ok (.lsub, 1) := by decide +kernel
theorem dX7_advance_185 : decode cX7_advance 185 = .ok (.goto 6, 3) := by decide +kernel
theorem dX7_advance_188 : decode cX7_advance 188 = .ok (.ldc2_w 164, 3) := by decide +kernel
theorem dX7_advance_191 : decode cX7_advance 191 = .ok (.putfield 153, 3) := by decide +kernel
theorem dX7_advance_194 : decode cX7_advance 194 = .ok (.aload_n 0, 1) := by decide +kernel
theorem dX7_advance_195 : decode cX7_advance 195 = .ok (.dup, 1) := by decide +kernel
theorem dX7_advance_196 : decode cX7_advance 196 = .ok (.getfield 135, 3) := by decide +kernel
theorem dX7_advance_199 : decode cX7_advance 199 = .ok (.iconst 1, 1) := by decide +kernel
theorem dX7_advance_200 : decode cX7_advance 200 = .ok (.iadd, 1) := by decide +kernel
theorem dX7_advance_201 : decode cX7_advance 201 = .ok (.putfield 135, 3) := by decide +kernel
theorem dX7_advance_204 : decode cX7_advance 204 = .ok (.goto (-78), 3) := by decide +kernel
theorem dX7_advance_207 : decode cX7_advance 207 = .ok (.aload_n 0, 1) := by decide +kernel
theorem dX7_advance_208 : decode cX7_advance 208 = .ok (.getfield 150, 3) := by decide +kernel
theorem dX7_advance_211 : decode cX7_advance 211 = .ok (.iconst 2, 1) := by decide +kernel
theorem dX7_advance_212 : decode cX7_advance 212 = .ok (.if_icmp .ne 69, 3) := by decide +kernel
theorem dX7_advance_215 : decode cX7_advance 215 = .ok (.aload_n 0, 1) := by decide +kernel
theorem dX7_advance_216 : decode cX7_advance 216 = .ok (.aload_n 0, 1) := by decide +kernel
theorem dX7_advance_217 : decode cX7_advance 217 = .ok (.getfield 135, 3) := by decide +kernel
theorem dX7_advance_220 : decode cX7_advance 220 = .ok (.invokevirtual 141, 3) := by decide +kernel
theorem dX7_advance_223 : decode cX7_advance 223 = .ok (.invokestatic 147, 3) := by decide +kernel
theorem dX7_advance_226 : decode cX7_advance 226 = .ok (.ifCond .eq 55, 3) := by decide +kernel
theorem dX7_advance_229 : decode cX7_advance 229 = .ok (.aload_n 0, 1) := by decide +kernel
theorem dX7_advance_230 : decode cX7_advance 230 = .ok (.aload_n 0, 1) := by decide +kernel
theorem dX7_advance_231 : decode cX7_advance 231 = .ok (.getfield 157, 3) := by decide +kernel
theorem dX7_advance_234 : decode cX7_advance 234 = .ok (.sipush 999, 3) := by decide +kernel
theorem dX7_advance_237 : decode cX7_advance 237 = .ok (.if_icmp .le 9, 3) := by decide +kernel
theorem dX7_advance_240 : decode cX7_advance 240 = .ok (.sipush 10000, 3) := by decide +kernel
theorem dX7_advance_243 : decode cX7_advance 243 = .ok (.goto 22, 3) := by decide +kernel
theorem dX7_advance_246 : decode cX7_advance 246 = .ok (.bipush 10, 2) := by decide +kernel
theorem dX7_advance_248 : decode cX7_advance 248 = .ok (.aload_n 0, 1) := by decide +kernel
theorem dX7_advance_249 : decode cX7_advance 249 = .ok (.getfield 157, 3) := by decide +kernel
theorem dX7_advance_252 : decode cX7_advance 252 = .ok (.imul, 1) := by decide +kernel
theorem dX7_advance_253 : decode cX7_advance 253 = .ok (.aload_n 0, 1) := by decide +kernel
theorem dX7_advance_254 : decode cX7_advance 254 = .ok (.aload_n 0, 1) := by decide +kernel
theorem dX7_advance_255 : decode cX7_advance 255 = .ok (.getfield 135, 3) := by decide +kernel
theorem dX7_advance_258 : decode cX7_advance 258 = .ok (.invokevirtual 141, 3) := by decide +kernel
theorem dX7_advance_261 : decode cX7_advance 261 = .ok (.iadd, 1) := by decide +kernel
theorem dX7_advance_262 : decode cX7_advance 262 = .ok (.bipush 48, 2) := by decide +kernel
theorem dX7_advance_264 : decode cX7_advance 264 = .ok (.isub, 1) := by decide +kernel
theorem dX7_advance_265 : decode cX7_advance 265 = .ok (.putfield 157, 3) := by decide +kernel
theorem dX7_advance_268 : decode cX7_advance 268 = .ok (.aload_n 0, 1) := by decide +kernel
theorem dX7_advance_269 : decode cX7_advance 269 = .ok (.dup, 1) := by decide +kernel
theorem dX7_advance_270 : decode cX7_advance 270 = .ok (.getfield 135, 3) := by decide +kernel
theorem dX7_advance_273 : decode cX7_advance 273 = .ok (.iconst 1, 1) := by decide +kernel
theorem dX7_advance_274 : decode cX7_advance 274 = .ok (.iadd, 1) := by decide +kernel
theorem dX7_advance_275 : decode cX7_advance 275 = .ok (.putfield 135, 3) := by decide +kernel
theorem dX7_advance_278 : decode cX7_advance 278 = .ok (.goto (-71), 3) := by decide +kernel
theorem dX7_advance_281 : decode cX7_advance 281 = .ok (.return_, 1) := by decide +kernel
theorem dX7_isWord_0 : decode cX7_isWord 0 = .ok (.aload_n 0, 1) := by decide +kernel
theorem dX7_isWord_1 : decode cX7_isWord 1 = .ok (.getfield 150, 3) := by decide +kernel
theorem dX7_isWord_4 : decode cX7_isWord 4 = .ok (.iconst 1, 1) := by decide +kernel
theorem dX7_isWord_5 : decode cX7_isWord 5 = .ok (.if_icmp .ne 16, 3) := by decide +kernel
theorem dX7_isWord_8 : decode cX7_isWord 8 = .ok (.aload_n 0, 1) := by decide +kernel
theorem dX7_isWord_9 : decode cX7_isWord 9 = .ok (.getfield 153, 3) := by decide +kernel
theorem dX7_isWord_12 : decode cX7_isWord 12 = .ok (.lload_n 1, 1) := by decide +kernel
theorem dX7_isWord_13 : decode cX7_isWord 13 = .ok (.lcmp, 1) := by decide +kernel
theorem dX7_isWord_14 : decode cX7_isWord 14 = .ok (.ifCond .ne 7, 3) := by decide +kernel
theorem dX7_isWord_17 : decode cX7_isWord 17 = .ok (.iconst 1, 1) := by decide +kernel
theorem dX7_isWord_18 : decode cX7_isWord 18 = .ok (.goto 4, 3) := by decide +kernel
theorem dX7_isWord_21 : decode cX7_isWord 21 = .ok (.iconst 0, 1) := by decide +kernel
theorem dX7_isWord_22 : decode cX7_isWord 22 = .ok (.ireturn, 1) := by decide +kernel
theorem dX7_kindHere_0 : decode cX7_kindHere 0 = .ok (.aload_n 0, 1) := by decide +kernel
theorem dX7_kindHere_1 : decode cX7_kindHere 1 = .ok (.ldc2_w 166, 3) := by decide +kernel
theorem dX7_kindHere_4 : decode cX7_kindHere 4 = .ok (.invokevirtual 168, 3) := by decide +kernel
theorem dX7_kindHere_7 : decode cX7_kindHere 7 = .ok (.ifCond .eq 7, 3) := by decide +kernel
theorem dX7_kindHere_10 : decode cX7_kindHere 10 = .ok (.iconst 0, 1) := by decide +kernel
theorem dX7_kindHere_11 : decode cX7_kindHere 11 = .ok (.goto 74, 3) := by decide +kernel
theorem dX7_kindHere_14 : decode cX7_kindHere 14 = .ok (.aload_n 0, 1) := by decide +kernel
theorem dX7_kindHere_15 : decode cX7_kindHere 15 = .ok (.ldc2_w 172, 3) := by decide +kernel
theorem dX7_kindHere_18 : decode cX7_kindHere 18 = .ok (.invokevirtual 168, 3) := by decide +kernel
theorem dX7_kindHere_21 : decode cX7_kindHere 21 = .ok (.ifCond .eq 7, 3) := by decide +kernel
theorem dX7_kindHere_24 : decode cX7_kindHere 24 = .ok (.iconst 1, 1) := by decide +kernel
theorem dX7_kindHere_25 : decode cX7_kindHere 25 = .ok (.goto 60, 3) := by decide +kernel
theorem dX7_kindHere_28 : decode cX7_kindHere 28 = .ok (.aload_n 0, 1) := by decide +kernel
theorem dX7_kindHere_29 : decode cX7_kindHere 29 = .ok (.ldc2_w 174, 3) := by decide +kernel
theorem dX7_kindHere_32 : decode cX7_kindHere 32 = .ok (.invokevirtual 168, 3) := by decide +kernel
theorem dX7_kindHere_35 : decode cX7_kindHere 35 = .ok (.ifCond .eq 7, 3) := by decide +kernel
theorem dX7_kindHere_38 : decode cX7_kindHere 38 = .ok (.iconst 2, 1) := by decide +kernel
theorem dX7_kindHere_39 : decode cX7_kindHere 39 = .ok (.goto 46, 3) := by decide +kernel
theorem dX7_kindHere_42 : decode cX7_kindHere 42 = .ok (.aload_n 0, 1) := by decide +kernel
theorem dX7_kindHere_43 : decode cX7_kindHere 43 = .ok (.ldc2_w 176, 3) := by decide +kernel
theorem dX7_kindHere_46 : decode cX7_kindHere 46 = .ok (.invokevirtual 168, 3) := by decide +kernel
theorem dX7_kindHere_49 : decode cX7_kindHere 49 = .ok (.ifCond .eq 7, 3) := by decide +kernel
theorem dX7_kindHere_52 : decode cX7_kindHere 52 = .ok (.iconst 3, 1) := by decide +kernel
theorem dX7_kindHere_53 : decode cX7_kindHere 53 = .ok (.goto 32, 3) := by decide +kernel
theorem dX7_kindHere_56 : decode cX7_kindHere 56 = .ok (.aload_n 0, 1) := by decide +kernel
theorem dX7_kindHere_57 : decode cX7_kindHere 57 = .ok (.ldc2_w 178, 3) := by decide +kernel
theorem dX7_kindHere_60 : decode cX7_kindHere 60 = .ok (.invokevirtual 168, 3) := by decide +kernel
theorem dX7_kindHere_63 : decode cX7_kindHere 63 = .ok (.ifCond .eq 7, 3) := by decide +kernel
theorem dX7_kindHere_66 : decode cX7_kindHere 66 = .ok (.iconst 4, 1) := by decide +kernel
theorem dX7_kindHere_67 : decode cX7_kindHere 67 = .ok (.goto 18, 3) := by decide +kernel
theorem dX7_kindHere_70 : decode cX7_kindHere 70 = .ok (.aload_n 0, 1) := by decide +kernel
theorem dX7_kindHere_71 : decode cX7_kindHere 71 = .ok (.ldc2_w 180, 3) := by decide +kernel
theorem dX7_kindHere_74 : decode cX7_kindHere 74 = .ok (.invokevirtual 168, 3) := by decide +kernel
theorem dX7_kindHere_77 : decode cX7_kindHere 77 = .ok (.ifCond .eq 7, 3) := by decide +kernel
theorem dX7_kindHere_80 : decode cX7_kindHere 80 = .ok (.iconst 5, 1) := by decide +kernel
theorem dX7_kindHere_81 : decode cX7_kindHere 81 = .ok (.goto 4, 3) := by decide +kernel
theorem dX7_kindHere_84 : decode cX7_kindHere 84 = .ok (.iconst (-1), 1) := by decide +kernel
theorem dX7_kindHere_85 : decode cX7_kindHere 85 = .ok (.ireturn, 1) := by decide +kernel
theorem dX7_wantNumber_0 : decode cX7_wantNumber 0 = .ok (.aload_n 0, 1) := by decide +kernel
theorem dX7_wantNumber_1 : decode cX7_wantNumber 1 = .ok (.getfield 157, 3) := by decide +kernel
theorem dX7_wantNumber_4 : decode cX7_wantNumber 4 = .ok (.istore_n 3, 1) := by decide +kernel
theorem dX7_wantNumber_5 : decode cX7_wantNumber 5 = .ok (.aload_n 0, 1) := by decide +kernel
theorem dX7_wantNumber_6 : decode cX7_wantNumber 6 = .ok (.aload_n 0, 1) := by decide +kernel
theorem dX7_wantNumber_7 : decode cX7_wantNumber 7 = .ok (.getfield 182, 3) := by decide +kernel
theorem dX7_wantNumber_10 : decode cX7_wantNumber 10 = .ok (.ifCond .eq 24, 3) := by decide +kernel
theorem dX7_wantNumber_13 : decode cX7_wantNumber 13 = .ok (.aload_n 0, 1) := by decide +kernel
theorem dX7_wantNumber_14 : decode cX7_wantNumber 14 = .ok (.getfield 150, 3) := by decide +kernel
theorem dX7_wantNumber_17 : decode cX7_wantNumber 17 = .ok (.iconst 2, 1) := by decide +kernel
theorem dX7_wantNumber_18 : decode cX7_wantNumber 18 = .ok (.if_icmp .ne 16, 3) := by decide +kernel
theorem dX7_wantNumber_21 : decode cX7_wantNumber 21 = .ok (.iload_n 3, 1) := by decide +kernel
theorem dX7_wantNumber_22 : decode cX7_wantNumber 22 = .ok (.iload_n 1, 1) := by decide +kernel
theorem dX7_wantNumber_23 : decode cX7_wantNumber 23 = .ok (.iload_n 2, 1) := by decide +kernel
theorem dX7_wantNumber_24 : decode cX7_wantNumber 24 = .ok (.invokestatic 45, 3) := by decide +kernel
theorem dX7_wantNumber_27 : decode cX7_wantNumber 27 = .ok (.ifCond .eq 7, 3) := by decide +kernel
theorem dX7_wantNumber_30 : decode cX7_wantNumber 30 = .ok (.iconst 1, 1) := by decide +kernel
theorem dX7_wantNumber_31 : decode cX7_wantNumber 31 = .ok (.goto 4, 3) := by decide +kernel
theorem dX7_wantNumber_34 : decode cX7_wantNumber 34 = .ok (.iconst 0, 1) := by decide +kernel
theorem dX7_wantNumber_35 : decode cX7_wantNumber 35 = .ok (.putfield 182, 3) := by decide +kernel
theorem dX7_wantNumber_38 : decode cX7_wantNumber 38 = .ok (.aload_n 0, 1) := by decide +kernel
theorem dX7_wantNumber_39 : decode cX7_wantNumber 39 = .ok (.getfield 182, 3) := by decide +kernel
theorem dX7_wantNumber_42 : decode cX7_wantNumber 42 = .ok (.ifCond .eq 7, 3) := by decide +kernel
theorem dX7_wantNumber_45 : decode cX7_wantNumber 45 = .ok (.aload_n 0, 1) := by decide +kernel
theorem dX7_wantNumber_46 : decode cX7_wantNumber 46 = .ok (.invokevirtual 186, 3) := by decide +kernel
theorem dX7_wantNumber_49 : decode cX7_wantNumber 49 = .ok (.iload_n 3, 1) := by decide +kernel
theorem dX7_wantNumber_50 : decode cX7_wantNumber 50 = .ok (.ireturn, 1) := by decide +kernel
theorem dX7_wantOne_0 : decode cX7_wantOne 0 = .ok (.aload_n 0, 1) := by decide +kernel
theorem dX7_wantOne_1 : decode cX7_wantOne 1 = .ok (.aload_n 0, 1) := by decide +kernel
theorem dX7_wantOne_2 : decode cX7_wantOne 2 = .ok (.getfield 7, 3) := by decide +kernel
theorem dX7_wantOne_5 : decode cX7_wantOne 5 = .ok (.iconst 5, 1) := by decide +kernel
theorem dX7_wantOne_6 : decode cX7_wantOne 6 = .ok (.iaload, 1) := by decide +kernel
theorem dX7_wantOne_7 : decode cX7_wantOne 7 = .ok (.bipush 8, 2) := by decide +kernel
theorem dX7_wantOne_9 : decode cX7_wantOne 9 = .ok (.if_icmp .ge 7, 3) := by decide +kernel
theorem dX7_wantOne_12 : decode cX7_wantOne 12 = .ok (.iconst 1, 1) := by decide +kernel
theorem dX7_wantOne_13 : decode cX7_wantOne 13 = .ok (.goto 4, 3) := by decide +kernel
theorem dX7_wantOne_16 : decode cX7_wantOne 16 = .ok (.iconst 0, 1) := by decide +kernel
theorem dX7_wantOne_17 : decode cX7_wantOne 17 = .ok (.putfield 182, 3) := by decide +kernel
theorem dX7_wantOne_20 : decode cX7_wantOne 20 = .ok (.aload_n 0, 1) := by decide +kernel
theorem dX7_wantOne_21 : decode cX7_wantOne 21 = .ok (.getfield 182, 3) := by decide +kernel
theorem dX7_wantOne_24 : decode cX7_wantOne 24 = .ok (.ifCond .ne 4, 3) := by decide +kernel
theorem dX7_wantOne_27 : decode cX7_wantOne 27 = .ok (.return_, 1) := by decide +kernel
theorem dX7_wantOne_28 : decode cX7_wantOne 28 = .ok (.aload_n 0, 1) := by decide +kernel
theorem dX7_wantOne_29 : decode cX7_wantOne 29 = .ok (.invokevirtual 186, 3) := by decide +kernel
theorem dX7_wantOne_32 : decode cX7_wantOne 32 = .ok (.aload_n 0, 1) := by decide +kernel
theorem dX7_wantOne_33 : decode cX7_wantOne 33 = .ok (.iconst 1, 1) := by decide +kernel
theorem dX7_wantOne_34 : decode cX7_wantOne 34 = .ok (.aload_n 0, 1) := by decide +kernel
theorem dX7_wantOne_35 : decode cX7_wantOne 35 = .ok (.iload_n 1, 1) := by decide +kernel
theorem dX7_wantOne_36 : decode cX7_wantOne 36 = .ok (.invokevirtual 125, 3) := by decide +kernel
theorem dX7_wantOne_39 : decode cX7_wantOne 39 = .ok (.invokevirtual 189, 3) := by decide +kernel
theorem dX7_wantOne_42 : decode cX7_wantOne 42 = .ok (.istore_n 2, 1) := by decide +kernel
theorem dX7_wantOne_43 : decode cX7_wantOne 43 = .ok (.iconst 0, 1) := by decide +kernel
theorem dX7_wantOne_44 : decode cX7_wantOne 44 = .ok (.istore_n 3, 1) := by decide +kernel
theorem dX7_wantOne_45 : decode cX7_wantOne 45 = .ok (.aload_n 0, 1) := by decide +kernel
theorem dX7_wantOne_46 : decode cX7_wantOne 46 = .ok (.getfield 182, 3) := by decide +kernel
theorem dX7_wantOne_49 : decode cX7_wantOne 49 = .ok (.ifCond .eq 19, 3) := by decide +kernel
theorem dX7_wantOne_52 : decode cX7_wantOne 52 = .ok (.aload_n 0, 1) := by decide +kernel
theorem dX7_wantOne_53 : decode cX7_wantOne 53 = .ok (.ldc2_w 192, 3) := by decide +kernel
theorem dX7_wantOne_56 : decode cX7_wantOne 56 = .ok (.invokevirtual 168, 3) := by decide +kernel
theorem dX7_wantOne_59 : decode cX7_wantOne 59 = .ok (.ifCond .eq 9, 3) := by decide +kernel
theorem dX7_wantOne_62 : decode cX7_wantOne 62 = .ok (.aload_n 0, 1) := by decide +kernel
theorem dX7_wantOne_63 : decode cX7_wantOne 63 = .ok (.invokevirtual 186, 3) := by decide +kernel
theorem dX7_wantOne_66 : decode cX7_wantOne 66 = .ok (.iconst 1, 1) := by decide +kernel
theorem dX7_wantOne_67 : decode cX7_wantOne 67 = .ok (.istore_n 3, 1) := by decide +kernel
theorem dX7_wantOne_68 : decode cX7_wantOne 68 = .ok (.aload_n 0, 1) := by decide +kernel
theorem dX7_wantOne_69 : decode cX7_wantOne 69 = .ok (.getfield 182, 3) := by decide +kernel
theorem dX7_wantOne_72 : decode cX7_wantOne 72 = .ok (.ifCond .eq 10, 3) := by decide +kernel
theorem dX7_wantOne_75 : decode cX7_wantOne 75 = .ok (.aload_n 0, 1) := by decide +kernel
theorem dX7_wantOne_76 : decode cX7_wantOne 76 = .ok (.iload_n 1, 1) := by decide +kernel
theorem dX7_wantOne_77 : decode cX7_wantOne 77 = .ok (.iload_n 2, 1) := by decide +kernel
theorem dX7_wantOne_78 : decode cX7_wantOne 78 = .ok (.iload_n 3, 1) := by decide +kernel
theorem dX7_wantOne_79 : decode cX7_wantOne 79 = .ok (.invokevirtual 96, 3) := by decide +kernel
theorem dX7_wantOne_82 : decode cX7_wantOne 82 = .ok (.return_, 1) := by decide +kernel
theorem dX7_wantJar_0 : decode cX7_wantJar 0 = .ok (.aload_n 0, 1) := by decide +kernel
theorem dX7_wantJar_1 : decode cX7_wantJar 1 = .ok (.invokevirtual 186, 3) := by decide +kernel
theorem dX7_wantJar_4 : decode cX7_wantJar 4 = .ok (.aload_n 0, 1) := by decide +kernel
theorem dX7_wantJar_5 : decode cX7_wantJar 5 = .ok (.iconst 0, 1) := by decide +kernel
theorem dX7_wantJar_6 : decode cX7_wantJar 6 = .ok (.iload_n 2, 1) := by decide +kernel
theorem dX7_wantJar_7 : decode cX7_wantJar 7 = .ok (.invokevirtual 189, 3) := by decide +kernel
theorem dX7_wantJar_10 : decode cX7_wantJar 10 = .ok (.istore_n 3, 1) := by decide +kernel
theorem dX7_wantJar_11 : decode cX7_wantJar 11 = .ok (.aload_n 0, 1) := by decide +kernel
theorem dX7_wantJar_12 : decode cX7_wantJar 12 = .ok (.getfield 7, 3) := by decide +kernel
theorem dX7_wantJar_15 : decode cX7_wantJar 15 = .ok (.iload_n 1, 1) := by decide +kernel
theorem dX7_wantJar_16 : decode cX7_wantJar 16 = .ok (.aload_n 0, 1) := by decide +kernel
theorem dX7_wantJar_17 : decode cX7_wantJar 17 = .ok (.getfield 182, 3) := by decide +kernel
theorem dX7_wantJar_20 : decode cX7_wantJar 20 = .ok (.ifCond .eq 7, 3) := by decide +kernel
theorem dX7_wantJar_23 : decode cX7_wantJar 23 = .ok (.iload_n 3, 1) := by decide +kernel
theorem dX7_wantJar_24 : decode cX7_wantJar 24 = .ok (.goto 9, 3) := by decide +kernel
theorem dX7_wantJar_27 : decode cX7_wantJar 27 = .ok (.aload_n 0, 1) := by decide +kernel
theorem dX7_wantJar_28 : decode cX7_wantJar 28 = .ok (.getfield 7, 3) := by decide +kernel
theorem dX7_wantJar_31 : decode cX7_wantJar 31 = .ok (.iload_n 1, 1) := by decide +kernel
theorem dX7_wantJar_32 : decode cX7_wantJar 32 = .ok (.iaload, 1) := by decide +kernel
theorem dX7_wantJar_33 : decode cX7_wantJar 33 = .ok (.iastore, 1) := by decide +kernel
theorem dX7_wantJar_34 : decode cX7_wantJar 34 = .ok (.return_, 1) := by decide +kernel
theorem dX7_wantItem_0 : decode cX7_wantItem 0 = .ok (.aload_n 0, 1) := by decide +kernel
theorem dX7_wantItem_1 : decode cX7_wantItem 1 = .ok (.invokevirtual 194, 3) := by decide +kernel
theorem dX7_wantItem_4 : decode cX7_wantItem 4 = .ok (.ifCond .lt 14, 3) := by decide +kernel
theorem dX7_wantItem_7 : decode cX7_wantItem 7 = .ok (.aload_n 0, 1) := by decide +kernel
theorem dX7_wantItem_8 : decode cX7_wantItem 8 = .ok (.aload_n 0, 1) := by decide +kernel
theorem dX7_wantItem_9 : decode cX7_wantItem 9 = .ok (.invokevirtual 194, 3) := by decide +kernel
theorem dX7_wantItem_12 : decode cX7_wantItem 12 = .ok (.invokevirtual 197, 3) := by decide +kernel
theorem dX7_wantItem_15 : decode cX7_wantItem 15 = .ok (.goto 130, 3) := by decide +kernel
theorem dX7_wantItem_18 : decode cX7_wantItem 18 = .ok (.aload_n 0, 1) := by decide +kernel
theorem dX7_wantItem_19 : decode cX7_wantItem 19 = .ok (.ldc2_w 200, 3) := by decide +kernel
theorem dX7_wantItem_22 : decode cX7_wantItem 22 = .ok (.invokevirtual 168, 3) := by decide +kernel
theorem dX7_wantItem_25 : decode cX7_wantItem 25 = .ok (.ifCond .eq 14, 3) := by decide +kernel
theorem dX7_wantItem_28 : decode cX7_wantItem 28 = .ok (.aload_n 0, 1) := by decide +kernel
theorem dX7_wantItem_29 : decode cX7_wantItem 29 = .ok (.iconst 3, 1) := by decide +kernel
theorem dX7_wantItem_30 : decode cX7_wantItem 30 = .ok (.sipush 999, 3) := by decide +kernel
theorem dX7_wantItem_33 : decode cX7_wantItem 33 = .ok (.invokevirtual 202, 3) := by decide +kernel
theorem dX7_wantItem_36 : decode cX7_wantItem 36 = .ok (.goto 109, 3) := by decide +kernel
theorem dX7_wantItem_39 : decode cX7_wantItem 39 = .ok (.aload_n 0, 1) := by decide +kernel
theorem dX7_wantItem_40 : decode cX7_wantItem 40 = .ok (.ldc2_w 206, 3) := by decide +kernel
theorem dX7_wantItem_43 : decode cX7_wantItem 43 = .ok (.invokevirtual 168, 3) := by decide +kernel
theorem dX7_wantItem_46 : decode cX7_wantItem 46 = .ok (.ifCond .eq 13, 3) := by decide +kernel
theorem dX7_wantItem_49 : decode cX7_wantItem 49 = .ok (.aload_n 0, 1) := by decide +kernel
theorem dX7_wantItem_50 : decode cX7_wantItem 50 = .ok (.iconst 1, 1) := by decide +kernel
theorem dX7_wantItem_51 : decode cX7_wantItem 51 = .ok (.bipush 9, 2) := by decide +kernel
theorem dX7_wantItem_53 : decode cX7_wantItem 53 = .ok (.invokevirtual 202, 3) := by decide +kernel
theorem dX7_wantItem_56 : decode cX7_wantItem 56 = .ok (.goto 89, 3) := by decide +kernel
theorem dX7_wantItem_59 : decode cX7_wantItem 59 = .ok (.aload_n 0, 1) := by decide +kernel
theorem dX7_wantItem_60 : decode cX7_wantItem 60 = .ok (.ldc2_w 208, 3) := by decide +kernel
theorem dX7_wantItem_63 : decode cX7_wantItem 63 = .ok (.invokevirtual 168, 3) := by decide +kernel
theorem dX7_wantItem_66 : decode cX7_wantItem 66 = .ok (.ifCond .eq 13, 3) := by decide +kernel
theorem dX7_wantItem_69 : decode cX7_wantItem 69 = .ok (.aload_n 0, 1) := by decide +kernel
theorem dX7_wantItem_70 : decode cX7_wantItem 70 = .ok (.iconst 4, 1) := by decide +kernel
theorem dX7_wantItem_71 : decode cX7_wantItem 71 = .ok (.bipush 9, 2) := by decide +kernel
theorem dX7_wantItem_73 : decode cX7_wantItem 73 = .ok (.invokevirtual 202, 3) := by decide +kernel
theorem dX7_wantItem_76 : decode cX7_wantItem 76 = .ok (.goto 69, 3) := by decide +kernel
theorem dX7_wantItem_79 : decode cX7_wantItem 79 = .ok (.aload_n 0, 1) := by decide +kernel
theorem dX7_wantItem_80 : decode cX7_wantItem 80 = .ok (.ldc2_w 210, 3) := by decide +kernel
theorem dX7_wantItem_83 : decode cX7_wantItem 83 = .ok (.invokevirtual 168, 3) := by decide +kernel
theorem dX7_wantItem_86 : decode cX7_wantItem 86 = .ok (.ifCond .eq 54, 3) := by decide +kernel
theorem dX7_wantItem_89 : decode cX7_wantItem 89 = .ok (.aload_n 0, 1) := by decide +kernel
theorem dX7_wantItem_90 : decode cX7_wantItem 90 = .ok (.invokevirtual 186, 3) := by decide +kernel
theorem dX7_wantItem_93 : decode cX7_wantItem 93 = .ok (.aload_n 0, 1) := by decide +kernel
theorem dX7_wantItem_94 : decode cX7_wantItem 94 = .ok (.iconst 0, 1) := by decide +kernel
theorem dX7_wantItem_95 : decode cX7_wantItem 95 = .ok (.bipush 11, 2) := by decide +kernel
theorem dX7_wantItem_97 : decode cX7_wantItem 97 = .ok (.invokevirtual 189, 3) := by decide +kernel
theorem dX7_wantItem_100 : decode cX7_wantItem 100 = .ok (.istore_n 1, 1) := by decide +kernel
theorem dX7_wantItem_101 : decode cX7_wantItem 101 = .ok (.aload_n 0, 1) := by decide +kernel
theorem dX7_wantItem_102 : decode cX7_wantItem 102 = .ok (.getfield 182, 3) := by decide +kernel
theorem dX7_wantItem_105 : decode cX7_wantItem 105 = .ok (.ifCond .eq 13, 3) := by decide +kernel
theorem dX7_wantItem_108 : decode cX7_wantItem 108 = .ok (.aload_n 0, 1) := by decide +kernel
theorem dX7_wantItem_109 : decode cX7_wantItem 109 = .ok (.iconst 0, 1) := by decide +kernel
theorem dX7_wantItem_110 : decode cX7_wantItem 110 = .ok (.bipush 20, 2) := by decide +kernel
theorem dX7_wantItem_112 : decode cX7_wantItem 112 = .ok (.invokevirtual 189, 3) := by decide +kernel
theorem dX7_wantItem_115 : decode cX7_wantItem 115 = .ok (.goto 4, 3) := by decide +kernel
theorem dX7_wantItem_118 : decode cX7_wantItem 118 = .ok (.iconst 0, 1) := by decide +kernel
theorem dX7_wantItem_119 : decode cX7_wantItem 119 = .ok (.istore_n 2, 1) := by decide +kernel
theorem dX7_wantItem_120 : decode cX7_wantItem 120 = .ok (.aload_n 0, 1) := by decide +kernel
theorem dX7_wantItem_121 : decode cX7_wantItem 121 = .ok (.getfield 182, 3) := by decide +kernel
theorem dX7_wantItem_124 : decode cX7_wantItem 124 = .ok (.ifCond .eq 13, 3) := by decide +kernel
theorem dX7_wantItem_127 : decode cX7_wantItem 127 = .ok (.aload_n 0, 1) := by decide +kernel
theorem dX7_wantItem_128 : decode cX7_wantItem 128 = .ok (.getfield 7, 3) := by decide +kernel
theorem dX7_wantItem_131 : decode cX7_wantItem 131 = .ok (.bipush 6, 2) := by decide +kernel
theorem dX7_wantItem_133 : decode cX7_wantItem 133 = .ok (.iload_n 1, 1) := by decide +kernel
theorem dX7_wantItem_134 : decode cX7_wantItem 134 = .ok (.iadd, 1) := by decide +kernel
theorem dX7_wantItem_135 : decode cX7_wantItem 135 = .ok (.iload_n 2, 1) := by decide +kernel
theorem dX7_wantItem_136 : decode cX7_wantItem 136 = .ok (.iastore, 1) := by decide +kernel
theorem dX7_wantItem_137 : decode cX7_wantItem 137 = .ok (.goto 8, 3) := by decide +kernel
theorem dX7_wantItem_140 : decode cX7_wantItem 140 = .ok (.aload_n 0, 1) := by decide +kernel
theorem dX7_wantItem_141 : decode cX7_wantItem 141 = .ok (.iconst 0, 1) := by decide +kernel
theorem dX7_wantItem_142 : decode cX7_wantItem 142 = .ok (.putfield 182, 3) := by decide +kernel
theorem dX7_wantItem_145 : decode cX7_wantItem 145 = .ok (.return_, 1) := by decide +kernel
theorem dX7_text_0 : decode cX7_text 0 = .ok (.aload_n 0, 1) := by decide +kernel
theorem dX7_text_1 : decode cX7_text 1 = .ok (.iconst 1, 1) := by decide +kernel
theorem dX7_text_2 : decode cX7_text 2 = .ok (.aload_n 0, 1) := by decide +kernel
theorem dX7_text_3 : decode cX7_text 3 = .ok (.getfield 41, 3) := by decide +kernel
theorem dX7_text_6 : decode cX7_text 6 = .ok (.invokevirtual 117, 3) := by decide +kernel
theorem dX7_text_9 : decode cX7_text 9 = .ok (.aload_n 0, 1) := by decide +kernel
theorem dX7_text_10 : decode cX7_text 10 = .ok (.iconst 0, 1) := by decide +kernel
theorem dX7_text_11 : decode cX7_text 11 = .ok (.putfield 135, 3) := by decide +kernel
theorem dX7_text_14 : decode cX7_text 14 = .ok (.aload_n 0, 1) := by decide +kernel
theorem dX7_text_15 : decode cX7_text 15 = .ok (.iconst 1, 1) := by decide +kernel
theorem dX7_text_16 : decode cX7_text 16 = .ok (.putfield 182, 3) := by decide +kernel
theorem dX7_text_19 : decode cX7_text 19 = .ok (.iconst 0, 1) := by decide +kernel
theorem dX7_text_20 : decode cX7_text 20 = .ok (.istore_n 1, 1) := by decide +kernel
theorem dX7_text_21 : decode cX7_text 21 = .ok (.iconst 1, 1) := by decide +kernel
theorem dX7_text_22 : decode cX7_text 22 = .ok (.istore_n 2, 1) := by decide +kernel
theorem dX7_text_23 : decode cX7_text 23 = .ok (.iload_n 2, 1) := by decide +kernel
theorem dX7_text_24 : decode cX7_text 24 = .ok (.ifCond .eq 47, 3) := by decide +kernel
theorem dX7_text_27 : decode cX7_text 27 = .ok (.aload_n 0, 1) := by decide +kernel
theorem dX7_text_28 : decode cX7_text 28 = .ok (.invokevirtual 186, 3) := by decide +kernel
theorem dX7_text_31 : decode cX7_text 31 = .ok (.aload_n 0, 1) := by decide +kernel
theorem dX7_text_32 : decode cX7_text 32 = .ok (.invokevirtual 212, 3) := by decide +kernel
theorem dX7_text_35 : decode cX7_text 35 = .ok (.iinc 1 1, 3) := by decide +kernel
theorem dX7_text_38 : decode cX7_text 38 = .ok (.aload_n 0, 1) := by decide +kernel
theorem dX7_text_39 : decode cX7_text 39 = .ok (.getfield 182, 3) := by decide +kernel
theorem dX7_text_42 : decode cX7_text 42 = .ok (.ifCond .eq 24, 3) := by decide +kernel
theorem dX7_text_45 : decode cX7_text 45 = .ok (.aload_n 0, 1) := by decide +kernel
theorem dX7_text_46 : decode cX7_text 46 = .ok (.getfield 150, 3) := by decide +kernel
theorem dX7_text_49 : decode cX7_text 49 = .ok (.iconst 3, 1) := by decide +kernel
theorem dX7_text_50 : decode cX7_text 50 = .ok (.if_icmp .ne 16, 3) := by decide +kernel
theorem dX7_text_53 : decode cX7_text 53 = .ok (.aload_n 0, 1) := by decide +kernel
theorem dX7_text_54 : decode cX7_text 54 = .ok (.getfield 157, 3) := by decide +kernel
theorem dX7_text_57 : decode cX7_text 57 = .ok (.bipush 59, 2) := by decide +kernel
theorem dX7_text_59 : decode cX7_text 59 = .ok (.if_icmp .ne 7, 3) := by decide +kernel
theorem dX7_text_62 : decode cX7_text 62 = .ok (.iconst 1, 1) := by decide +kernel
theorem dX7_text_63 : decode cX7_text 63 = .ok (.goto 4, 3) := by decide +kernel
theorem dX7_text_66 : decode cX7_text 66 = .ok (.iconst 0, 1) := by decide +kernel
theorem dX7_text_67 : decode cX7_text 67 = .ok (.istore_n 2, 1) := by decide +kernel
theorem dX7_text_68 : decode cX7_text 68 = .ok (.goto (-45), 3) := by decide +kernel
theorem dX7_text_71 : decode cX7_text 71 = .ok (.aload_n 0, 1) := by decide +kernel
theorem dX7_text_72 : decode cX7_text 72 = .ok (.aload_n 0, 1) := by decide +kernel
theorem dX7_text_73 : decode cX7_text 73 = .ok (.getfield 182, 3) := by decide +kernel
theorem dX7_text_76 : decode cX7_text 76 = .ok (.ifCond .eq 14, 3) := by decide +kernel
theorem dX7_text_79 : decode cX7_text 79 = .ok (.aload_n 0, 1) := by decide +kernel
theorem dX7_text_80 : decode cX7_text 80 = .ok (.getfield 150, 3) := by decide +kernel
theorem dX7_text_83 : decode cX7_text 83 = .ok (.ifCond .ne 7, 3) := by decide +kernel
theorem dX7_text_86 : decode cX7_text 86 = .ok (.iconst 1, 1) := by decide +kernel
theorem dX7_text_87 : decode cX7_text 87 = .ok (.goto 4, 3) := by decide +kernel
theorem dX7_text_90 : decode cX7_text 90 = .ok (.iconst 0, 1) := by decide +kernel
theorem dX7_text_91 : decode cX7_text 91 = .ok (.putfield 182, 3) := by decide +kernel
theorem dX7_text_94 : decode cX7_text 94 = .ok (.aload_n 0, 1) := by decide +kernel
theorem dX7_text_95 : decode cX7_text 95 = .ok (.iconst 0, 1) := by decide +kernel
theorem dX7_text_96 : decode cX7_text 96 = .ok (.putfield 131, 3) := by decide +kernel
theorem dX7_text_99 : decode cX7_text 99 = .ok (.aload_n 0, 1) := by decide +kernel
theorem dX7_text_100 : decode cX7_text 100 = .ok (.getfield 182, 3) := by decide +kernel
theorem dX7_text_103 : decode cX7_text 103 = .ok (.ifCond .ne 19, 3) := by decide +kernel
theorem dX7_text_106 : decode cX7_text 106 = .ok (.aload_n 0, 1) := by decide +kernel
theorem dX7_text_107 : decode cX7_text 107 = .ok (.iconst 0, 1) := by decide +kernel
theorem dX7_text_108 : decode cX7_text 108 = .ok (.aload_n 0, 1) := by decide +kernel
theorem dX7_text_109 : decode cX7_text 109 = .ok (.getfield 41, 3) := by decide +kernel
theorem dX7_text_112 : decode cX7_text 112 = .ok (.invokevirtual 117, 3) := by decide +kernel
theorem dX7_text_115 : decode cX7_text 115 = .ok (.iconst (-1), 1) := by decide +kernel
theorem dX7_text_116 : decode cX7_text 116 = .ok (.aload_n 0, 1) := by decide +kernel
theorem dX7_text_117 : decode cX7_text 117 = .ok (.getfield 138, 3) := by decide +kernel
theorem dX7_text_120 : decode cX7_text 120 = .ok (.isub, 1) := by decide +kernel
theorem dX7_text_121 : decode cX7_text 121 = .ok (.ireturn, 1) := by decide +kernel
theorem dX7_text_122 : decode cX7_text 122 = .ok (.iload_n 1, 1) := by decide +kernel
theorem dX7_text_123 : decode cX7_text 123 = .ok (.ireturn, 1) := by decide +kernel
theorem dX7_isSheet_0 : decode cX7_isSheet 0 = .ok (.iload_n 0, 1) := by decide +kernel
theorem dX7_isSheet_1 : decode cX7_isSheet 1 = .ok (.iconst 0, 1) := by decide +kernel
theorem dX7_isSheet_2 : decode cX7_isSheet 2 = .ok (.iconst 3, 1) := by decide +kernel
theorem dX7_isSheet_3 : decode cX7_isSheet 3 = .ok (.invokestatic 45, 3) := by decide +kernel
theorem dX7_isSheet_6 : decode cX7_isSheet 6 = .ok (.ireturn, 1) := by decide +kernel
theorem dX7_narrow_0 : decode cX7_narrow 0 = .ok (.iload_n 0, 1) := by decide +kernel
theorem dX7_narrow_1 : decode cX7_narrow 1 = .ok (.bipush 8, 2) := by decide +kernel
theorem dX7_narrow_3 : decode cX7_narrow 3 = .ok (.if_icmp .ne 13, 3) := by decide +kernel
theorem dX7_narrow_6 : decode cX7_narrow 6 = .ok (.lload_n 1, 1) := by decide +kernel
theorem dX7_narrow_7 : decode cX7_narrow 7 = .ok (.bipush 56, 2) := by decide +kernel
theorem dX7_narrow_9 : decode cX7_narrow 9 = .ok (.lshl, 1) := by decide +kernel
theorem dX7_narrow_10 : decode cX7_narrow 10 = .ok (.bipush 56, 2) := by decide +kernel
theorem dX7_narrow_12 : decode cX7_narrow 12 = .ok (.lshr, 1) := by decide +kernel
theorem dX7_narrow_13 : decode cX7_narrow 13 = .ok (.goto 20, 3) := by decide +kernel
theorem dX7_narrow_16 : decode cX7_narrow 16 = .ok (.iload_n 0, 1) := by decide +kernel
theorem dX7_narrow_17 : decode cX7_narrow 17 = .ok (.bipush 16, 2) := by decide +kernel
theorem dX7_narrow_19 : decode cX7_narrow 19 = .ok (.if_icmp .ne 13, 3) := by decide +kernel
theorem dX7_narrow_22 : decode cX7_narrow 22 = .ok (.lload_n 1, 1) := by decide +kernel
theorem dX7_narrow_23 : decode cX7_narrow 23 = .ok (.bipush 48, 2) := by decide +kernel
theorem dX7_narrow_25 : decode cX7_narrow 25 = .ok (.lshl, 1) := by decide +kernel
theorem dX7_narrow_26 : decode cX7_narrow 26 = .ok (.bipush 48, 2) := by decide +kernel
theorem dX7_narrow_28 : decode cX7_narrow 28 = .ok (.lshr, 1) := by decide +kernel
theorem dX7_narrow_29 : decode cX7_narrow 29 = .ok (.goto 4, 3) := by decide +kernel
theorem dX7_narrow_32 : decode cX7_narrow 32 = .ok (.lload_n 1, 1) := by decide +kernel
theorem dX7_narrow_33 : decode cX7_narrow 33 = .ok (.lreturn, 1) := by decide +kernel
theorem dX7_sheet_0 : decode cX7_sheet 0 = .ok (.iload_n 1, 1) := by decide +kernel
theorem dX7_sheet_1 : decode cX7_sheet 1 = .ok (.invokestatic 215, 3) := by decide +kernel
theorem dX7_sheet_4 : decode cX7_sheet 4 = .ok (.ifCond .eq 25, 3) := by decide +kernel
theorem dX7_sheet_7 : decode cX7_sheet 7 = .ok (.iload_n 2, 1) := by decide +kernel
theorem dX7_sheet_8 : decode cX7_sheet 8 = .ok (.ifCond .eq 28, 3) := by decide +kernel
theorem dX7_sheet_11 : decode cX7_sheet 11 = .ok (.iload_n 2, 1) := by decide +kernel
theorem dX7_sheet_12 : decode cX7_sheet 12 = .ok (.bipush 8, 2) := by decide +kernel
theorem dX7_sheet_14 : decode cX7_sheet 14 = .ok (.if_icmp .eq 22, 3) := by decide +kernel
theorem dX7_sheet_17 : decode cX7_sheet 17 = .ok (.iload_n 2, 1) := by decide +kernel
theorem dX7_sheet_18 : decode cX7_sheet 18 = .ok (.bipush 16, 2) := by decide +kernel
theorem dX7_sheet_20 : decode cX7_sheet 20 = .ok (.if_icmp .eq 16, 3) := by decide +kernel
theorem dX7_sheet_23 : decode cX7_sheet 23 = .ok (.iload_n 2, 1) := by decide +kernel
theorem dX7_sheet_24 : decode cX7_sheet 24 = .ok (.bipush 64, 2) := by decide +kernel
theorem dX7_sheet_26 : decode cX7_sheet 26 = .ok (.if_icmp .eq 10, 3) := by decide +kernel
theorem dX7_sheet_29 : decode cX7_sheet 29 = .ok (.aload_n 0, 1) := by decide +kernel
theorem dX7_sheet_30 : decode cX7_sheet 30 = .ok (.ldc 44, 2) := by decide +kernel
theorem dX7_sheet_32 : decode cX7_sheet 32 = .ok (.invokevirtual 57, 3) := by decide +kernel
theorem dX7_sheet_35 : decode cX7_sheet 35 = .ok (.ireturn, 1) := by decide +kernel
theorem dX7_sheet_36 : decode cX7_sheet 36 = .ok (.iload_n 3, 1) := by decide +kernel
theorem dX7_sheet_37 : decode cX7_sheet 37 = .ok (.ifCond .ge 10, 3) := by decide +kernel
theorem dX7_sheet_40 : decode cX7_sheet 40 = .ok (.aload_n 0, 1) := by decide +kernel
theorem dX7_sheet_41 : decode cX7_sheet 41 = .ok (.ldc 218, 2) := by decide +kernel
theorem dX7_sheet_43 : decode cX7_sheet 43 = .ok (.invokevirtual 57, 3) := by decide +kernel
theorem dX7_sheet_46 : decode cX7_sheet 46 = .ok (.ireturn, 1) := by decide +kernel
theorem dX7_sheet_47 : decode cX7_sheet 47 = .ok (.iload_n 3, 1) := by decide +kernel
theorem dX7_sheet_48 : decode cX7_sheet 48 = .ok (.bipush 40, 2) := by decide +kernel
theorem dX7_sheet_50 : decode cX7_sheet 50 = .ok (.if_icmp .le 10, 3) := by decide +kernel
theorem dX7_sheet_53 : decode cX7_sheet 53 = .ok (.aload_n 0, 1) := by decide +kernel
theorem dX7_sheet_54 : decode cX7_sheet 54 = .ok (.ldc 44, 2) := by decide +kernel
theorem dX7_sheet_56 : decode cX7_sheet 56 = .ok (.invokevirtual 57, 3) := by decide +kernel
theorem dX7_sheet_59 : decode cX7_sheet 59 = .ok (.ireturn, 1) := by decide +kernel
theorem dX7_sheet_60 : decode cX7_sheet 60 = .ok (.aload_n 0, 1) := by decide +kernel
theorem dX7_sheet_61 : decode cX7_sheet 61 = .ok (.getfield 25, 3) := by decide +kernel
theorem dX7_sheet_64 : decode cX7_sheet 64 = .ok (.iload_n 1, 1) := by decide +kernel
theorem dX7_sheet_65 : decode cX7_sheet 65 = .ok (.iload_n 2, 1) := by decide +kernel
theorem dX7_sheet_66 : decode cX7_sheet 66 = .ok (.iastore, 1) := by decide +kernel
theorem dX7_sheet_67 : decode cX7_sheet 67 = .ok (.aload_n 0, 1) := by decide +kernel
theorem dX7_sheet_68 : decode cX7_sheet 68 = .ok (.getfield 28, 3) := by decide +kernel
theorem dX7_sheet_71 : decode cX7_sheet 71 = .ok (.iload_n 1, 1) := by decide +kernel
theorem dX7_sheet_72 : decode cX7_sheet 72 = .ok (.iload_n 2, 1) := by decide +kernel
theorem dX7_sheet_73 : decode cX7_sheet 73 = .ok (.ifCond .ne 7, 3) := by decide +kernel
theorem dX7_sheet_76 : decode cX7_sheet 76 = .ok (.iconst 0, 1) := by decide +kernel
theorem dX7_sheet_77 : decode cX7_sheet 77 = .ok (.goto 4, 3) := by decide +kernel
theorem dX7_sheet_80 : decode cX7_sheet 80 = .ok (.iload_n 3, 1) := by decide +kernel
theorem dX7_sheet_81 : decode cX7_sheet 81 = .ok (.iastore, 1) := by decide +kernel
theorem dX7_sheet_82 : decode cX7_sheet 82 = .ok (.iconst 0, 1) := by decide +kernel
theorem dX7_sheet_83 : decode cX7_sheet 83 = .ok (.istore 4, 2) := by decide +kernel
theorem dX7_sheet_85 : decode cX7_sheet 85 = .ok (.iload 4, 2) := by decide +kernel
theorem dX7_sheet_87 : decode cX7_sheet 87 = .ok (.bipush 40, 2) := by decide +kernel
theorem dX7_sheet_89 : decode cX7_sheet 89 = .ok (.if_icmp .ge 22, 3) := by decide +kernel
theorem dX7_sheet_92 : decode cX7_sheet 92 = .ok (.aload_n 0, 1) := by decide +kernel
theorem dX7_sheet_93 : decode cX7_sheet 93 = .ok (.getfield 31, 3) := by decide +kernel
theorem dX7_sheet_96 : decode cX7_sheet 96 = .ok (.bipush 40, 2) := by decide +kernel
theorem dX7_sheet_98 : decode cX7_sheet 98 = .ok (.iload_n 1, 1) := by decide +kernel
theorem dX7_sheet_99 : decode cX7_sheet 99 = .ok (.imul, 1) := by decide +kernel
theorem dX7_sheet_100 : decode cX7_sheet 100 = .ok (.iload 4, 2) := by decide +kernel
theorem dX7_sheet_102 : decode cX7_sheet 102 = .ok (.iadd, 1) := by decide +kernel
theorem dX7_sheet_103 : decode cX7_sheet 103 = .ok (.lconst 0, 1) := by decide +kernel
theorem dX7_sheet_104 : decode cX7_sheet 104 = .ok (.lastore, 1) := by decide +kernel
theorem dX7_sheet_105 : decode cX7_sheet 105 = .ok (.iinc 4 1, 3) := by decide +kernel
theorem dX7_sheet_108 : decode cX7_sheet 108 = .ok (.goto (-23), 3) := by decide +kernel
theorem dX7_sheet_111 : decode cX7_sheet 111 = .ok (.aload_n 0, 1) := by decide +kernel
theorem dX7_sheet_112 : decode cX7_sheet 112 = .ok (.getfield 28, 3) := by decide +kernel
theorem dX7_sheet_115 : decode cX7_sheet 115 = .ok (.iload_n 1, 1) := by decide +kernel
theorem dX7_sheet_116 : decode cX7_sheet 116 = .ok (.iaload, 1) := by decide +kernel
theorem dX7_sheet_117 : decode cX7_sheet 117 = .ok (.ireturn, 1) := by decide +kernel
theorem dX7_write_0 : decode cX7_write 0 = .ok (.iload_n 1, 1) := by decide +kernel
theorem dX7_write_1 : decode cX7_write 1 = .ok (.invokestatic 215, 3) := by decide +kernel
theorem dX7_write_4 : decode cX7_write 4 = .ok (.ifCond .ne 11, 3) := by decide +kernel
theorem dX7_write_7 : decode cX7_write 7 = .ok (.aload_n 0, 1) := by decide +kernel
theorem dX7_write_8 : decode cX7_write 8 = .ok (.ldc 44, 2) := by decide +kernel
theorem dX7_write_10 : decode cX7_write 10 = .ok (.invokevirtual 57, 3) := by decide +kernel
theorem dX7_write_13 : decode cX7_write 13 = .ok (.i2l, 1) := by decide +kernel
theorem dX7_write_14 : decode cX7_write 14 = .ok (.lreturn, 1) := by decide +kernel
theorem dX7_write_15 : decode cX7_write 15 = .ok (.aload_n 0, 1) := by decide +kernel
theorem dX7_write_16 : decode cX7_write 16 = .ok (.getfield 25, 3) := by decide +kernel
theorem dX7_write_19 : decode cX7_write 19 = .ok (.iload_n 1, 1) := by decide +kernel
theorem dX7_write_20 : decode cX7_write 20 = .ok (.iaload, 1) := by decide +kernel
theorem dX7_write_21 : decode cX7_write 21 = .ok (.ifCond .ne 11, 3) := by decide +kernel
theorem dX7_write_24 : decode cX7_write 24 = .ok (.aload_n 0, 1) := by decide +kernel
theorem dX7_write_25 : decode cX7_write 25 = .ok (.ldc 219, 2) := by decide +kernel
theorem dX7_write_27 : decode cX7_write 27 = .ok (.invokevirtual 57, 3) := by decide +kernel
theorem dX7_write_30 : decode cX7_write 30 = .ok (.i2l, 1) := by decide +kernel
theorem dX7_write_31 : decode cX7_write 31 = .ok (.lreturn, 1) := by decide +kernel
theorem dX7_write_32 : decode cX7_write 32 = .ok (.iload_n 2, 1) := by decide +kernel
theorem dX7_write_33 : decode cX7_write 33 = .ok (.iconst 0, 1) := by decide +kernel
theorem dX7_write_34 : decode cX7_write 34 = .ok (.aload_n 0, 1) := by decide +kernel
theorem dX7_write_35 : decode cX7_write 35 = .ok (.getfield 28, 3) := by decide +kernel
theorem dX7_write_38 : decode cX7_write 38 = .ok (.iload_n 1, 1) := by decide +kernel
theorem dX7_write_39 : decode cX7_write 39 = .ok (.iaload, 1) := by decide +kernel
theorem dX7_write_40 : decode cX7_write 40 = .ok (.iconst 1, 1) := by decide +kernel
theorem dX7_write_41 : decode cX7_write 41 = .ok (.isub, 1) := by decide +kernel
theorem dX7_write_42 : decode cX7_write 42 = .ok (.invokestatic 45, 3) := by decide +kernel
theorem dX7_write_45 : decode cX7_write 45 = .ok (.ifCond .ne 11, 3) := by decide +kernel
theorem dX7_write_48 : decode cX7_write 48 = .ok (.aload_n 0, 1) := by decide +kernel
theorem dX7_write_49 : decode cX7_write 49 = .ok (.ldc 44, 2) := by decide +kernel
theorem dX7_write_51 : decode cX7_write 51 = .ok (.invokevirtual 57, 3) := by decide +kernel
theorem dX7_write_54 : decode cX7_write 54 = .ok (.i2l, 1) := by decide +kernel
theorem dX7_write_55 : decode cX7_write 55 = .ok (.lreturn, 1) := by decide +kernel
theorem dX7_write_56 : decode cX7_write 56 = .ok (.aload_n 0, 1) := by decide +kernel
theorem dX7_write_57 : decode cX7_write 57 = .ok (.getfield 31, 3) := by decide +kernel
theorem dX7_write_60 : decode cX7_write 60 = .ok (.bipush 40, 2) := by decide +kernel
theorem dX7_write_62 : decode cX7_write 62 = .ok (.iload_n 1, 1) := by decide +kernel
theorem dX7_write_63 : decode cX7_write 63 = .ok (.imul, 1) := by decide +kernel
theorem dX7_write_64 : decode cX7_write 64 = .ok (.iload_n 2, 1) := by decide +kernel
theorem dX7_write_65 : decode cX7_write 65 = .ok (.iadd, 1) := by decide +kernel
theorem dX7_write_66 : decode cX7_write 66 = .ok (.laload, 1) := by decide +kernel
theorem dX7_write_67 : decode cX7_write 67 = .ok (.lstore 5, 2) := by decide +kernel
theorem dX7_write_69 : decode cX7_write 69 = .ok (.aload_n 0, 1) := by decide +kernel
theorem dX7_write_70 : decode cX7_write 70 = .ok (.getfield 31, 3) := by decide +kernel
theorem dX7_write_73 : decode cX7_write 73 = .ok (.bipush 40, 2) := by decide +kernel
theorem dX7_write_75 : decode cX7_write 75 = .ok (.iload_n 1, 1) := by decide +kernel
theorem dX7_write_76 : decode cX7_write 76 = .ok (.imul, 1) := by decide +kernel
theorem dX7_write_77 : decode cX7_write 77 = .ok (.iload_n 2, 1) := by decide +kernel
theorem dX7_write_78 : decode cX7_write 78 = .ok (.iadd, 1) := by decide +kernel
theorem dX7_write_79 : decode cX7_write 79 = .ok (.aload_n 0, 1) := by decide +kernel
theorem dX7_write_80 : decode cX7_write 80 = .ok (.getfield 25, 3) := by decide +kernel
theorem dX7_write_83 : decode cX7_write 83 = .ok (.iload_n 1, 1) := by decide +kernel
theorem dX7_write_84 : decode cX7_write 84 = .ok (.iaload, 1) := by decide +kernel
theorem dX7_write_85 : decode cX7_write 85 = .ok (.lload_n 3, 1) := by decide +kernel
theorem dX7_write_86 : decode cX7_write 86 = .ok (.invokestatic 220, 3) := by decide +kernel
theorem dX7_write_89 : decode cX7_write 89 = .ok (.lastore, 1) := by decide +kernel
theorem dX7_write_90 : decode cX7_write 90 = .ok (.lload 5, 2) := by decide +kernel
theorem dX7_write_92 : decode cX7_write 92 = .ok (.lreturn, 1) := by decide +kernel
theorem dX7_isPart__0 : decode cX7_isPart_ 0 = .ok (.iload_n 2, 1) := by decide +kernel
theorem dX7_isPart__1 : decode cX7_isPart_ 1 = .ok (.ifCond .lt 33, 3) := by decide +kernel
theorem dX7_isPart__4 : decode cX7_isPart_ 4 = .ok (.iload_n 3, 1) := by decide +kernel
theorem dX7_isPart__5 : decode cX7_isPart_ 5 = .ok (.ifCond .lt 29, 3) := by decide +kernel
theorem dX7_isPart__8 : decode cX7_isPart_ 8 = .ok (.iload_n 3, 1) := by decide +kernel
theorem dX7_isPart__9 : decode cX7_isPart_ 9 = .ok (.aload_n 0, 1) := by decide +kernel
theorem dX7_isPart__10 : decode cX7_isPart_ 10 = .ok (.getfield 28, 3) := by decide +kernel
theorem dX7_isPart__13 : decode cX7_isPart_ 13 = .ok (.iload_n 1, 1) := by decide +kernel
theorem dX7_isPart__14 : decode cX7_isPart_ 14 = .ok (.iaload, 1) := by decide +kernel
theorem dX7_isPart__15 : decode cX7_isPart_ 15 = .ok (.if_icmp .gt 19, 3) := by decide +kernel
theorem dX7_isPart__18 : decode cX7_isPart_ 18 = .ok (.iload_n 2, 1) := by decide +kernel
theorem dX7_isPart__19 : decode cX7_isPart_ 19 = .ok (.aload_n 0, 1) := by decide +kernel
theorem dX7_isPart__20 : decode cX7_isPart_ 20 = .ok (.getfield 28, 3) := by decide +kernel
theorem dX7_isPart__23 : decode cX7_isPart_ 23 = .ok (.iload_n 1, 1) := by decide +kernel
theorem dX7_isPart__24 : decode cX7_isPart_ 24 = .ok (.iaload, 1) := by decide +kernel
theorem dX7_isPart__25 : decode cX7_isPart_ 25 = .ok (.iload_n 3, 1) := by decide +kernel
theorem dX7_isPart__26 : decode cX7_isPart_ 26 = .ok (.isub, 1) := by decide +kernel
theorem dX7_isPart__27 : decode cX7_isPart_ 27 = .ok (.if_icmp .gt 7, 3) := by decide +kernel
theorem dX7_isPart__30 : decode cX7_isPart_ 30 = .ok (.iconst 1, 1) := by decide +kernel
theorem dX7_isPart__31 : decode cX7_isPart_ 31 = .ok (.goto 4, 3) := by decide +kernel
theorem dX7_isPart__34 : decode cX7_isPart_ 34 = .ok (.iconst 0, 1) := by decide +kernel
theorem dX7_isPart__35 : decode cX7_isPart_ 35 = .ok (.ireturn, 1) := by decide +kernel
theorem dX7_copy_0 : decode cX7_copy 0 = .ok (.iload_n 1, 1) := by decide +kernel
theorem dX7_copy_1 : decode cX7_copy 1 = .ok (.invokestatic 215, 3) := by decide +kernel
theorem dX7_copy_4 : decode cX7_copy 4 = .ok (.ifCond .eq 10, 3) := by decide +kernel
theorem dX7_copy_7 : decode cX7_copy 7 = .ok (.iload_n 3, 1) := by decide +kernel
theorem dX7_copy_8 : decode cX7_copy 8 = .ok (.invokestatic 215, 3) := by decide +kernel
theorem dX7_copy_11 : decode cX7_copy 11 = .ok (.ifCond .ne 10, 3) := by decide +kernel
theorem dX7_copy_14 : decode cX7_copy 14 = .ok (.aload_n 0, 1) := by decide +kernel
theorem dX7_copy_15 : decode cX7_copy 15 = .ok (.ldc 44, 2) := by decide +kernel
theorem dX7_copy_17 : decode cX7_copy 17 = .ok (.invokevirtual 57, 3) := by decide +kernel
theorem dX7_copy_20 : decode cX7_copy 20 = .ok (.ireturn, 1) := by decide +kernel
theorem dX7_copy_21 : decode cX7_copy 21 = .ok (.aload_n 0, 1) := by decide +kernel
theorem dX7_copy_22 : decode cX7_copy 22 = .ok (.getfield 25, 3) := by decide +kernel
theorem dX7_copy_25 : decode cX7_copy 25 = .ok (.iload_n 1, 1) := by decide +kernel
theorem dX7_copy_26 : decode cX7_copy 26 = .ok (.iaload, 1) := by decide +kernel
theorem dX7_copy_27 : decode cX7_copy 27 = .ok (.ifCond .eq 12, 3) := by decide +kernel
theorem dX7_copy_30 : decode cX7_copy 30 = .ok (.aload_n 0, 1) := by decide +kernel
theorem dX7_copy_31 : decode cX7_copy 31 = .ok (.getfield 25, 3) := by decide +kernel
theorem dX7_copy_34 : decode cX7_copy 34 = .ok (.iload_n 3, 1) := by decide +kernel
theorem dX7_copy_35 : decode cX7_copy 35 = .ok (.iaload, 1) := by decide +kernel
theorem dX7_copy_36 : decode cX7_copy 36 = .ok (.ifCond .ne 10, 3) := by decide +kernel
theorem dX7_copy_39 : decode cX7_copy 39 = .ok (.aload_n 0, 1) := by decide +kernel
theorem dX7_copy_40 : decode cX7_copy 40 = .ok (.ldc 219, 2) := by decide +kernel
theorem dX7_copy_42 : decode cX7_copy 42 = .ok (.invokevirtual 57, 3) := by decide +kernel
theorem dX7_copy_45 : decode cX7_copy 45 = .ok (.ireturn, 1) := by decide +kernel
theorem dX7_copy_46 : decode cX7_copy 46 = .ok (.aload_n 0, 1) := by decide +kernel
theorem dX7_copy_47 : decode cX7_copy 47 = .ok (.getfield 25, 3) := by decide +kernel
theorem dX7_copy_50 : decode cX7_copy 50 = .ok (.iload_n 1, 1) := by decide +kernel
theorem dX7_copy_51 : decode cX7_copy 51 = .ok (.iaload, 1) := by decide +kernel
theorem dX7_copy_52 : decode cX7_copy 52 = .ok (.aload_n 0, 1) := by decide +kernel
theorem dX7_copy_53 : decode cX7_copy 53 = .ok (.getfield 25, 3) := by decide +kernel
theorem dX7_copy_56 : decode cX7_copy 56 = .ok (.iload_n 3, 1) := by decide +kernel
theorem dX7_copy_57 : decode cX7_copy 57 = .ok (.iaload, 1) := by decide +kernel
theorem dX7_copy_58 : decode cX7_copy 58 = .ok (.if_icmp .eq 10, 3) := by decide +kernel
theorem dX7_copy_61 : decode cX7_copy 61 = .ok (.aload_n 0, 1) := by decide +kernel
theorem dX7_copy_62 : decode cX7_copy 62 = .ok (.ldc 109, 2) := by decide +kernel
theorem dX7_copy_64 : decode cX7_copy 64 = .ok (.invokevirtual 57, 3) := by decide +kernel
theorem dX7_copy_67 : decode cX7_copy 67 = .ok (.ireturn, 1) := by decide +kernel
theorem dX7_copy_68 : decode cX7_copy 68 = .ok (.aload_n 0, 1) := by decide +kernel
theorem dX7_copy_69 : decode cX7_copy 69 = .ok (.iload_n 1, 1) := by decide +kernel
theorem dX7_copy_70 : decode cX7_copy 70 = .ok (.iload_n 2, 1) := by decide +kernel
theorem dX7_copy_71 : decode cX7_copy 71 = .ok (.iload 5, 2) := by decide +kernel
theorem dX7_copy_73 : decode cX7_copy 73 = .ok (.invokevirtual 224, 3) := by decide +kernel
theorem dX7_copy_76 : decode cX7_copy 76 = .ok (.ifCond .eq 15, 3) := by decide +kernel
theorem dX7_copy_79 : decode cX7_copy 79 = .ok (.aload_n 0, 1) := by decide +kernel
theorem dX7_copy_80 : decode cX7_copy 80 = .ok (.iload_n 3, 1) := by decide +kernel
theorem dX7_copy_81 : decode cX7_copy 81 = .ok (.iload 4, 2) := by decide +kernel
theorem dX7_copy_83 : decode cX7_copy 83 = .ok (.iload 5, 2) := by decide +kernel
theorem dX7_copy_85 : decode cX7_copy 85 = .ok (.invokevirtual 224, 3) := by decide +kernel
theorem dX7_copy_88 : decode cX7_copy 88 = .ok (.ifCond .ne 10, 3) := by decide +kernel
theorem dX7_copy_91 : decode cX7_copy 91 = .ok (.aload_n 0, 1) := by decide +kernel
theorem dX7_copy_92 : decode cX7_copy 92 = .ok (.ldc 44, 2) := by decide +kernel
theorem dX7_copy_94 : decode cX7_copy 94 = .ok (.invokevirtual 57, 3) := by decide +kernel
theorem dX7_copy_97 : decode cX7_copy 97 = .ok (.ireturn, 1) := by decide +kernel
theorem dX7_copy_98 : decode cX7_copy 98 = .ok (.iconst 0, 1) := by decide +kernel
theorem dX7_copy_99 : decode cX7_copy 99 = .ok (.istore 6, 2) := by decide +kernel
theorem dX7_copy_101 : decode cX7_copy 101 = .ok (.iload 6, 2) := by decide +kernel
theorem dX7_copy_103 : decode cX7_copy 103 = .ok (.iload 5, 2) := by decide +kernel
theorem dX7_copy_105 : decode cX7_copy 105 = .ok (.if_icmp .ge 30, 3) := by decide +kernel
theorem dX7_copy_108 : decode cX7_copy 108 = .ok (.aload_n 0, 1) := by decide +kernel
theorem dX7_copy_109 : decode cX7_copy 109 = .ok (.getfield 35, 3) := by decide +kernel
theorem dX7_copy_112 : decode cX7_copy 112 = .ok (.iload 6, 2) := by decide +kernel
theorem dX7_copy_114 : decode cX7_copy 114 = .ok (.aload_n 0, 1) := by decide +kernel
theorem dX7_copy_115 : decode cX7_copy 115 = .ok (.getfield 31, 3) := by decide +kernel
theorem dX7_copy_118 : decode cX7_copy 118 = .ok (.bipush 40, 2) := by decide +kernel
theorem dX7_copy_120 : decode cX7_copy 120 = .ok (.iload_n 1, 1) := by decide +kernel
theorem dX7_copy_121 : decode cX7_copy 121 = .ok (.imul, 1) := by decide +kernel
theorem dX7_copy_122 : decode cX7_copy 122 = .ok (.iload_n 2, 1) := by decide +kernel
theorem dX7_copy_123 : decode cX7_copy 123 = .ok (.iadd, 1) := by decide +kernel
theorem dX7_copy_124 : decode cX7_copy 124 = .ok (.iload 6, 2) := by decide +kernel
theorem dX7_copy_126 : decode cX7_copy 126 = .ok (.iadd, 1) := by decide +kernel
theorem dX7_copy_127 : decode cX7_copy 127 = .ok (.laload, 1) := by decide +kernel
theorem dX7_copy_128 : decode cX7_copy 128 = .ok (.lastore, 1) := by decide +kernel
theorem dX7_copy_129 : decode cX7_copy 129 = .ok (.iinc 6 1, 3) := by decide +kernel
theorem dX7_copy_132 : decode cX7_copy 132 = .ok (.goto (-31), 3) := by decide +kernel
theorem dX7_copy_135 : decode cX7_copy 135 = .ok (.iconst 0, 1) := by decide +kernel
theorem dX7_copy_136 : decode cX7_copy 136 = .ok (.istore 6, 2) := by decide +kernel
theorem dX7_copy_138 : decode cX7_copy 138 = .ok (.iload 6, 2) := by decide +kernel
theorem dX7_copy_140 : decode cX7_copy 140 = .ok (.iload 5, 2) := by decide +kernel
theorem dX7_copy_142 : decode cX7_copy 142 = .ok (.if_icmp .ge 31, 3) := by decide +kernel
theorem dX7_copy_145 : decode cX7_copy 145 = .ok (.aload_n 0, 1) := by decide +kernel
theorem dX7_copy_146 : decode cX7_copy 146 = .ok (.getfield 31, 3) := by decide +kernel
theorem dX7_copy_149 : decode cX7_copy 149 = .ok (.bipush 40, 2) := by decide +kernel
theorem dX7_copy_151 : decode cX7_copy 151 = .ok (.iload_n 3, 1) := by decide +kernel
theorem dX7_copy_152 : decode cX7_copy 152 = .ok (.imul, 1) := by decide +kernel
theorem dX7_copy_153 : decode cX7_copy 153 = .ok (.iload 4, 2) := by decide +kernel
theorem dX7_copy_155 : decode cX7_copy 155 = .ok (.iadd, 1) := by decide +kernel
theorem dX7_copy_156 : decode cX7_copy 156 = .ok (.iload 6, 2) := by decide +kernel
theorem dX7_copy_158 : decode cX7_copy 158 = .ok (.iadd, 1) := by decide +kernel
theorem dX7_copy_159 : decode cX7_copy 159 = .ok (.aload_n 0, 1) := by decide +kernel
theorem dX7_copy_160 : decode cX7_copy 160 = .ok (.getfield 35, 3) := by decide +kernel
theorem dX7_copy_163 : decode cX7_copy 163 = .ok (.iload 6, 2) := by decide +kernel
theorem dX7_copy_165 : decode cX7_copy 165 = .ok (.laload, 1) := by decide +kernel
theorem dX7_copy_166 : decode cX7_copy 166 = .ok (.lastore, 1) := by decide +kernel
theorem dX7_copy_167 : decode cX7_copy 167 = .ok (.iinc 6 1, 3) := by decide +kernel
theorem dX7_copy_170 : decode cX7_copy 170 = .ok (.goto (-32), 3) := by decide +kernel
theorem dX7_copy_173 : decode cX7_copy 173 = .ok (.iload 5, 2) := by decide +kernel
theorem dX7_copy_175 : decode cX7_copy 175 = .ok (.ireturn, 1) := by decide +kernel
theorem dX7_badSheet_0 : decode cX7_badSheet 0 = .ok (.iload_n 1, 1) := by decide +kernel
theorem dX7_badSheet_1 : decode cX7_badSheet 1 = .ok (.invokestatic 215, 3) := by decide +kernel
theorem dX7_badSheet_4 : decode cX7_badSheet 4 = .ok (.ifCond .ne 8, 3) := by decide +kernel
theorem dX7_badSheet_7 : decode cX7_badSheet 7 = .ok (.ldc 44, 2) := by decide +kernel
theorem dX7_badSheet_9 : decode cX7_badSheet 9 = .ok (.goto 18, 3) := by decide +kernel
theorem dX7_badSheet_12 : decode cX7_badSheet 12 = .ok (.aload_n 0, 1) := by decide +kernel
theorem dX7_badSheet_13 : decode cX7_badSheet 13 = .ok (.getfield 25, 3) := by decide +kernel
theorem dX7_badSheet_16 : decode cX7_badSheet 16 = .ok (.iload_n 1, 1) := by decide +kernel
theorem dX7_badSheet_17 : decode cX7_badSheet 17 = .ok (.iaload, 1) := by decide +kernel
theorem dX7_badSheet_18 : decode cX7_badSheet 18 = .ok (.ifCond .ne 8, 3) := by decide +kernel
theorem dX7_badSheet_21 : decode cX7_badSheet 21 = .ok (.ldc 219, 2) := by decide +kernel
theorem dX7_badSheet_23 : decode cX7_badSheet 23 = .ok (.goto 4, 3) := by decide +kernel
theorem dX7_badSheet_26 : decode cX7_badSheet 26 = .ok (.iconst 0, 1) := by decide +kernel
theorem dX7_badSheet_27 : decode cX7_badSheet 27 = .ok (.ireturn, 1) := by decide +kernel
theorem dX7_lays_0 : decode cX7_lays 0 = .ok (.aload_n 0, 1) := by decide +kernel
theorem dX7_lays_1 : decode cX7_lays 1 = .ok (.iload_n 1, 1) := by decide +kernel
theorem dX7_lays_2 : decode cX7_lays 2 = .ok (.invokevirtual 226, 3) := by decide +kernel
theorem dX7_lays_5 : decode cX7_lays 5 = .ok (.istore_n 2, 1) := by decide +kernel
theorem dX7_lays_6 : decode cX7_lays 6 = .ok (.iload_n 2, 1) := by decide +kernel
theorem dX7_lays_7 : decode cX7_lays 7 = .ok (.ifCond .eq 9, 3) := by decide +kernel
theorem dX7_lays_10 : decode cX7_lays 10 = .ok (.aload_n 0, 1) := by decide +kernel
theorem dX7_lays_11 : decode cX7_lays 11 = .ok (.iload_n 2, 1) := by decide +kernel
theorem dX7_lays_12 : decode cX7_lays 12 = .ok (.invokevirtual 57, 3) := by decide +kernel
theorem dX7_lays_15 : decode cX7_lays 15 = .ok (.ireturn, 1) := by decide +kernel
theorem dX7_lays_16 : decode cX7_lays 16 = .ok (.iconst 0, 1) := by decide +kernel
theorem dX7_lays_17 : decode cX7_lays 17 = .ok (.istore_n 3, 1) := by decide +kernel
theorem dX7_lays_18 : decode cX7_lays 18 = .ok (.iconst 0, 1) := by decide +kernel
theorem dX7_lays_19 : decode cX7_lays 19 = .ok (.istore 4, 2) := by decide +kernel
theorem dX7_lays_21 : decode cX7_lays 21 = .ok (.iload 4, 2) := by decide +kernel
theorem dX7_lays_23 : decode cX7_lays 23 = .ok (.aload_n 0, 1) := by decide +kernel
theorem dX7_lays_24 : decode cX7_lays 24 = .ok (.getfield 28, 3) := by decide +kernel
theorem dX7_lays_27 : decode cX7_lays 27 = .ok (.iload_n 1, 1) := by decide +kernel
theorem dX7_lays_28 : decode cX7_lays 28 = .ok (.iaload, 1) := by decide +kernel
theorem dX7_lays_29 : decode cX7_lays 29 = .ok (.if_icmp .ge 63, 3) := by decide +kernel
theorem dX7_lays_32 : decode cX7_lays 32 = .ok (.iload 4, 2) := by decide +kernel
theorem dX7_lays_34 : decode cX7_lays 34 = .ok (.aload_n 0, 1) := by decide +kernel
theorem dX7_lays_35 : decode cX7_lays 35 = .ok (.getfield 7, 3) := by decide +kernel
theorem dX7_lays_38 : decode cX7_lays 38 = .ok (.iconst 5, 1) := by decide +kernel
theorem dX7_lays_39 : decode cX7_lays 39 = .ok (.iaload, 1) := by decide +kernel
theorem dX7_lays_40 : decode cX7_lays 40 = .ok (.if_icmp .ge 52, 3) := by decide +kernel
theorem dX7_lays_43 : decode cX7_lays 43 = .ok (.aload_n 0, 1) := by decide +kernel
theorem dX7_lays_44 : decode cX7_lays 44 = .ok (.getfield 31, 3) := by decide +kernel
theorem dX7_lays_47 : decode cX7_lays 47 = .ok (.bipush 40, 2) := by decide +kernel
theorem dX7_lays_49 : decode cX7_lays 49 = .ok (.iload_n 1, 1) := by decide +kernel
theorem dX7_lays_50 : decode cX7_lays 50 = .ok (.imul, 1) := by decide +kernel
theorem dX7_lays_51 : decode cX7_lays 51 = .ok (.iload 4, 2) := by decide +kernel
theorem dX7_lays_53 : decode cX7_lays 53 = .ok (.iadd, 1) := by decide +kernel
theorem dX7_lays_54 : decode cX7_lays 54 = .ok (.laload, 1) := by decide +kernel
theorem dX7_lays_55 : decode cX7_lays 55 = .ok (.lstore 5, 2) := by decide +kernel
theorem dX7_lays_57 : decode cX7_lays 57 = .ok (.lload 5, 2) := by decide +kernel
theorem dX7_lays_59 : decode cX7_lays 59 = .ok (.lconst 0, 1) := by decide +kernel
theorem dX7_lays_60 : decode cX7_lays 60 = .ok (.lcmp, 1) := by decide +kernel
theorem dX7_lays_61 : decode cX7_lays 61 = .ok (.ifCond .lt 25, 3) := by decide +kernel
theorem dX7_lays_64 : decode cX7_lays 64 = .ok (.lload 5, 2) := by decide +kernel
theorem dX7_lays_66 : decode cX7_lays 66 = .ok (.ldc2_w 229, 3) := by decide +kernel
theorem dX7_lays_69 : decode cX7_lays 69 = .ok (.lcmp, 1) := by decide +kernel
theorem dX7_lays_70 : decode cX7_lays 70 = .ok (.ifCond .gt 16, 3) := by decide +kernel
theorem dX7_lays_73 : decode cX7_lays 73 = .ok (.aload_n 0, 1) := by decide +kernel
theorem dX7_lays_74 : decode cX7_lays 74 = .ok (.iload 4, 2) := by decide +kernel
theorem dX7_lays_76 : decode cX7_lays 76 = .ok (.iconst 2, 1) := by decide +kernel
theorem dX7_lays_77 : decode cX7_lays 77 = .ok (.lload 5, 2) := by decide +kernel
theorem dX7_lays_79 : decode cX7_lays 79 = .ok (.l2i, 1) := by decide +kernel
theorem dX7_lays_80 : decode cX7_lays 80 = .ok (.invokevirtual 83, 3) := by decide +kernel
theorem dX7_lays_83 : decode cX7_lays 83 = .ok (.iinc 3 1, 3) := by decide +kernel
theorem dX7_lays_86 : decode cX7_lays 86 = .ok (.iinc 4 1, 3) := by decide +kernel
theorem dX7_lays_89 : decode cX7_lays 89 = .ok (.goto (-68), 3) := by decide +kernel
theorem dX7_lays_92 : decode cX7_lays 92 = .ok (.iload_n 3, 1) := by decide +kernel
theorem dX7_lays_93 : decode cX7_lays 93 = .ok (.ireturn, 1) := by decide +kernel
theorem dX7_book_0 : decode cX7_book 0 = .ok (.aload_n 0, 1) := by decide +kernel
theorem dX7_book_1 : decode cX7_book 1 = .ok (.iload_n 1, 1) := by decide +kernel
theorem dX7_book_2 : decode cX7_book 2 = .ok (.invokevirtual 226, 3) := by decide +kernel
theorem dX7_book_5 : decode cX7_book 5 = .ok (.istore_n 3, 1) := by decide +kernel
theorem dX7_book_6 : decode cX7_book 6 = .ok (.iload_n 3, 1) := by decide +kernel
theorem dX7_book_7 : decode cX7_book 7 = .ok (.ifCond .eq 9, 3) := by decide +kernel
theorem dX7_book_10 : decode cX7_book 10 = .ok (.aload_n 0, 1) := by decide +kernel
theorem dX7_book_11 : decode cX7_book 11 = .ok (.iload_n 3, 1) := by decide +kernel
theorem dX7_book_12 : decode cX7_book 12 = .ok (.invokevirtual 57, 3) := by decide +kernel
theorem dX7_book_15 : decode cX7_book 15 = .ok (.ireturn, 1) := by decide +kernel
theorem dX7_book_16 : decode cX7_book 16 = .ok (.aload_n 0, 1) := by decide +kernel
theorem dX7_book_17 : decode cX7_book 17 = .ok (.iload_n 2, 1) := by decide +kernel
theorem dX7_book_18 : decode cX7_book 18 = .ok (.invokevirtual 99, 3) := by decide +kernel
theorem dX7_book_21 : decode cX7_book 21 = .ok (.ifCond .ne 10, 3) := by decide +kernel
theorem dX7_book_24 : decode cX7_book 24 = .ok (.aload_n 0, 1) := by decide +kernel
theorem dX7_book_25 : decode cX7_book 25 = .ok (.ldc 44, 2) := by decide +kernel
theorem dX7_book_27 : decode cX7_book 27 = .ok (.invokevirtual 57, 3) := by decide +kernel
theorem dX7_book_30 : decode cX7_book 30 = .ok (.ireturn, 1) := by decide +kernel
theorem dX7_book_31 : decode cX7_book 31 = .ok (.aload_n 0, 1) := by decide +kernel
theorem dX7_book_32 : decode cX7_book 32 = .ok (.iconst 1, 1) := by decide +kernel
theorem dX7_book_33 : decode cX7_book 33 = .ok (.aload_n 0, 1) := by decide +kernel
theorem dX7_book_34 : decode cX7_book 34 = .ok (.getfield 16, 3) := by decide +kernel
theorem dX7_book_37 : decode cX7_book 37 = .ok (.invokevirtual 117, 3) := by decide +kernel
theorem dX7_book_40 : decode cX7_book 40 = .ok (.iconst 0, 1) := by decide +kernel
theorem dX7_book_41 : decode cX7_book 41 = .ok (.istore 4, 2) := by decide +kernel
theorem dX7_book_43 : decode cX7_book 43 = .ok (.iload 4, 2) := by decide +kernel
theorem dX7_book_45 : decode cX7_book 45 = .ok (.aload_n 0, 1) := by decide +kernel
theorem dX7_book_46 : decode cX7_book 46 = .ok (.getfield 28, 3) := by decide +kernel
theorem dX7_book_49 : decode cX7_book 49 = .ok (.iload_n 1, 1) := by decide +kernel
theorem dX7_book_50 : decode cX7_book 50 = .ok (.iaload, 1) := by decide +kernel
theorem dX7_book_51 : decode cX7_book 51 = .ok (.if_icmp .ge 32, 3) := by decide +kernel
theorem dX7_book_54 : decode cX7_book 54 = .ok (.aload_n 0, 1) := by decide +kernel
theorem dX7_book_55 : decode cX7_book 55 = .ok (.getfield 31, 3) := by decide +kernel
theorem dX7_book_58 : decode cX7_book 58 = .ok (.bipush 40, 2) := by decide +kernel
theorem dX7_book_60 : decode cX7_book 60 = .ok (.iload_n 1, 1) := by decide +kernel
theorem dX7_book_61 : decode cX7_book 61 = .ok (.imul, 1) := by decide +kernel
theorem dX7_book_62 : decode cX7_book 62 = .ok (.iload 4, 2) := by decide +kernel
theorem dX7_book_64 : decode cX7_book 64 = .ok (.iadd, 1) := by decide +kernel
theorem dX7_book_65 : decode cX7_book 65 = .ok (.aload_n 0, 1) := by decide +kernel
theorem dX7_book_66 : decode cX7_book 66 = .ok (.iload_n 2, 1) := by decide +kernel
theorem dX7_book_67 : decode cX7_book 67 = .ok (.iconst 2, 1) := by decide +kernel
theorem dX7_book_68 : decode cX7_book 68 = .ok (.invokevirtual 64, 3) := by decide +kernel
theorem dX7_book_71 : decode cX7_book 71 = .ok (.i2l, 1) := by decide +kernel
theorem dX7_book_72 : decode cX7_book 72 = .ok (.lastore, 1) := by decide +kernel
theorem dX7_book_73 : decode cX7_book 73 = .ok (.aload_n 0, 1) := by decide +kernel
theorem dX7_book_74 : decode cX7_book 74 = .ok (.invokevirtual 110, 3) := by decide +kernel
theorem dX7_book_77 : decode cX7_book 77 = .ok (.iinc 4 1, 3) := by decide +kernel
theorem dX7_book_80 : decode cX7_book 80 = .ok (.goto (-37), 3) := by decide +kernel
theorem dX7_book_83 : decode cX7_book 83 = .ok (.aload_n 0, 1) := by decide +kernel
theorem dX7_book_84 : decode cX7_book 84 = .ok (.iconst 0, 1) := by decide +kernel
theorem dX7_book_85 : decode cX7_book 85 = .ok (.aload_n 0, 1) := by decide +kernel
theorem dX7_book_86 : decode cX7_book 86 = .ok (.getfield 16, 3) := by decide +kernel
theorem dX7_book_89 : decode cX7_book 89 = .ok (.invokevirtual 117, 3) := by decide +kernel
theorem dX7_book_92 : decode cX7_book 92 = .ok (.aload_n 0, 1) := by decide +kernel
theorem dX7_book_93 : decode cX7_book 93 = .ok (.getfield 28, 3) := by decide +kernel
theorem dX7_book_96 : decode cX7_book 96 = .ok (.iload_n 1, 1) := by decide +kernel
theorem dX7_book_97 : decode cX7_book 97 = .ok (.iaload, 1) := by decide +kernel
theorem dX7_book_98 : decode cX7_book 98 = .ok (.ireturn, 1) := by decide +kernel
theorem dX7_isSo_0 : decode cX7_isSo 0 = .ok (.iconst 1, 1) := by decide +kernel
theorem dX7_isSo_1 : decode cX7_isSo 1 = .ok (.istore_n 3, 1) := by decide +kernel
theorem dX7_isSo_2 : decode cX7_isSo 2 = .ok (.iconst 0, 1) := by decide +kernel
theorem dX7_isSo_3 : decode cX7_isSo 3 = .ok (.istore 4, 2) := by decide +kernel
theorem dX7_isSo_5 : decode cX7_isSo 5 = .ok (.iload 4, 2) := by decide +kernel
theorem dX7_isSo_7 : decode cX7_isSo 7 = .ok (.aload_n 0, 1) := by decide +kernel
theorem dX7_isSo_8 : decode cX7_isSo 8 = .ok (.getfield 28, 3) := by decide +kernel
theorem dX7_isSo_11 : decode cX7_isSo 11 = .ok (.iload_n 1, 1) := by decide +kernel
theorem dX7_isSo_12 : decode cX7_isSo 12 = .ok (.iaload, 1) := by decide +kernel
end
section
theorem dX7_isSo_13 : decode cX7_isSo 13 = .ok (.if_icmp .ge 46, 3) := by decide +kernel
theorem dX7_isSo_16 : decode cX7_isSo 16 = .ok (.iload_n 3, 1) := by decide +kernel
theorem dX7_isSo_17 : decode cX7_isSo 17 = .ok (.ifCond .eq 42, 3) := by decide +kernel
theorem dX7_isSo_20 : decode cX7_isSo 20 = .ok (.aload_n 0, 1) := by decide +kernel
theorem dX7_isSo_21 : decode cX7_isSo 21 = .ok (.getfield 31, 3) := by decide +kernel
theorem dX7_isSo_24 : decode cX7_isSo 24 = .ok (.bipush 40, 2) := by decide +kernel
theorem dX7_isSo_26 : decode cX7_isSo 26 = .ok (.iload_n 1, 1) := by decide +kernel
theorem dX7_isSo_27 : decode cX7_isSo 27 = .ok (.imul, 1) := by decide +kernel
theorem dX7_isSo_28 : decode cX7_isSo 28 = .ok (.iload 4, 2) := by decide +kernel
theorem dX7_isSo_30 : decode cX7_isSo 30 = .ok (.iadd, 1) := by decide +kernel
theorem dX7_isSo_31 : decode cX7_isSo 31 = .ok (.laload, 1) := by decide +kernel
theorem dX7_isSo_32 : decode cX7_isSo 32 = .ok (.aload_n 0, 1) := by decide +kernel
theorem dX7_isSo_33 : decode cX7_isSo 33 = .ok (.iload_n 2, 1) := by decide +kernel
theorem dX7_isSo_34 : decode cX7_isSo 34 = .ok (.iconst 2, 1) := by decide +kernel
theorem dX7_isSo_35 : decode cX7_isSo 35 = .ok (.invokevirtual 64, 3) := by decide +kernel
theorem dX7_isSo_38 : decode cX7_isSo 38 = .ok (.i2l, 1) := by decide +kernel
theorem dX7_isSo_39 : decode cX7_isSo 39 = .ok (.lcmp, 1) := by decide +kernel
theorem dX7_isSo_40 : decode cX7_isSo 40 = .ok (.ifCond .ne 7, 3) := by decide +kernel
theorem dX7_isSo_43 : decode cX7_isSo 43 = .ok (.iconst 1, 1) := by decide +kernel
theorem dX7_isSo_44 : decode cX7_isSo 44 = .ok (.goto 4, 3) := by decide +kernel
theorem dX7_isSo_47 : decode cX7_isSo 47 = .ok (.iconst 0, 1) := by decide +kernel
theorem dX7_isSo_48 : decode cX7_isSo 48 = .ok (.istore_n 3, 1) := by decide +kernel
theorem dX7_isSo_49 : decode cX7_isSo 49 = .ok (.aload_n 0, 1) := by decide +kernel
theorem dX7_isSo_50 : decode cX7_isSo 50 = .ok (.invokevirtual 110, 3) := by decide +kernel
theorem dX7_isSo_53 : decode cX7_isSo 53 = .ok (.iinc 4 1, 3) := by decide +kernel
theorem dX7_isSo_56 : decode cX7_isSo 56 = .ok (.goto (-51), 3) := by decide +kernel
theorem dX7_isSo_59 : decode cX7_isSo 59 = .ok (.iload_n 3, 1) := by decide +kernel
theorem dX7_isSo_60 : decode cX7_isSo 60 = .ok (.ireturn, 1) := by decide +kernel
theorem dX7_read_0 : decode cX7_read 0 = .ok (.aload_n 0, 1) := by decide +kernel
theorem dX7_read_1 : decode cX7_read 1 = .ok (.iload_n 1, 1) := by decide +kernel
theorem dX7_read_2 : decode cX7_read 2 = .ok (.invokevirtual 226, 3) := by decide +kernel
theorem dX7_read_5 : decode cX7_read 5 = .ok (.istore_n 3, 1) := by decide +kernel
theorem dX7_read_6 : decode cX7_read 6 = .ok (.iload_n 3, 1) := by decide +kernel
theorem dX7_read_7 : decode cX7_read 7 = .ok (.ifCond .eq 9, 3) := by decide +kernel
theorem dX7_read_10 : decode cX7_read 10 = .ok (.aload_n 0, 1) := by decide +kernel
theorem dX7_read_11 : decode cX7_read 11 = .ok (.iload_n 3, 1) := by decide +kernel
theorem dX7_read_12 : decode cX7_read 12 = .ok (.invokevirtual 57, 3) := by decide +kernel
theorem dX7_read_15 : decode cX7_read 15 = .ok (.ireturn, 1) := by decide +kernel
theorem dX7_read_16 : decode cX7_read 16 = .ok (.aload_n 0, 1) := by decide +kernel
theorem dX7_read_17 : decode cX7_read 17 = .ok (.iload_n 2, 1) := by decide +kernel
theorem dX7_read_18 : decode cX7_read 18 = .ok (.invokevirtual 99, 3) := by decide +kernel
theorem dX7_read_21 : decode cX7_read 21 = .ok (.ifCond .ne 10, 3) := by decide +kernel
theorem dX7_read_24 : decode cX7_read 24 = .ok (.aload_n 0, 1) := by decide +kernel
theorem dX7_read_25 : decode cX7_read 25 = .ok (.ldc 44, 2) := by decide +kernel
theorem dX7_read_27 : decode cX7_read 27 = .ok (.invokevirtual 57, 3) := by decide +kernel
theorem dX7_read_30 : decode cX7_read 30 = .ok (.ireturn, 1) := by decide +kernel
theorem dX7_read_31 : decode cX7_read 31 = .ok (.iconst 0, 1) := by decide +kernel
theorem dX7_read_32 : decode cX7_read 32 = .ok (.istore 4, 2) := by decide +kernel
theorem dX7_read_34 : decode cX7_read 34 = .ok (.aload_n 0, 1) := by decide +kernel
theorem dX7_read_35 : decode cX7_read 35 = .ok (.iconst 1, 1) := by decide +kernel
theorem dX7_read_36 : decode cX7_read 36 = .ok (.aload_n 0, 1) := by decide +kernel
theorem dX7_read_37 : decode cX7_read 37 = .ok (.getfield 19, 3) := by decide +kernel
theorem dX7_read_40 : decode cX7_read 40 = .ok (.invokevirtual 117, 3) := by decide +kernel
theorem dX7_read_43 : decode cX7_read 43 = .ok (.iconst 0, 1) := by decide +kernel
theorem dX7_read_44 : decode cX7_read 44 = .ok (.istore 5, 2) := by decide +kernel
theorem dX7_read_46 : decode cX7_read 46 = .ok (.iload 5, 2) := by decide +kernel
theorem dX7_read_48 : decode cX7_read 48 = .ok (.sipush 600, 3) := by decide +kernel
theorem dX7_read_51 : decode cX7_read 51 = .ok (.if_icmp .ge 59, 3) := by decide +kernel
theorem dX7_read_54 : decode cX7_read 54 = .ok (.aload_n 0, 1) := by decide +kernel
theorem dX7_read_55 : decode cX7_read 55 = .ok (.iload_n 2, 1) := by decide +kernel
theorem dX7_read_56 : decode cX7_read 56 = .ok (.iconst 0, 1) := by decide +kernel
theorem dX7_read_57 : decode cX7_read 57 = .ok (.iload 5, 2) := by decide +kernel
theorem dX7_read_59 : decode cX7_read 59 = .ok (.bipush 100, 2) := by decide +kernel
theorem dX7_read_61 : decode cX7_read 61 = .ok (.idiv, 1) := by decide +kernel
theorem dX7_read_62 : decode cX7_read 62 = .ok (.invokevirtual 83, 3) := by decide +kernel
theorem dX7_read_65 : decode cX7_read 65 = .ok (.aload_n 0, 1) := by decide +kernel
theorem dX7_read_66 : decode cX7_read 66 = .ok (.iload_n 2, 1) := by decide +kernel
theorem dX7_read_67 : decode cX7_read 67 = .ok (.iconst 2, 1) := by decide +kernel
theorem dX7_read_68 : decode cX7_read 68 = .ok (.iload 5, 2) := by decide +kernel
theorem dX7_read_70 : decode cX7_read 70 = .ok (.bipush 100, 2) := by decide +kernel
theorem dX7_read_72 : decode cX7_read 72 = .ok (.irem, 1) := by decide +kernel
theorem dX7_read_73 : decode cX7_read 73 = .ok (.invokevirtual 83, 3) := by decide +kernel
theorem dX7_read_76 : decode cX7_read 76 = .ok (.iload 4, 2) := by decide +kernel
theorem dX7_read_78 : decode cX7_read 78 = .ok (.aload_n 0, 1) := by decide +kernel
theorem dX7_read_79 : decode cX7_read 79 = .ok (.iload_n 1, 1) := by decide +kernel
theorem dX7_read_80 : decode cX7_read 80 = .ok (.iload_n 2, 1) := by decide +kernel
theorem dX7_read_81 : decode cX7_read 81 = .ok (.invokevirtual 231, 3) := by decide +kernel
theorem dX7_read_84 : decode cX7_read 84 = .ok (.ifCond .eq 7, 3) := by decide +kernel
theorem dX7_read_87 : decode cX7_read 87 = .ok (.iconst 1, 1) := by decide +kernel
theorem dX7_read_88 : decode cX7_read 88 = .ok (.goto 4, 3) := by decide +kernel
theorem dX7_read_91 : decode cX7_read 91 = .ok (.iconst 0, 1) := by decide +kernel
theorem dX7_read_92 : decode cX7_read 92 = .ok (.iadd, 1) := by decide +kernel
theorem dX7_read_93 : decode cX7_read 93 = .ok (.istore 4, 2) := by decide +kernel
theorem dX7_read_95 : decode cX7_read 95 = .ok (.aload_n 0, 1) := by decide +kernel
theorem dX7_read_96 : decode cX7_read 96 = .ok (.iconst 0, 1) := by decide +kernel
theorem dX7_read_97 : decode cX7_read 97 = .ok (.aload_n 0, 1) := by decide +kernel
theorem dX7_read_98 : decode cX7_read 98 = .ok (.getfield 19, 3) := by decide +kernel
theorem dX7_read_101 : decode cX7_read 101 = .ok (.invokevirtual 117, 3) := by decide +kernel
theorem dX7_read_104 : decode cX7_read 104 = .ok (.iinc 5 1, 3) := by decide +kernel
theorem dX7_read_107 : decode cX7_read 107 = .ok (.goto (-61), 3) := by decide +kernel
theorem dX7_read_110 : decode cX7_read 110 = .ok (.iload 4, 2) := by decide +kernel
theorem dX7_read_112 : decode cX7_read 112 = .ok (.ireturn, 1) := by decide +kernel
theorem dX7_moveAll_0 : decode cX7_moveAll 0 = .ok (.iconst 0, 1) := by decide +kernel
theorem dX7_moveAll_1 : decode cX7_moveAll 1 = .ok (.istore_n 3, 1) := by decide +kernel
theorem dX7_moveAll_2 : decode cX7_moveAll 2 = .ok (.iload_n 3, 1) := by decide +kernel
theorem dX7_moveAll_3 : decode cX7_moveAll 3 = .ok (.bipush 58, 2) := by decide +kernel
theorem dX7_moveAll_5 : decode cX7_moveAll 5 = .ok (.if_icmp .ge 34, 3) := by decide +kernel
theorem dX7_moveAll_8 : decode cX7_moveAll 8 = .ok (.iload_n 1, 1) := by decide +kernel
theorem dX7_moveAll_9 : decode cX7_moveAll 9 = .ok (.ifCond .eq 15, 3) := by decide +kernel
theorem dX7_moveAll_12 : decode cX7_moveAll 12 = .ok (.aload_n 2, 1) := by decide +kernel
theorem dX7_moveAll_13 : decode cX7_moveAll 13 = .ok (.iload_n 3, 1) := by decide +kernel
theorem dX7_moveAll_14 : decode cX7_moveAll 14 = .ok (.aload_n 0, 1) := by decide +kernel
theorem dX7_moveAll_15 : decode cX7_moveAll 15 = .ok (.getfield 7, 3) := by decide +kernel
theorem dX7_moveAll_18 : decode cX7_moveAll 18 = .ok (.iload_n 3, 1) := by decide +kernel
theorem dX7_moveAll_19 : decode cX7_moveAll 19 = .ok (.iaload, 1) := by decide +kernel
theorem dX7_moveAll_20 : decode cX7_moveAll 20 = .ok (.iastore, 1) := by decide +kernel
theorem dX7_moveAll_21 : decode cX7_moveAll 21 = .ok (.goto 12, 3) := by decide +kernel
theorem dX7_moveAll_24 : decode cX7_moveAll 24 = .ok (.aload_n 0, 1) := by decide +kernel
theorem dX7_moveAll_25 : decode cX7_moveAll 25 = .ok (.getfield 7, 3) := by decide +kernel
theorem dX7_moveAll_28 : decode cX7_moveAll 28 = .ok (.iload_n 3, 1) := by decide +kernel
theorem dX7_moveAll_29 : decode cX7_moveAll 29 = .ok (.aload_n 2, 1) := by decide +kernel
theorem dX7_moveAll_30 : decode cX7_moveAll 30 = .ok (.iload_n 3, 1) := by decide +kernel
theorem dX7_moveAll_31 : decode cX7_moveAll 31 = .ok (.iaload, 1) := by decide +kernel
theorem dX7_moveAll_32 : decode cX7_moveAll 32 = .ok (.iastore, 1) := by decide +kernel
theorem dX7_moveAll_33 : decode cX7_moveAll 33 = .ok (.iinc 3 1, 3) := by decide +kernel
theorem dX7_moveAll_36 : decode cX7_moveAll 36 = .ok (.goto (-34), 3) := by decide +kernel
theorem dX7_moveAll_39 : decode cX7_moveAll 39 = .ok (.return_, 1) := by decide +kernel
theorem dX7_image_0 : decode cX7_image 0 = .ok (.aload_n 0, 1) := by decide +kernel
theorem dX7_image_1 : decode cX7_image 1 = .ok (.iconst 1, 1) := by decide +kernel
theorem dX7_image_2 : decode cX7_image 2 = .ok (.aload_n 0, 1) := by decide +kernel
theorem dX7_image_3 : decode cX7_image 3 = .ok (.getfield 38, 3) := by decide +kernel
theorem dX7_image_6 : decode cX7_image 6 = .ok (.invokevirtual 117, 3) := by decide +kernel
theorem dX7_image_9 : decode cX7_image 9 = .ok (.aload_n 0, 1) := by decide +kernel
theorem dX7_image_10 : decode cX7_image 10 = .ok (.iconst 1, 1) := by decide +kernel
theorem dX7_image_11 : decode cX7_image 11 = .ok (.putfield 234, 3) := by decide +kernel
theorem dX7_image_14 : decode cX7_image 14 = .ok (.iconst 1, 1) := by decide +kernel
theorem dX7_image_15 : decode cX7_image 15 = .ok (.ireturn, 1) := by decide +kernel
theorem dX7_undo_0 : decode cX7_undo 0 = .ok (.aload_n 0, 1) := by decide +kernel
theorem dX7_undo_1 : decode cX7_undo 1 = .ok (.getfield 234, 3) := by decide +kernel
theorem dX7_undo_4 : decode cX7_undo 4 = .ok (.ifCond .ne 10, 3) := by decide +kernel
theorem dX7_undo_7 : decode cX7_undo 7 = .ok (.aload_n 0, 1) := by decide +kernel
theorem dX7_undo_8 : decode cX7_undo 8 = .ok (.ldc 124, 2) := by decide +kernel
theorem dX7_undo_10 : decode cX7_undo 10 = .ok (.invokevirtual 57, 3) := by decide +kernel
theorem dX7_undo_13 : decode cX7_undo 13 = .ok (.ireturn, 1) := by decide +kernel
theorem dX7_undo_14 : decode cX7_undo 14 = .ok (.aload_n 0, 1) := by decide +kernel
theorem dX7_undo_15 : decode cX7_undo 15 = .ok (.iconst 0, 1) := by decide +kernel
theorem dX7_undo_16 : decode cX7_undo 16 = .ok (.aload_n 0, 1) := by decide +kernel
theorem dX7_undo_17 : decode cX7_undo 17 = .ok (.getfield 38, 3) := by decide +kernel
theorem dX7_undo_20 : decode cX7_undo 20 = .ok (.invokevirtual 117, 3) := by decide +kernel
theorem dX7_undo_23 : decode cX7_undo 23 = .ok (.aload_n 0, 1) := by decide +kernel
theorem dX7_undo_24 : decode cX7_undo 24 = .ok (.getfield 7, 3) := by decide +kernel
theorem dX7_undo_27 : decode cX7_undo 27 = .ok (.iconst 5, 1) := by decide +kernel
theorem dX7_undo_28 : decode cX7_undo 28 = .ok (.iaload, 1) := by decide +kernel
theorem dX7_undo_29 : decode cX7_undo 29 = .ok (.ireturn, 1) := by decide +kernel
theorem dX7_tear_0 : decode cX7_tear 0 = .ok (.aload_n 0, 1) := by decide +kernel
theorem dX7_tear_1 : decode cX7_tear 1 = .ok (.getfield 234, 3) := by decide +kernel
theorem dX7_tear_4 : decode cX7_tear 4 = .ok (.ifCond .eq 7, 3) := by decide +kernel
theorem dX7_tear_7 : decode cX7_tear 7 = .ok (.iconst 1, 1) := by decide +kernel
theorem dX7_tear_8 : decode cX7_tear 8 = .ok (.goto 4, 3) := by decide +kernel
theorem dX7_tear_11 : decode cX7_tear 11 = .ok (.iconst 0, 1) := by decide +kernel
theorem dX7_tear_12 : decode cX7_tear 12 = .ok (.istore_n 1, 1) := by decide +kernel
theorem dX7_tear_13 : decode cX7_tear 13 = .ok (.aload_n 0, 1) := by decide +kernel
theorem dX7_tear_14 : decode cX7_tear 14 = .ok (.iconst 0, 1) := by decide +kernel
theorem dX7_tear_15 : decode cX7_tear 15 = .ok (.putfield 234, 3) := by decide +kernel
theorem dX7_tear_18 : decode cX7_tear 18 = .ok (.iload_n 1, 1) := by decide +kernel
theorem dX7_tear_19 : decode cX7_tear 19 = .ok (.ireturn, 1) := by decide +kernel
theorem dX7_sumOf_0 : decode cX7_sumOf 0 = .ok (.iconst 0, 1) := by decide +kernel
theorem dX7_sumOf_1 : decode cX7_sumOf 1 = .ok (.istore_n 2, 1) := by decide +kernel
theorem dX7_sumOf_2 : decode cX7_sumOf 2 = .ok (.iconst 0, 1) := by decide +kernel
theorem dX7_sumOf_3 : decode cX7_sumOf 3 = .ok (.istore_n 3, 1) := by decide +kernel
theorem dX7_sumOf_4 : decode cX7_sumOf 4 = .ok (.iload_n 3, 1) := by decide +kernel
theorem dX7_sumOf_5 : decode cX7_sumOf 5 = .ok (.aload_n 0, 1) := by decide +kernel
theorem dX7_sumOf_6 : decode cX7_sumOf 6 = .ok (.getfield 7, 3) := by decide +kernel
theorem dX7_sumOf_9 : decode cX7_sumOf 9 = .ok (.iconst 5, 1) := by decide +kernel
theorem dX7_sumOf_10 : decode cX7_sumOf 10 = .ok (.iaload, 1) := by decide +kernel
theorem dX7_sumOf_11 : decode cX7_sumOf 11 = .ok (.if_icmp .ge 18, 3) := by decide +kernel
theorem dX7_sumOf_14 : decode cX7_sumOf 14 = .ok (.iload_n 2, 1) := by decide +kernel
theorem dX7_sumOf_15 : decode cX7_sumOf 15 = .ok (.aload_n 0, 1) := by decide +kernel
theorem dX7_sumOf_16 : decode cX7_sumOf 16 = .ok (.iload_n 3, 1) := by decide +kernel
theorem dX7_sumOf_17 : decode cX7_sumOf 17 = .ok (.iload_n 1, 1) := by decide +kernel
theorem dX7_sumOf_18 : decode cX7_sumOf 18 = .ok (.invokevirtual 64, 3) := by decide +kernel
theorem dX7_sumOf_21 : decode cX7_sumOf 21 = .ok (.iadd, 1) := by decide +kernel
theorem dX7_sumOf_22 : decode cX7_sumOf 22 = .ok (.istore_n 2, 1) := by decide +kernel
theorem dX7_sumOf_23 : decode cX7_sumOf 23 = .ok (.iinc 3 1, 3) := by decide +kernel
theorem dX7_sumOf_26 : decode cX7_sumOf 26 = .ok (.goto (-22), 3) := by decide +kernel
theorem dX7_sumOf_29 : decode cX7_sumOf 29 = .ok (.iload_n 2, 1) := by decide +kernel
theorem dX7_sumOf_30 : decode cX7_sumOf 30 = .ok (.ireturn, 1) := by decide +kernel
theorem dX7_count_0 : decode cX7_count 0 = .ok (.iload_n 1, 1) := by decide +kernel
theorem dX7_count_1 : decode cX7_count 1 = .ok (.tableswitch 55 0 3 #[31, 38, 43, 49], 31) := by decide +kernel
theorem dX7_count_32 : decode cX7_count 32 = .ok (.aload_n 0, 1) := by decide +kernel
theorem dX7_count_33 : decode cX7_count 33 = .ok (.getfield 7, 3) := by decide +kernel
theorem dX7_count_36 : decode cX7_count 36 = .ok (.iconst 5, 1) := by decide +kernel
theorem dX7_count_37 : decode cX7_count 37 = .ok (.iaload, 1) := by decide +kernel
theorem dX7_count_38 : decode cX7_count 38 = .ok (.ireturn, 1) := by decide +kernel
theorem dX7_count_39 : decode cX7_count 39 = .ok (.aload_n 0, 1) := by decide +kernel
theorem dX7_count_40 : decode cX7_count 40 = .ok (.getfield 131, 3) := by decide +kernel
theorem dX7_count_43 : decode cX7_count 43 = .ok (.ireturn, 1) := by decide +kernel
theorem dX7_count_44 : decode cX7_count 44 = .ok (.aload_n 0, 1) := by decide +kernel
theorem dX7_count_45 : decode cX7_count 45 = .ok (.iconst 3, 1) := by decide +kernel
theorem dX7_count_46 : decode cX7_count 46 = .ok (.invokevirtual 237, 3) := by decide +kernel
theorem dX7_count_49 : decode cX7_count 49 = .ok (.ireturn, 1) := by decide +kernel
theorem dX7_count_50 : decode cX7_count 50 = .ok (.aload_n 0, 1) := by decide +kernel
theorem dX7_count_51 : decode cX7_count 51 = .ok (.iconst 1, 1) := by decide +kernel
theorem dX7_count_52 : decode cX7_count 52 = .ok (.invokevirtual 237, 3) := by decide +kernel
theorem dX7_count_55 : decode cX7_count 55 = .ok (.ireturn, 1) := by decide +kernel
theorem dX7_count_56 : decode cX7_count 56 = .ok (.aload_n 0, 1) := by decide +kernel
theorem dX7_count_57 : decode cX7_count 57 = .ok (.ldc 44, 2) := by decide +kernel
theorem dX7_count_59 : decode cX7_count 59 = .ok (.invokevirtual 57, 3) := by decide +kernel
theorem dX7_count_62 : decode cX7_count 62 = .ok (.ireturn, 1) := by decide +kernel
theorem dX7_status_0 : decode cX7_status 0 = .ok (.iload_n 1, 1) := by decide +kernel
theorem dX7_status_1 : decode cX7_status 1 = .ok (.iconst (-1), 1) := by decide +kernel
theorem dX7_status_2 : decode cX7_status 2 = .ok (.bipush 6, 2) := by decide +kernel
theorem dX7_status_4 : decode cX7_status 4 = .ok (.invokestatic 45, 3) := by decide +kernel
theorem dX7_status_7 : decode cX7_status 7 = .ok (.ifCond .ne 10, 3) := by decide +kernel
theorem dX7_status_10 : decode cX7_status 10 = .ok (.aload_n 0, 1) := by decide +kernel
theorem dX7_status_11 : decode cX7_status 11 = .ok (.ldc 44, 2) := by decide +kernel
theorem dX7_status_13 : decode cX7_status 13 = .ok (.invokevirtual 57, 3) := by decide +kernel
theorem dX7_status_16 : decode cX7_status 16 = .ok (.ireturn, 1) := by decide +kernel
theorem dX7_status_17 : decode cX7_status 17 = .ok (.iconst 0, 1) := by decide +kernel
theorem dX7_status_18 : decode cX7_status 18 = .ok (.istore_n 2, 1) := by decide +kernel
theorem dX7_status_19 : decode cX7_status 19 = .ok (.iconst 0, 1) := by decide +kernel
theorem dX7_status_20 : decode cX7_status 20 = .ok (.istore_n 3, 1) := by decide +kernel
theorem dX7_status_21 : decode cX7_status 21 = .ok (.iload_n 3, 1) := by decide +kernel
theorem dX7_status_22 : decode cX7_status 22 = .ok (.bipush 7, 2) := by decide +kernel
theorem dX7_status_24 : decode cX7_status 24 = .ok (.if_icmp .ge 18, 3) := by decide +kernel
theorem dX7_status_27 : decode cX7_status 27 = .ok (.iload_n 2, 1) := by decide +kernel
theorem dX7_status_28 : decode cX7_status 28 = .ok (.aload_n 0, 1) := by decide +kernel
theorem dX7_status_29 : decode cX7_status 29 = .ok (.getfield 13, 3) := by decide +kernel
theorem dX7_status_32 : decode cX7_status 32 = .ok (.iload_n 3, 1) := by decide +kernel
theorem dX7_status_33 : decode cX7_status 33 = .ok (.iaload, 1) := by decide +kernel
theorem dX7_status_34 : decode cX7_status 34 = .ok (.iadd, 1) := by decide +kernel
theorem dX7_status_35 : decode cX7_status 35 = .ok (.istore_n 2, 1) := by decide +kernel
theorem dX7_status_36 : decode cX7_status 36 = .ok (.iinc 3 1, 3) := by decide +kernel
theorem dX7_status_39 : decode cX7_status 39 = .ok (.goto (-18), 3) := by decide +kernel
theorem dX7_status_42 : decode cX7_status 42 = .ok (.iload_n 1, 1) := by decide +kernel
theorem dX7_status_43 : decode cX7_status 43 = .ok (.ifCond .ge 7, 3) := by decide +kernel
theorem dX7_status_46 : decode cX7_status 46 = .ok (.iload_n 2, 1) := by decide +kernel
theorem dX7_status_47 : decode cX7_status 47 = .ok (.goto 17, 3) := by decide +kernel
theorem dX7_status_50 : decode cX7_status 50 = .ok (.aload_n 0, 1) := by decide +kernel
theorem dX7_status_51 : decode cX7_status 51 = .ok (.getfield 13, 3) := by decide +kernel
theorem dX7_status_54 : decode cX7_status 54 = .ok (.iload_n 1, 1) := by decide +kernel
theorem dX7_status_55 : decode cX7_status 55 = .ok (.ifCond .ge 7, 3) := by decide +kernel
theorem dX7_status_58 : decode cX7_status 58 = .ok (.iconst 0, 1) := by decide +kernel
theorem dX7_status_59 : decode cX7_status 59 = .ok (.goto 4, 3) := by decide +kernel
theorem dX7_status_62 : decode cX7_status 62 = .ok (.iload_n 1, 1) := by decide +kernel
theorem dX7_status_63 : decode cX7_status 63 = .ok (.iaload, 1) := by decide +kernel
theorem dX7_status_64 : decode cX7_status 64 = .ok (.ireturn, 1) := by decide +kernel
theorem dJ6_bitCount_0f7a4_0 : decode cJ6_bitCount_0f7a4 0 = .ok (.iload_n 0, 1) := by decide +kernel
theorem dJ6_bitCount_0f7a4_1 : decode cJ6_bitCount_0f7a4 1 = .ok (.iload_n 0, 1) := by decide +kernel
theorem dJ6_bitCount_0f7a4_2 : decode cJ6_bitCount_0f7a4 2 = .ok (.iconst 1, 1) := by decide +kernel
theorem dJ6_bitCount_0f7a4_3 : decode cJ6_bitCount_0f7a4 3 = .ok (.iushr, 1) := by decide +kernel
theorem dJ6_bitCount_0f7a4_4 : decode cJ6_bitCount_0f7a4 4 = .ok (.ldc_w 265, 3) := by decide +kernel
theorem dJ6_bitCount_0f7a4_7 : decode cJ6_bitCount_0f7a4 7 = .ok (.iand, 1) := by decide +kernel
theorem dJ6_bitCount_0f7a4_8 : decode cJ6_bitCount_0f7a4 8 = .ok (.isub, 1) := by decide +kernel
theorem dJ6_bitCount_0f7a4_9 : decode cJ6_bitCount_0f7a4 9 = .ok (.istore_n 0, 1) := by decide +kernel
theorem dJ6_bitCount_0f7a4_10 : decode cJ6_bitCount_0f7a4 10 = .ok (.iload_n 0, 1) := by decide +kernel
theorem dJ6_bitCount_0f7a4_11 : decode cJ6_bitCount_0f7a4 11 = .ok (.ldc_w 266, 3) := by decide +kernel
theorem dJ6_bitCount_0f7a4_14 : decode cJ6_bitCount_0f7a4 14 = .ok (.iand, 1) := by decide +kernel
theorem dJ6_bitCount_0f7a4_15 : decode cJ6_bitCount_0f7a4 15 = .ok (.iload_n 0, 1) := by decide +kernel
theorem dJ6_bitCount_0f7a4_16 : decode cJ6_bitCount_0f7a4 16 = .ok (.iconst 2, 1) := by decide +kernel
theorem dJ6_bitCount_0f7a4_17 : decode cJ6_bitCount_0f7a4 17 = .ok (.iushr, 1) := by decide +kernel
theorem dJ6_bitCount_0f7a4_18 : decode cJ6_bitCount_0f7a4 18 = .ok (.ldc_w 266, 3) := by decide +kernel
theorem dJ6_bitCount_0f7a4_21 : decode cJ6_bitCount_0f7a4 21 = .ok (.iand, 1) := by decide +kernel
theorem dJ6_bitCount_0f7a4_22 : decode cJ6_bitCount_0f7a4 22 = .ok (.iadd, 1) := by decide +kernel
theorem dJ6_bitCount_0f7a4_23 : decode cJ6_bitCount_0f7a4 23 = .ok (.istore_n 0, 1) := by decide +kernel
theorem dJ6_bitCount_0f7a4_24 : decode cJ6_bitCount_0f7a4 24 = .ok (.iload_n 0, 1) := by decide +kernel
theorem dJ6_bitCount_0f7a4_25 : decode cJ6_bitCount_0f7a4 25 = .ok (.iload_n 0, 1) := by decide +kernel
theorem dJ6_bitCount_0f7a4_26 : decode cJ6_bitCount_0f7a4 26 = .ok (.iconst 4, 1) := by decide +kernel
theorem dJ6_bitCount_0f7a4_27 : decode cJ6_bitCount_0f7a4 27 = .ok (.iushr, 1) := by decide +kernel
theorem dJ6_bitCount_0f7a4_28 : decode cJ6_bitCount_0f7a4 28 = .ok (.iadd, 1) := by decide +kernel
theorem dJ6_bitCount_0f7a4_29 : decode cJ6_bitCount_0f7a4 29 = .ok (.ldc_w 267, 3) := by decide +kernel
theorem dJ6_bitCount_0f7a4_32 : decode cJ6_bitCount_0f7a4 32 = .ok (.iand, 1) := by decide +kernel
theorem dJ6_bitCount_0f7a4_33 : decode cJ6_bitCount_0f7a4 33 = .ok (.istore_n 0, 1) := by decide +kernel
theorem dJ6_bitCount_0f7a4_34 : decode cJ6_bitCount_0f7a4 34 = .ok (.iload_n 0, 1) := by decide +kernel
theorem dJ6_bitCount_0f7a4_35 : decode cJ6_bitCount_0f7a4 35 = .ok (.iload_n 0, 1) := by decide +kernel
theorem dJ6_bitCount_0f7a4_36 : decode cJ6_bitCount_0f7a4 36 = .ok (.bipush 8, 2) := by decide +kernel
theorem dJ6_bitCount_0f7a4_38 : decode cJ6_bitCount_0f7a4 38 = .ok (.iushr, 1) := by decide +kernel
theorem dJ6_bitCount_0f7a4_39 : decode cJ6_bitCount_0f7a4 39 = .ok (.iadd, 1) := by decide +kernel
theorem dJ6_bitCount_0f7a4_40 : decode cJ6_bitCount_0f7a4 40 = .ok (.istore_n 0, 1) := by decide +kernel
theorem dJ6_bitCount_0f7a4_41 : decode cJ6_bitCount_0f7a4 41 = .ok (.iload_n 0, 1) := by decide +kernel
theorem dJ6_bitCount_0f7a4_42 : decode cJ6_bitCount_0f7a4 42 = .ok (.iload_n 0, 1) := by decide +kernel
theorem dJ6_bitCount_0f7a4_43 : decode cJ6_bitCount_0f7a4 43 = .ok (.bipush 16, 2) := by decide +kernel
theorem dJ6_bitCount_0f7a4_45 : decode cJ6_bitCount_0f7a4 45 = .ok (.iushr, 1) := by decide +kernel
theorem dJ6_bitCount_0f7a4_46 : decode cJ6_bitCount_0f7a4 46 = .ok (.iadd, 1) := by decide +kernel
theorem dJ6_bitCount_0f7a4_47 : decode cJ6_bitCount_0f7a4 47 = .ok (.istore_n 0, 1) := by decide +kernel
theorem dJ6_bitCount_0f7a4_48 : decode cJ6_bitCount_0f7a4 48 = .ok (.iload_n 0, 1) := by decide +kernel
theorem dJ6_bitCount_0f7a4_49 : decode cJ6_bitCount_0f7a4 49 = .ok (.bipush 63, 2) := by decide +kernel
theorem dJ6_bitCount_0f7a4_51 : decode cJ6_bitCount_0f7a4 51 = .ok (.iand, 1) := by decide +kernel
theorem dJ6_bitCount_0f7a4_52 : decode cJ6_bitCount_0f7a4 52 = .ok (.ireturn, 1) := by decide +kernel
theorem dJ9_floorMod_7cf53_0 : decode cJ9_floorMod_7cf53 0 = .ok (.iload_n 0, 1) := by decide +kernel
theorem dJ9_floorMod_7cf53_1 : decode cJ9_floorMod_7cf53 1 = .ok (.iload_n 1, 1) := by decide +kernel
theorem dJ9_floorMod_7cf53_2 : decode cJ9_floorMod_7cf53 2 = .ok (.irem, 1) := by decide +kernel
theorem dJ9_floorMod_7cf53_3 : decode cJ9_floorMod_7cf53 3 = .ok (.istore_n 2, 1) := by decide +kernel
theorem dJ9_floorMod_7cf53_4 : decode cJ9_floorMod_7cf53 4 = .ok (.iload_n 0, 1) := by decide +kernel
theorem dJ9_floorMod_7cf53_5 : decode cJ9_floorMod_7cf53 5 = .ok (.iload_n 1, 1) := by decide +kernel
theorem dJ9_floorMod_7cf53_6 : decode cJ9_floorMod_7cf53 6 = .ok (.ixor, 1) := by decide +kernel
theorem dJ9_floorMod_7cf53_7 : decode cJ9_floorMod_7cf53 7 = .ok (.ifCond .ge 11, 3) := by decide +kernel
theorem dJ9_floorMod_7cf53_10 : decode cJ9_floorMod_7cf53 10 = .ok (.iload_n 2, 1) := by decide +kernel
theorem dJ9_floorMod_7cf53_11 : decode cJ9_floorMod_7cf53 11 = .ok (.ifCond .eq 7, 3) := by decide +kernel
theorem dJ9_floorMod_7cf53_14 : decode cJ9_floorMod_7cf53 14 = .ok (.iload_n 2, 1) := by decide +kernel
theorem dJ9_floorMod_7cf53_15 : decode cJ9_floorMod_7cf53 15 = .ok (.iload_n 1, 1) := by decide +kernel
theorem dJ9_floorMod_7cf53_16 : decode cJ9_floorMod_7cf53 16 = .ok (.iadd, 1) := by decide +kernel
theorem dJ9_floorMod_7cf53_17 : decode cJ9_floorMod_7cf53 17 = .ok (.ireturn, 1) := by decide +kernel
theorem dJ9_floorMod_7cf53_18 : decode cJ9_floorMod_7cf53 18 = .ok (.iload_n 2, 1) := by decide +kernel
theorem dJ9_floorMod_7cf53_19 : decode cJ9_floorMod_7cf53 19 = .ok (.ireturn, 1) := by decide +kernel
theorem dJ9_max_7cf53_0 : decode cJ9_max_7cf53 0 = .ok (.iload_n 0, 1) := by decide +kernel
theorem dJ9_max_7cf53_1 : decode cJ9_max_7cf53 1 = .ok (.iload_n 1, 1) := by decide +kernel
theorem dJ9_max_7cf53_2 : decode cJ9_max_7cf53 2 = .ok (.if_icmp .lt 7, 3) := by decide +kernel
theorem dJ9_max_7cf53_5 : decode cJ9_max_7cf53 5 = .ok (.iload_n 0, 1) := by decide +kernel
theorem dJ9_max_7cf53_6 : decode cJ9_max_7cf53 6 = .ok (.goto 4, 3) := by decide +kernel
theorem dJ9_max_7cf53_9 : decode cJ9_max_7cf53 9 = .ok (.iload_n 1, 1) := by decide +kernel
theorem dJ9_max_7cf53_10 : decode cJ9_max_7cf53 10 = .ok (.ireturn, 1) := by decide +kernel
theorem dJ9_min_7cf53_0 : decode cJ9_min_7cf53 0 = .ok (.iload_n 0, 1) := by decide +kernel
theorem dJ9_min_7cf53_1 : decode cJ9_min_7cf53 1 = .ok (.iload_n 1, 1) := by decide +kernel
theorem dJ9_min_7cf53_2 : decode cJ9_min_7cf53 2 = .ok (.if_icmp .gt 7, 3) := by decide +kernel
theorem dJ9_min_7cf53_5 : decode cJ9_min_7cf53 5 = .ok (.iload_n 0, 1) := by decide +kernel
theorem dJ9_min_7cf53_6 : decode cJ9_min_7cf53 6 = .ok (.goto 4, 3) := by decide +kernel
theorem dJ9_min_7cf53_9 : decode cJ9_min_7cf53 9 = .ok (.iload_n 1, 1) := by decide +kernel
theorem dJ9_min_7cf53_10 : decode cJ9_min_7cf53 10 = .ok (.ireturn, 1) := by decide +kernel
theorem dJ0_length_8abf5_0 : decode cJ0_length_8abf5 0 = .ok (.aload_n 0, 1) := by decide +kernel
theorem dJ0_length_8abf5_1 : decode cJ0_length_8abf5 1 = .ok (.getfield 9, 3) := by decide +kernel
theorem dJ0_length_8abf5_4 : decode cJ0_length_8abf5 4 = .ok (.arraylength, 1) := by decide +kernel
theorem dJ0_length_8abf5_5 : decode cJ0_length_8abf5 5 = .ok (.aload_n 0, 1) := by decide +kernel
theorem dJ0_length_8abf5_6 : decode cJ0_length_8abf5 6 = .ok (.invokevirtual 335, 3) := by decide +kernel
theorem dJ0_length_8abf5_9 : decode cJ0_length_8abf5 9 = .ok (.ishr, 1) := by decide +kernel
theorem dJ0_length_8abf5_10 : decode cJ0_length_8abf5 10 = .ok (.ireturn, 1) := by decide +kernel
theorem dJ0_charAt_5068e_0 : decode cJ0_charAt_5068e 0 = .ok (.aload_n 0, 1) := by decide +kernel
theorem dJ0_charAt_5068e_1 : decode cJ0_charAt_5068e 1 = .ok (.invokevirtual 492, 3) := by decide +kernel
theorem dJ0_charAt_5068e_4 : decode cJ0_charAt_5068e 4 = .ok (.ifCond .eq 12, 3) := by decide +kernel
theorem dJ0_charAt_5068e_7 : decode cJ0_charAt_5068e 7 = .ok (.aload_n 0, 1) := by decide +kernel
theorem dJ0_charAt_5068e_8 : decode cJ0_charAt_5068e 8 = .ok (.getfield 9, 3) := by decide +kernel
theorem dJ0_charAt_5068e_11 : decode cJ0_charAt_5068e 11 = .ok (.iload_n 1, 1) := by decide +kernel
theorem dJ0_charAt_5068e_12 : decode cJ0_charAt_5068e 12 = .ok (.invokestatic 495, 3) := by decide +kernel
theorem dJ0_charAt_5068e_15 : decode cJ0_charAt_5068e 15 = .ok (.ireturn, 1) := by decide +kernel
theorem dJ0_charAt_5068e_16 : decode cJ0_charAt_5068e 16 = .ok (.aload_n 0, 1) := by decide +kernel
theorem dJ0_charAt_5068e_17 : decode cJ0_charAt_5068e 17 = .ok (.getfield 9, 3) := by decide +kernel
theorem dJ0_charAt_5068e_20 : decode cJ0_charAt_5068e 20 = .ok (.iload_n 1, 1) := by decide +kernel
theorem dJ0_charAt_5068e_21 : decode cJ0_charAt_5068e 21 = .ok (.invokestatic 498, 3) := by decide +kernel
theorem dJ0_charAt_5068e_24 : decode cJ0_charAt_5068e 24 = .ok (.ireturn, 1) := by decide +kernel
theorem dJ0_coder_7d493_0 : decode cJ0_coder_7d493 0 = .ok (.getstatic 38, 3) := by decide +kernel
theorem dJ0_coder_7d493_3 : decode cJ0_coder_7d493 3 = .ok (.ifCond .eq 10, 3) := by decide +kernel
theorem dJ0_coder_7d493_6 : decode cJ0_coder_7d493 6 = .ok (.aload_n 0, 1) := by decide +kernel
theorem dJ0_coder_7d493_7 : decode cJ0_coder_7d493 7 = .ok (.getfield 15, 3) := by decide +kernel
theorem dJ0_coder_7d493_10 : decode cJ0_coder_7d493 10 = .ok (.goto 4, 3) := by decide +kernel
theorem dJ0_coder_7d493_13 : decode cJ0_coder_7d493 13 = .ok (.iconst 1, 1) := by decide +kernel
theorem dJ0_coder_7d493_14 : decode cJ0_coder_7d493 14 = .ok (.ireturn, 1) := by decide +kernel
theorem dJ0_isLatin1_aae02_0 : decode cJ0_isLatin1_aae02 0 = .ok (.getstatic 38, 3) := by decide +kernel
theorem dJ0_isLatin1_aae02_3 : decode cJ0_isLatin1_aae02 3 = .ok (.ifCond .eq 14, 3) := by decide +kernel
theorem dJ0_isLatin1_aae02_6 : decode cJ0_isLatin1_aae02 6 = .ok (.aload_n 0, 1) := by decide +kernel
theorem dJ0_isLatin1_aae02_7 : decode cJ0_isLatin1_aae02 7 = .ok (.getfield 15, 3) := by decide +kernel
theorem dJ0_isLatin1_aae02_10 : decode cJ0_isLatin1_aae02 10 = .ok (.ifCond .ne 7, 3) := by decide +kernel
theorem dJ0_isLatin1_aae02_13 : decode cJ0_isLatin1_aae02 13 = .ok (.iconst 1, 1) := by decide +kernel
theorem dJ0_isLatin1_aae02_14 : decode cJ0_isLatin1_aae02 14 = .ok (.goto 4, 3) := by decide +kernel
theorem dJ0_isLatin1_aae02_17 : decode cJ0_isLatin1_aae02 17 = .ok (.iconst 0, 1) := by decide +kernel
theorem dJ0_isLatin1_aae02_18 : decode cJ0_isLatin1_aae02 18 = .ok (.ireturn, 1) := by decide +kernel
theorem dJ0_checkIndex_df160_0 : decode cJ0_checkIndex_df160 0 = .ok (.iload_n 0, 1) := by decide +kernel
theorem dJ0_checkIndex_df160_1 : decode cJ0_checkIndex_df160 1 = .ok (.iload_n 1, 1) := by decide +kernel
theorem dJ0_checkIndex_df160_2 : decode cJ0_checkIndex_df160 2 = .ok (.getstatic 1053, 3) := by decide +kernel
theorem dJ0_checkIndex_df160_5 : decode cJ0_checkIndex_df160 5 = .ok (.invokestatic 1059, 3) := by decide +kernel
theorem dJ0_checkIndex_df160_8 : decode cJ0_checkIndex_df160 8 = .ok (.pop, 1) := by decide +kernel
theorem dJ0_checkIndex_df160_9 : decode cJ0_checkIndex_df160 9 = .ok (.return_, 1) := by decide +kernel
theorem dJ1_charAt_3b067_0 : decode cJ1_charAt_3b067 0 = .ok (.iload_n 1, 1) := by decide +kernel
theorem dJ1_charAt_3b067_1 : decode cJ1_charAt_3b067 1 = .ok (.aload_n 0, 1) := by decide +kernel
theorem dJ1_charAt_3b067_2 : decode cJ1_charAt_3b067 2 = .ok (.arraylength, 1) := by decide +kernel
theorem dJ1_charAt_3b067_3 : decode cJ1_charAt_3b067 3 = .ok (.invokestatic 9, 3) := by decide +kernel
theorem dJ1_charAt_3b067_6 : decode cJ1_charAt_3b067 6 = .ok (.aload_n 0, 1) := by decide +kernel
theorem dJ1_charAt_3b067_7 : decode cJ1_charAt_3b067 7 = .ok (.iload_n 1, 1) := by decide +kernel
theorem dJ1_charAt_3b067_8 : decode cJ1_charAt_3b067 8 = .ok (.baload, 1) := by decide +kernel
theorem dJ1_charAt_3b067_9 : decode cJ1_charAt_3b067 9 = .ok (.sipush 255, 3) := by decide +kernel
theorem dJ1_charAt_3b067_12 : decode cJ1_charAt_3b067 12 = .ok (.iand, 1) := by decide +kernel
theorem dJ1_charAt_3b067_13 : decode cJ1_charAt_3b067 13 = .ok (.i2c, 1) := by decide +kernel
theorem dJ1_charAt_3b067_14 : decode cJ1_charAt_3b067 14 = .ok (.ireturn, 1) := by decide +kernel
theorem dJ2_getChar_3b067_0 : decode cJ2_getChar_3b067 0 = .ok (.getstatic 44, 3) := by decide +kernel
theorem dJ2_getChar_3b067_3 : decode cJ2_getChar_3b067 3 = .ok (.ifCond .ne 25, 3) := by decide +kernel
theorem dJ2_getChar_3b067_6 : decode cJ2_getChar_3b067 6 = .ok (.iload_n 1, 1) := by decide +kernel
theorem dJ2_getChar_3b067_7 : decode cJ2_getChar_3b067 7 = .ok (.ifCond .lt 11, 3) := by decide +kernel
theorem dJ2_getChar_3b067_10 : decode cJ2_getChar_3b067 10 = .ok (.iload_n 1, 1) := by decide +kernel
theorem dJ2_getChar_3b067_11 : decode cJ2_getChar_3b067 11 = .ok (.aload_n 0, 1) := by decide +kernel
theorem dJ2_getChar_3b067_12 : decode cJ2_getChar_3b067 12 = .ok (.invokestatic 48, 3) := by decide +kernel
theorem dJ2_getChar_3b067_15 : decode cJ2_getChar_3b067 15 = .ok (.if_icmp .lt 13, 3) := by decide +kernel
theorem dJ2_getChar_3b067_18 : decode cJ2_getChar_3b067 18 = .ok (.new 52, 3) := by decide +kernel
theorem dJ2_getChar_3b067_21 : decode cJ2_getChar_3b067 21 = .ok (.dup, 1) := by decide +kernel
theorem dJ2_getChar_3b067_22 : decode cJ2_getChar_3b067 22 = .ok (.ldc 54, 2) := by decide +kernel
theorem dJ2_getChar_3b067_24 : decode cJ2_getChar_3b067 24 = .ok (.invokespecial 56, 3) := by decide +kernel
theorem dJ2_getChar_3b067_27 : decode cJ2_getChar_3b067 27 = .ok (.athrow, 1) := by decide +kernel
theorem dJ2_getChar_3b067_28 : decode cJ2_getChar_3b067 28 = .ok (.iload_n 1, 1) := by decide +kernel
theorem dJ2_getChar_3b067_29 : decode cJ2_getChar_3b067 29 = .ok (.iconst 1, 1) := by decide +kernel
theorem dJ2_getChar_3b067_30 : decode cJ2_getChar_3b067 30 = .ok (.ishl, 1) := by decide +kernel
theorem dJ2_getChar_3b067_31 : decode cJ2_getChar_3b067 31 = .ok (.istore_n 1, 1) := by decide +kernel
theorem dJ2_getChar_3b067_32 : decode cJ2_getChar_3b067 32 = .ok (.aload_n 0, 1) := by decide +kernel
theorem dJ2_getChar_3b067_33 : decode cJ2_getChar_3b067 33 = .ok (.iload_n 1, 1) := by decide +kernel
theorem dJ2_getChar_3b067_34 : decode cJ2_getChar_3b067 34 = .ok (.iinc 1 1, 3) := by decide +kernel
theorem dJ2_getChar_3b067_37 : decode cJ2_getChar_3b067 37 = .ok (.baload, 1) := by decide +kernel
theorem dJ2_getChar_3b067_38 : decode cJ2_getChar_3b067 38 = .ok (.sipush 255, 3) := by decide +kernel
theorem dJ2_getChar_3b067_41 : decode cJ2_getChar_3b067 41 = .ok (.iand, 1) := by decide +kernel
theorem dJ2_getChar_3b067_42 : decode cJ2_getChar_3b067 42 = .ok (.getstatic 59, 3) := by decide +kernel
theorem dJ2_getChar_3b067_45 : decode cJ2_getChar_3b067 45 = .ok (.ishl, 1) := by decide +kernel
theorem dJ2_getChar_3b067_46 : decode cJ2_getChar_3b067 46 = .ok (.aload_n 0, 1) := by decide +kernel
theorem dJ2_getChar_3b067_47 : decode cJ2_getChar_3b067 47 = .ok (.iload_n 1, 1) := by decide +kernel
theorem dJ2_getChar_3b067_48 : decode cJ2_getChar_3b067 48 = .ok (.baload, 1) := by decide +kernel
theorem dJ2_getChar_3b067_49 : decode cJ2_getChar_3b067 49 = .ok (.sipush 255, 3) := by decide +kernel
theorem dJ2_getChar_3b067_52 : decode cJ2_getChar_3b067 52 = .ok (.iand, 1) := by decide +kernel
theorem dJ2_getChar_3b067_53 : decode cJ2_getChar_3b067 53 = .ok (.getstatic 63, 3) := by decide +kernel
theorem dJ2_getChar_3b067_56 : decode cJ2_getChar_3b067 56 = .ok (.ishl, 1) := by decide +kernel
theorem dJ2_getChar_3b067_57 : decode cJ2_getChar_3b067 57 = .ok (.ior, 1) := by decide +kernel
theorem dJ2_getChar_3b067_58 : decode cJ2_getChar_3b067 58 = .ok (.i2c, 1) := by decide +kernel
theorem dJ2_getChar_3b067_59 : decode cJ2_getChar_3b067 59 = .ok (.ireturn, 1) := by decide +kernel
theorem dJ2_length_9d52b_0 : decode cJ2_length_9d52b 0 = .ok (.aload_n 0, 1) := by decide +kernel
theorem dJ2_length_9d52b_1 : decode cJ2_length_9d52b 1 = .ok (.arraylength, 1) := by decide +kernel
theorem dJ2_length_9d52b_2 : decode cJ2_length_9d52b 2 = .ok (.iconst 1, 1) := by decide +kernel
theorem dJ2_length_9d52b_3 : decode cJ2_length_9d52b 3 = .ok (.ishr, 1) := by decide +kernel
theorem dJ2_length_9d52b_4 : decode cJ2_length_9d52b 4 = .ok (.ireturn, 1) := by decide +kernel
theorem dJ2_charAt_3b067_0 : decode cJ2_charAt_3b067 0 = .ok (.iload_n 1, 1) := by decide +kernel
theorem dJ2_charAt_3b067_1 : decode cJ2_charAt_3b067 1 = .ok (.aload_n 0, 1) := by decide +kernel
theorem dJ2_charAt_3b067_2 : decode cJ2_charAt_3b067 2 = .ok (.invokestatic 67, 3) := by decide +kernel
theorem dJ2_charAt_3b067_5 : decode cJ2_charAt_3b067 5 = .ok (.aload_n 0, 1) := by decide +kernel
theorem dJ2_charAt_3b067_6 : decode cJ2_charAt_3b067 6 = .ok (.iload_n 1, 1) := by decide +kernel
theorem dJ2_charAt_3b067_7 : decode cJ2_charAt_3b067 7 = .ok (.invokestatic 71, 3) := by decide +kernel
theorem dJ2_charAt_3b067_10 : decode cJ2_charAt_3b067 10 = .ok (.ireturn, 1) := by decide +kernel
theorem dJ2_checkIndex_2214a_0 : decode cJ2_checkIndex_2214a 0 = .ok (.iload_n 0, 1) := by decide +kernel
theorem dJ2_checkIndex_2214a_1 : decode cJ2_checkIndex_2214a 1 = .ok (.aload_n 1, 1) := by decide +kernel
theorem dJ2_checkIndex_2214a_2 : decode cJ2_checkIndex_2214a 2 = .ok (.invokestatic 48, 3) := by decide +kernel
theorem dJ2_checkIndex_2214a_5 : decode cJ2_checkIndex_2214a 5 = .ok (.invokestatic 414, 3) := by decide +kernel
theorem dJ2_checkIndex_2214a_8 : decode cJ2_checkIndex_2214a 8 = .ok (.return_, 1) := by decide +kernel
theorem dJ7_fill_d0a16_0 : decode cJ7_fill_d0a16 0 = .ok (.iconst 0, 1) := by decide +kernel
theorem dJ7_fill_d0a16_1 : decode cJ7_fill_d0a16 1 = .ok (.istore_n 3, 1) := by decide +kernel
theorem dJ7_fill_d0a16_2 : decode cJ7_fill_d0a16 2 = .ok (.aload_n 0, 1) := by decide +kernel
theorem dJ7_fill_d0a16_3 : decode cJ7_fill_d0a16 3 = .ok (.arraylength, 1) := by decide +kernel
theorem dJ7_fill_d0a16_4 : decode cJ7_fill_d0a16 4 = .ok (.istore 4, 2) := by decide +kernel
theorem dJ7_fill_d0a16_6 : decode cJ7_fill_d0a16 6 = .ok (.iload_n 3, 1) := by decide +kernel
theorem dJ7_fill_d0a16_7 : decode cJ7_fill_d0a16 7 = .ok (.iload 4, 2) := by decide +kernel
theorem dJ7_fill_d0a16_9 : decode cJ7_fill_d0a16 9 = .ok (.if_icmp .ge 13, 3) := by decide +kernel
theorem dJ7_fill_d0a16_12 : decode cJ7_fill_d0a16 12 = .ok (.aload_n 0, 1) := by decide +kernel
theorem dJ7_fill_d0a16_13 : decode cJ7_fill_d0a16 13 = .ok (.iload_n 3, 1) := by decide +kernel
theorem dJ7_fill_d0a16_14 : decode cJ7_fill_d0a16 14 = .ok (.lload_n 1, 1) := by decide +kernel
theorem dJ7_fill_d0a16_15 : decode cJ7_fill_d0a16 15 = .ok (.lastore, 1) := by decide +kernel
theorem dJ7_fill_d0a16_16 : decode cJ7_fill_d0a16 16 = .ok (.iinc 3 1, 3) := by decide +kernel
theorem dJ7_fill_d0a16_19 : decode cJ7_fill_d0a16 19 = .ok (.goto (-13), 3) := by decide +kernel
theorem dJ7_fill_d0a16_22 : decode cJ7_fill_d0a16 22 = .ok (.return_, 1) := by decide +kernel
theorem dJ3_checkIndex_8e157_0 : decode cJ3_checkIndex_8e157 0 = .ok (.iload_n 0, 1) := by decide +kernel
theorem dJ3_checkIndex_8e157_1 : decode cJ3_checkIndex_8e157 1 = .ok (.ifCond .lt 8, 3) := by decide +kernel
theorem dJ3_checkIndex_8e157_4 : decode cJ3_checkIndex_8e157 4 = .ok (.iload_n 0, 1) := by decide +kernel
theorem dJ3_checkIndex_8e157_5 : decode cJ3_checkIndex_8e157 5 = .ok (.iload_n 1, 1) := by decide +kernel
theorem dJ3_checkIndex_8e157_6 : decode cJ3_checkIndex_8e157 6 = .ok (.if_icmp .lt 10, 3) := by decide +kernel
theorem dJ3_checkIndex_8e157_9 : decode cJ3_checkIndex_8e157 9 = .ok (.aload_n 2, 1) := by decide +kernel
theorem dJ3_checkIndex_8e157_10 : decode cJ3_checkIndex_8e157 10 = .ok (.iload_n 0, 1) := by decide +kernel
theorem dJ3_checkIndex_8e157_11 : decode cJ3_checkIndex_8e157 11 = .ok (.iload_n 1, 1) := by decide +kernel
theorem dJ3_checkIndex_8e157_12 : decode cJ3_checkIndex_8e157 12 = .ok (.invokestatic 95, 3) := by decide +kernel
theorem dJ3_checkIndex_8e157_15 : decode cJ3_checkIndex_8e157 15 = .ok (.athrow, 1) := by decide +kernel
theorem dJ3_checkIndex_8e157_16 : decode cJ3_checkIndex_8e157 16 = .ok (.iload_n 0, 1) := by decide +kernel
theorem dJ3_checkIndex_8e157_17 : decode cJ3_checkIndex_8e157 17 = .ok (.ireturn, 1) := by decide +kernel
theorem dL_law_0 : decode cL_law 0 = .ok (.new 7, 3) := by decide +kernel
theorem dL_law_3 : decode cL_law 3 = .ok (.dup, 1) := by decide +kernel
theorem dL_law_4 : decode cL_law 4 = .ok (.invokespecial 9, 3) := by decide +kernel
theorem dL_law_7 : decode cL_law 7 = .ok (.astore_n 1, 1) := by decide +kernel
theorem dL_law_8 : decode cL_law 8 = .ok (.new 10, 3) := by decide +kernel
theorem dL_law_11 : decode cL_law 11 = .ok (.dup, 1) := by decide +kernel
theorem dL_law_12 : decode cL_law 12 = .ok (.invokespecial 12, 3) := by decide +kernel
theorem dL_law_15 : decode cL_law 15 = .ok (.astore_n 2, 1) := by decide +kernel
theorem dL_law_16 : decode cL_law 16 = .ok (.iconst 0, 1) := by decide +kernel
theorem dL_law_17 : decode cL_law 17 = .ok (.istore_n 3, 1) := by decide +kernel
theorem dL_law_18 : decode cL_law 18 = .ok (.iload_n 3, 1) := by decide +kernel
theorem dL_law_19 : decode cL_law 19 = .ok (.aload_n 0, 1) := by decide +kernel
theorem dL_law_20 : decode cL_law 20 = .ok (.arraylength, 1) := by decide +kernel
theorem dL_law_21 : decode cL_law 21 = .ok (.bipush 6, 2) := by decide +kernel
theorem dL_law_23 : decode cL_law 23 = .ok (.isub, 1) := by decide +kernel
theorem dL_law_24 : decode cL_law 24 = .ok (.if_icmp .gt 1270, 3) := by decide +kernel
theorem dL_law_27 : decode cL_law 27 = .ok (.aload_n 0, 1) := by decide +kernel
theorem dL_law_28 : decode cL_law 28 = .ok (.iload_n 3, 1) := by decide +kernel
theorem dL_law_29 : decode cL_law 29 = .ok (.iaload, 1) := by decide +kernel
theorem dL_law_30 : decode cL_law 30 = .ok (.bipush 63, 2) := by decide +kernel
theorem dL_law_32 : decode cL_law 32 = .ok (.iand, 1) := by decide +kernel
theorem dL_law_33 : decode cL_law 33 = .ok (.tableswitch 1255 0 36 #[163, 196, 229, 252, 285, 318, 361, 394, 427, 450, 473, 496, 519, 562, 585, 608, 631, 664, 687, 720, 753, 786, 809, 842, 875, 888, 901, 944, 1018, 1081, 1104, 1137, 1170, 1183, 1196, 1209, 1232], 163) := by decide +kernel
theorem dL_law_196 : decode cL_law 196 = .ok (.aload_n 1, 1) := by decide +kernel
theorem dL_law_197 : decode cL_law 197 = .ok (.aload_n 0, 1) := by decide +kernel
theorem dL_law_198 : decode cL_law 198 = .ok (.iload_n 3, 1) := by decide +kernel
theorem dL_law_199 : decode cL_law 199 = .ok (.iconst 1, 1) := by decide +kernel
theorem dL_law_200 : decode cL_law 200 = .ok (.iadd, 1) := by decide +kernel
theorem dL_law_201 : decode cL_law 201 = .ok (.iaload, 1) := by decide +kernel
theorem dL_law_202 : decode cL_law 202 = .ok (.aload_n 0, 1) := by decide +kernel
theorem dL_law_203 : decode cL_law 203 = .ok (.iload_n 3, 1) := by decide +kernel
theorem dL_law_204 : decode cL_law 204 = .ok (.iconst 2, 1) := by decide +kernel
theorem dL_law_205 : decode cL_law 205 = .ok (.iadd, 1) := by decide +kernel
theorem dL_law_206 : decode cL_law 206 = .ok (.iaload, 1) := by decide +kernel
theorem dL_law_207 : decode cL_law 207 = .ok (.invokevirtual 13, 3) := by decide +kernel
theorem dL_law_210 : decode cL_law 210 = .ok (.aload_n 2, 1) := by decide +kernel
theorem dL_law_211 : decode cL_law 211 = .ok (.aload_n 0, 1) := by decide +kernel
theorem dL_law_212 : decode cL_law 212 = .ok (.iload_n 3, 1) := by decide +kernel
theorem dL_law_213 : decode cL_law 213 = .ok (.iconst 1, 1) := by decide +kernel
theorem dL_law_214 : decode cL_law 214 = .ok (.iadd, 1) := by decide +kernel
theorem dL_law_215 : decode cL_law 215 = .ok (.iaload, 1) := by decide +kernel
theorem dL_law_216 : decode cL_law 216 = .ok (.aload_n 0, 1) := by decide +kernel
theorem dL_law_217 : decode cL_law 217 = .ok (.iload_n 3, 1) := by decide +kernel
theorem dL_law_218 : decode cL_law 218 = .ok (.iconst 2, 1) := by decide +kernel
theorem dL_law_219 : decode cL_law 219 = .ok (.iadd, 1) := by decide +kernel
theorem dL_law_220 : decode cL_law 220 = .ok (.iaload, 1) := by decide +kernel
theorem dL_law_221 : decode cL_law 221 = .ok (.invokevirtual 17, 3) := by decide +kernel
theorem dL_law_224 : decode cL_law 224 = .ok (.if_icmp .eq 1064, 3) := by decide +kernel
theorem dL_law_227 : decode cL_law 227 = .ok (.iconst 0, 1) := by decide +kernel
theorem dL_law_228 : decode cL_law 228 = .ok (.ireturn, 1) := by decide +kernel
theorem dL_law_229 : decode cL_law 229 = .ok (.aload_n 1, 1) := by decide +kernel
theorem dL_law_230 : decode cL_law 230 = .ok (.aload_n 0, 1) := by decide +kernel
theorem dL_law_231 : decode cL_law 231 = .ok (.iload_n 3, 1) := by decide +kernel
theorem dL_law_232 : decode cL_law 232 = .ok (.iconst 1, 1) := by decide +kernel
theorem dL_law_233 : decode cL_law 233 = .ok (.iadd, 1) := by decide +kernel
theorem dL_law_234 : decode cL_law 234 = .ok (.iaload, 1) := by decide +kernel
theorem dL_law_235 : decode cL_law 235 = .ok (.aload_n 0, 1) := by decide +kernel
theorem dL_law_236 : decode cL_law 236 = .ok (.iload_n 3, 1) := by decide +kernel
theorem dL_law_237 : decode cL_law 237 = .ok (.iconst 2, 1) := by decide +kernel
theorem dL_law_238 : decode cL_law 238 = .ok (.iadd, 1) := by decide +kernel
theorem dL_law_239 : decode cL_law 239 = .ok (.iaload, 1) := by decide +kernel
theorem dL_law_240 : decode cL_law 240 = .ok (.invokevirtual 18, 3) := by decide +kernel
theorem dL_law_243 : decode cL_law 243 = .ok (.aload_n 2, 1) := by decide +kernel
theorem dL_law_244 : decode cL_law 244 = .ok (.aload_n 0, 1) := by decide +kernel
theorem dL_law_245 : decode cL_law 245 = .ok (.iload_n 3, 1) := by decide +kernel
theorem dL_law_246 : decode cL_law 246 = .ok (.iconst 1, 1) := by decide +kernel
theorem dL_law_247 : decode cL_law 247 = .ok (.iadd, 1) := by decide +kernel
theorem dL_law_248 : decode cL_law 248 = .ok (.iaload, 1) := by decide +kernel
theorem dL_law_249 : decode cL_law 249 = .ok (.aload_n 0, 1) := by decide +kernel
theorem dL_law_250 : decode cL_law 250 = .ok (.iload_n 3, 1) := by decide +kernel
theorem dL_law_251 : decode cL_law 251 = .ok (.iconst 2, 1) := by decide +kernel
theorem dL_law_252 : decode cL_law 252 = .ok (.iadd, 1) := by decide +kernel
theorem dL_law_253 : decode cL_law 253 = .ok (.iaload, 1) := by decide +kernel
theorem dL_law_254 : decode cL_law 254 = .ok (.invokevirtual 21, 3) := by decide +kernel
theorem dL_law_257 : decode cL_law 257 = .ok (.if_icmp .eq 1031, 3) := by decide +kernel
theorem dL_law_260 : decode cL_law 260 = .ok (.iconst 0, 1) := by decide +kernel
theorem dL_law_261 : decode cL_law 261 = .ok (.ireturn, 1) := by decide +kernel
theorem dL_law_262 : decode cL_law 262 = .ok (.aload_n 1, 1) := by decide +kernel
theorem dL_law_263 : decode cL_law 263 = .ok (.aload_n 0, 1) := by decide +kernel
theorem dL_law_264 : decode cL_law 264 = .ok (.iload_n 3, 1) := by decide +kernel
theorem dL_law_265 : decode cL_law 265 = .ok (.iconst 1, 1) := by decide +kernel
theorem dL_law_266 : decode cL_law 266 = .ok (.iadd, 1) := by decide +kernel
theorem dL_law_267 : decode cL_law 267 = .ok (.iaload, 1) := by decide +kernel
theorem dL_law_268 : decode cL_law 268 = .ok (.invokevirtual 22, 3) := by decide +kernel
theorem dL_law_271 : decode cL_law 271 = .ok (.aload_n 2, 1) := by decide +kernel
theorem dL_law_272 : decode cL_law 272 = .ok (.aload_n 0, 1) := by decide +kernel
theorem dL_law_273 : decode cL_law 273 = .ok (.iload_n 3, 1) := by decide +kernel
theorem dL_law_274 : decode cL_law 274 = .ok (.iconst 1, 1) := by decide +kernel
theorem dL_law_275 : decode cL_law 275 = .ok (.iadd, 1) := by decide +kernel
theorem dL_law_276 : decode cL_law 276 = .ok (.iaload, 1) := by decide +kernel
theorem dL_law_277 : decode cL_law 277 = .ok (.invokevirtual 26, 3) := by decide +kernel
theorem dL_law_280 : decode cL_law 280 = .ok (.if_icmp .eq 1008, 3) := by decide +kernel
theorem dL_law_283 : decode cL_law 283 = .ok (.iconst 0, 1) := by decide +kernel
theorem dL_law_284 : decode cL_law 284 = .ok (.ireturn, 1) := by decide +kernel
theorem dL_law_285 : decode cL_law 285 = .ok (.aload_n 1, 1) := by decide +kernel
theorem dL_law_286 : decode cL_law 286 = .ok (.aload_n 0, 1) := by decide +kernel
theorem dL_law_287 : decode cL_law 287 = .ok (.iload_n 3, 1) := by decide +kernel
theorem dL_law_288 : decode cL_law 288 = .ok (.iconst 1, 1) := by decide +kernel
theorem dL_law_289 : decode cL_law 289 = .ok (.iadd, 1) := by decide +kernel
theorem dL_law_290 : decode cL_law 290 = .ok (.iaload, 1) := by decide +kernel
theorem dL_law_291 : decode cL_law 291 = .ok (.aload_n 0, 1) := by decide +kernel
theorem dL_law_292 : decode cL_law 292 = .ok (.iload_n 3, 1) := by decide +kernel
theorem dL_law_293 : decode cL_law 293 = .ok (.iconst 2, 1) := by decide +kernel
theorem dL_law_294 : decode cL_law 294 = .ok (.iadd, 1) := by decide +kernel
theorem dL_law_295 : decode cL_law 295 = .ok (.iaload, 1) := by decide +kernel
theorem dL_law_296 : decode cL_law 296 = .ok (.invokevirtual 27, 3) := by decide +kernel
theorem dL_law_299 : decode cL_law 299 = .ok (.aload_n 2, 1) := by decide +kernel
theorem dL_law_300 : decode cL_law 300 = .ok (.aload_n 0, 1) := by decide +kernel
theorem dL_law_301 : decode cL_law 301 = .ok (.iload_n 3, 1) := by decide +kernel
theorem dL_law_302 : decode cL_law 302 = .ok (.iconst 1, 1) := by decide +kernel
theorem dL_law_303 : decode cL_law 303 = .ok (.iadd, 1) := by decide +kernel
theorem dL_law_304 : decode cL_law 304 = .ok (.iaload, 1) := by decide +kernel
theorem dL_law_305 : decode cL_law 305 = .ok (.aload_n 0, 1) := by decide +kernel
theorem dL_law_306 : decode cL_law 306 = .ok (.iload_n 3, 1) := by decide +kernel
theorem dL_law_307 : decode cL_law 307 = .ok (.iconst 2, 1) := by decide +kernel
theorem dL_law_308 : decode cL_law 308 = .ok (.iadd, 1) := by decide +kernel
theorem dL_law_309 : decode cL_law 309 = .ok (.iaload, 1) := by decide +kernel
theorem dL_law_310 : decode cL_law 310 = .ok (.invokevirtual 30, 3) := by decide +kernel
theorem dL_law_313 : decode cL_law 313 = .ok (.if_icmp .eq 975, 3) := by decide +kernel
theorem dL_law_316 : decode cL_law 316 = .ok (.iconst 0, 1) := by decide +kernel
theorem dL_law_317 : decode cL_law 317 = .ok (.ireturn, 1) := by decide +kernel
theorem dL_law_318 : decode cL_law 318 = .ok (.aload_n 1, 1) := by decide +kernel
theorem dL_law_319 : decode cL_law 319 = .ok (.aload_n 0, 1) := by decide +kernel
theorem dL_law_320 : decode cL_law 320 = .ok (.iload_n 3, 1) := by decide +kernel
theorem dL_law_321 : decode cL_law 321 = .ok (.iconst 1, 1) := by decide +kernel
theorem dL_law_322 : decode cL_law 322 = .ok (.iadd, 1) := by decide +kernel
theorem dL_law_323 : decode cL_law 323 = .ok (.iaload, 1) := by decide +kernel
theorem dL_law_324 : decode cL_law 324 = .ok (.aload_n 0, 1) := by decide +kernel
theorem dL_law_325 : decode cL_law 325 = .ok (.iload_n 3, 1) := by decide +kernel
theorem dL_law_326 : decode cL_law 326 = .ok (.iconst 2, 1) := by decide +kernel
theorem dL_law_327 : decode cL_law 327 = .ok (.iadd, 1) := by decide +kernel
theorem dL_law_328 : decode cL_law 328 = .ok (.iaload, 1) := by decide +kernel
theorem dL_law_329 : decode cL_law 329 = .ok (.invokevirtual 31, 3) := by decide +kernel
theorem dL_law_332 : decode cL_law 332 = .ok (.aload_n 2, 1) := by decide +kernel
theorem dL_law_333 : decode cL_law 333 = .ok (.aload_n 0, 1) := by decide +kernel
theorem dL_law_334 : decode cL_law 334 = .ok (.iload_n 3, 1) := by decide +kernel
theorem dL_law_335 : decode cL_law 335 = .ok (.iconst 1, 1) := by decide +kernel
theorem dL_law_336 : decode cL_law 336 = .ok (.iadd, 1) := by decide +kernel
theorem dL_law_337 : decode cL_law 337 = .ok (.iaload, 1) := by decide +kernel
theorem dL_law_338 : decode cL_law 338 = .ok (.aload_n 0, 1) := by decide +kernel
theorem dL_law_339 : decode cL_law 339 = .ok (.iload_n 3, 1) := by decide +kernel
theorem dL_law_340 : decode cL_law 340 = .ok (.iconst 2, 1) := by decide +kernel
theorem dL_law_341 : decode cL_law 341 = .ok (.iadd, 1) := by decide +kernel
theorem dL_law_342 : decode cL_law 342 = .ok (.iaload, 1) := by decide +kernel
theorem dL_law_343 : decode cL_law 343 = .ok (.invokevirtual 34, 3) := by decide +kernel
theorem dL_law_346 : decode cL_law 346 = .ok (.if_icmp .eq 942, 3) := by decide +kernel
theorem dL_law_349 : decode cL_law 349 = .ok (.iconst 0, 1) := by decide +kernel
theorem dL_law_350 : decode cL_law 350 = .ok (.ireturn, 1) := by decide +kernel
theorem dL_law_351 : decode cL_law 351 = .ok (.aload_n 1, 1) := by decide +kernel
theorem dL_law_352 : decode cL_law 352 = .ok (.aload_n 0, 1) := by decide +kernel
theorem dL_law_353 : decode cL_law 353 = .ok (.iload_n 3, 1) := by decide +kernel
theorem dL_law_354 : decode cL_law 354 = .ok (.iconst 1, 1) := by decide +kernel
theorem dL_law_355 : decode cL_law 355 = .ok (.iadd, 1) := by decide +kernel
theorem dL_law_356 : decode cL_law 356 = .ok (.iaload, 1) := by decide +kernel
theorem dL_law_357 : decode cL_law 357 = .ok (.aload_n 0, 1) := by decide +kernel
theorem dL_law_358 : decode cL_law 358 = .ok (.iload_n 3, 1) := by decide +kernel
theorem dL_law_359 : decode cL_law 359 = .ok (.iconst 2, 1) := by decide +kernel
theorem dL_law_360 : decode cL_law 360 = .ok (.iadd, 1) := by decide +kernel
theorem dL_law_361 : decode cL_law 361 = .ok (.iaload, 1) := by decide +kernel
theorem dL_law_362 : decode cL_law 362 = .ok (.aload_n 0, 1) := by decide +kernel
theorem dL_law_363 : decode cL_law 363 = .ok (.iload_n 3, 1) := by decide +kernel
theorem dL_law_364 : decode cL_law 364 = .ok (.iconst 3, 1) := by decide +kernel
theorem dL_law_365 : decode cL_law 365 = .ok (.iadd, 1) := by decide +kernel
theorem dL_law_366 : decode cL_law 366 = .ok (.iaload, 1) := by decide +kernel
theorem dL_law_367 : decode cL_law 367 = .ok (.invokevirtual 35, 3) := by decide +kernel
theorem dL_law_370 : decode cL_law 370 = .ok (.aload_n 2, 1) := by decide +kernel
theorem dL_law_371 : decode cL_law 371 = .ok (.aload_n 0, 1) := by decide +kernel
theorem dL_law_372 : decode cL_law 372 = .ok (.iload_n 3, 1) := by decide +kernel
theorem dL_law_373 : decode cL_law 373 = .ok (.iconst 1, 1) := by decide +kernel
theorem dL_law_374 : decode cL_law 374 = .ok (.iadd, 1) := by decide +kernel
theorem dL_law_375 : decode cL_law 375 = .ok (.iaload, 1) := by decide +kernel
theorem dL_law_376 : decode cL_law 376 = .ok (.aload_n 0, 1) := by decide +kernel
theorem dL_law_377 : decode cL_law 377 = .ok (.iload_n 3, 1) := by decide +kernel
theorem dL_law_378 : decode cL_law 378 = .ok (.iconst 2, 1) := by decide +kernel
theorem dL_law_379 : decode cL_law 379 = .ok (.iadd, 1) := by decide +kernel
theorem dL_law_380 : decode cL_law 380 = .ok (.iaload, 1) := by decide +kernel
theorem dL_law_381 : decode cL_law 381 = .ok (.aload_n 0, 1) := by decide +kernel
theorem dL_law_382 : decode cL_law 382 = .ok (.iload_n 3, 1) := by decide +kernel
theorem dL_law_383 : decode cL_law 383 = .ok (.iconst 3, 1) := by decide +kernel
theorem dL_law_384 : decode cL_law 384 = .ok (.iadd, 1) := by decide +kernel
theorem dL_law_385 : decode cL_law 385 = .ok (.iaload, 1) := by decide +kernel
theorem dL_law_386 : decode cL_law 386 = .ok (.invokevirtual 39, 3) := by decide +kernel
theorem dL_law_389 : decode cL_law 389 = .ok (.if_icmp .eq 899, 3) := by decide +kernel
theorem dL_law_392 : decode cL_law 392 = .ok (.iconst 0, 1) := by decide +kernel
theorem dL_law_393 : decode cL_law 393 = .ok (.ireturn, 1) := by decide +kernel
theorem dL_law_394 : decode cL_law 394 = .ok (.aload_n 1, 1) := by decide +kernel
theorem dL_law_395 : decode cL_law 395 = .ok (.aload_n 0, 1) := by decide +kernel
theorem dL_law_396 : decode cL_law 396 = .ok (.iload_n 3, 1) := by decide +kernel
theorem dL_law_397 : decode cL_law 397 = .ok (.iconst 1, 1) := by decide +kernel
theorem dL_law_398 : decode cL_law 398 = .ok (.iadd, 1) := by decide +kernel
theorem dL_law_399 : decode cL_law 399 = .ok (.iaload, 1) := by decide +kernel
theorem dL_law_400 : decode cL_law 400 = .ok (.aload_n 0, 1) := by decide +kernel
theorem dL_law_401 : decode cL_law 401 = .ok (.iload_n 3, 1) := by decide +kernel
theorem dL_law_402 : decode cL_law 402 = .ok (.iconst 2, 1) := by decide +kernel
theorem dL_law_403 : decode cL_law 403 = .ok (.iadd, 1) := by decide +kernel
theorem dL_law_404 : decode cL_law 404 = .ok (.iaload, 1) := by decide +kernel
theorem dL_law_405 : decode cL_law 405 = .ok (.invokevirtual 40, 3) := by decide +kernel
theorem dL_law_408 : decode cL_law 408 = .ok (.aload_n 2, 1) := by decide +kernel
theorem dL_law_409 : decode cL_law 409 = .ok (.aload_n 0, 1) := by decide +kernel
theorem dL_law_410 : decode cL_law 410 = .ok (.iload_n 3, 1) := by decide +kernel
theorem dL_law_411 : decode cL_law 411 = .ok (.iconst 1, 1) := by decide +kernel
theorem dL_law_412 : decode cL_law 412 = .ok (.iadd, 1) := by decide +kernel
theorem dL_law_413 : decode cL_law 413 = .ok (.iaload, 1) := by decide +kernel
theorem dL_law_414 : decode cL_law 414 = .ok (.aload_n 0, 1) := by decide +kernel
theorem dL_law_415 : decode cL_law 415 = .ok (.iload_n 3, 1) := by decide +kernel
theorem dL_law_416 : decode cL_law 416 = .ok (.iconst 2, 1) := by decide +kernel
theorem dL_law_417 : decode cL_law 417 = .ok (.iadd, 1) := by decide +kernel
theorem dL_law_418 : decode cL_law 418 = .ok (.iaload, 1) := by decide +kernel
theorem dL_law_419 : decode cL_law 419 = .ok (.invokevirtual 43, 3) := by decide +kernel
theorem dL_law_422 : decode cL_law 422 = .ok (.if_icmp .eq 866, 3) := by decide +kernel
theorem dL_law_425 : decode cL_law 425 = .ok (.iconst 0, 1) := by decide +kernel
theorem dL_law_426 : decode cL_law 426 = .ok (.ireturn, 1) := by decide +kernel
theorem dL_law_427 : decode cL_law 427 = .ok (.aload_n 1, 1) := by decide +kernel
theorem dL_law_428 : decode cL_law 428 = .ok (.aload_n 0, 1) := by decide +kernel
theorem dL_law_429 : decode cL_law 429 = .ok (.iload_n 3, 1) := by decide +kernel
theorem dL_law_430 : decode cL_law 430 = .ok (.iconst 1, 1) := by decide +kernel
theorem dL_law_431 : decode cL_law 431 = .ok (.iadd, 1) := by decide +kernel
theorem dL_law_432 : decode cL_law 432 = .ok (.iaload, 1) := by decide +kernel
theorem dL_law_433 : decode cL_law 433 = .ok (.aload_n 0, 1) := by decide +kernel
theorem dL_law_434 : decode cL_law 434 = .ok (.iload_n 3, 1) := by decide +kernel
theorem dL_law_435 : decode cL_law 435 = .ok (.iconst 2, 1) := by decide +kernel
theorem dL_law_436 : decode cL_law 436 = .ok (.iadd, 1) := by decide +kernel
theorem dL_law_437 : decode cL_law 437 = .ok (.iaload, 1) := by decide +kernel
theorem dL_law_438 : decode cL_law 438 = .ok (.invokevirtual 44, 3) := by decide +kernel
theorem dL_law_441 : decode cL_law 441 = .ok (.aload_n 2, 1) := by decide +kernel
theorem dL_law_442 : decode cL_law 442 = .ok (.aload_n 0, 1) := by decide +kernel
theorem dL_law_443 : decode cL_law 443 = .ok (.iload_n 3, 1) := by decide +kernel
theorem dL_law_444 : decode cL_law 444 = .ok (.iconst 1, 1) := by decide +kernel
theorem dL_law_445 : decode cL_law 445 = .ok (.iadd, 1) := by decide +kernel
theorem dL_law_446 : decode cL_law 446 = .ok (.iaload, 1) := by decide +kernel
theorem dL_law_447 : decode cL_law 447 = .ok (.aload_n 0, 1) := by decide +kernel
theorem dL_law_448 : decode cL_law 448 = .ok (.iload_n 3, 1) := by decide +kernel
theorem dL_law_449 : decode cL_law 449 = .ok (.iconst 2, 1) := by decide +kernel
theorem dL_law_450 : decode cL_law 450 = .ok (.iadd, 1) := by decide +kernel
theorem dL_law_451 : decode cL_law 451 = .ok (.iaload, 1) := by decide +kernel
theorem dL_law_452 : decode cL_law 452 = .ok (.invokevirtual 47, 3) := by decide +kernel
theorem dL_law_455 : decode cL_law 455 = .ok (.if_icmp .eq 833, 3) := by decide +kernel
theorem dL_law_458 : decode cL_law 458 = .ok (.iconst 0, 1) := by decide +kernel
theorem dL_law_459 : decode cL_law 459 = .ok (.ireturn, 1) := by decide +kernel
theorem dL_law_460 : decode cL_law 460 = .ok (.aload_n 1, 1) := by decide +kernel
theorem dL_law_461 : decode cL_law 461 = .ok (.aload_n 0, 1) := by decide +kernel
theorem dL_law_462 : decode cL_law 462 = .ok (.iload_n 3, 1) := by decide +kernel
theorem dL_law_463 : decode cL_law 463 = .ok (.iconst 1, 1) := by decide +kernel
theorem dL_law_464 : decode cL_law 464 = .ok (.iadd, 1) := by decide +kernel
theorem dL_law_465 : decode cL_law 465 = .ok (.iaload, 1) := by decide +kernel
theorem dL_law_466 : decode cL_law 466 = .ok (.invokevirtual 48, 3) := by decide +kernel
theorem dL_law_469 : decode cL_law 469 = .ok (.aload_n 2, 1) := by decide +kernel
theorem dL_law_470 : decode cL_law 470 = .ok (.aload_n 0, 1) := by decide +kernel
theorem dL_law_471 : decode cL_law 471 = .ok (.iload_n 3, 1) := by decide +kernel
theorem dL_law_472 : decode cL_law 472 = .ok (.iconst 1, 1) := by decide +kernel
theorem dL_law_473 : decode cL_law 473 = .ok (.iadd, 1) := by decide +kernel
theorem dL_law_474 : decode cL_law 474 = .ok (.iaload, 1) := by decide +kernel
theorem dL_law_475 : decode cL_law 475 = .ok (.invokevirtual 51, 3) := by decide +kernel
theorem dL_law_478 : decode cL_law 478 = .ok (.if_icmp .eq 810, 3) := by decide +kernel
theorem dL_law_481 : decode cL_law 481 = .ok (.iconst 0, 1) := by decide +kernel
theorem dL_law_482 : decode cL_law 482 = .ok (.ireturn, 1) := by decide +kernel
theorem dL_law_483 : decode cL_law 483 = .ok (.aload_n 1, 1) := by decide +kernel
theorem dL_law_484 : decode cL_law 484 = .ok (.aload_n 0, 1) := by decide +kernel
theorem dL_law_485 : decode cL_law 485 = .ok (.iload_n 3, 1) := by decide +kernel
theorem dL_law_486 : decode cL_law 486 = .ok (.iconst 1, 1) := by decide +kernel
theorem dL_law_487 : decode cL_law 487 = .ok (.iadd, 1) := by decide +kernel
theorem dL_law_488 : decode cL_law 488 = .ok (.iaload, 1) := by decide +kernel
theorem dL_law_489 : decode cL_law 489 = .ok (.invokevirtual 52, 3) := by decide +kernel
theorem dL_law_492 : decode cL_law 492 = .ok (.aload_n 2, 1) := by decide +kernel
theorem dL_law_493 : decode cL_law 493 = .ok (.aload_n 0, 1) := by decide +kernel
theorem dL_law_494 : decode cL_law 494 = .ok (.iload_n 3, 1) := by decide +kernel
theorem dL_law_495 : decode cL_law 495 = .ok (.iconst 1, 1) := by decide +kernel
theorem dL_law_496 : decode cL_law 496 = .ok (.iadd, 1) := by decide +kernel
theorem dL_law_497 : decode cL_law 497 = .ok (.iaload, 1) := by decide +kernel
theorem dL_law_498 : decode cL_law 498 = .ok (.invokevirtual 55, 3) := by decide +kernel
theorem dL_law_501 : decode cL_law 501 = .ok (.if_icmp .eq 787, 3) := by decide +kernel
theorem dL_law_504 : decode cL_law 504 = .ok (.iconst 0, 1) := by decide +kernel
theorem dL_law_505 : decode cL_law 505 = .ok (.ireturn, 1) := by decide +kernel
theorem dL_law_506 : decode cL_law 506 = .ok (.aload_n 1, 1) := by decide +kernel
theorem dL_law_507 : decode cL_law 507 = .ok (.aload_n 0, 1) := by decide +kernel
theorem dL_law_508 : decode cL_law 508 = .ok (.iload_n 3, 1) := by decide +kernel
theorem dL_law_509 : decode cL_law 509 = .ok (.iconst 1, 1) := by decide +kernel
theorem dL_law_510 : decode cL_law 510 = .ok (.iadd, 1) := by decide +kernel
theorem dL_law_511 : decode cL_law 511 = .ok (.iaload, 1) := by decide +kernel
theorem dL_law_512 : decode cL_law 512 = .ok (.invokevirtual 56, 3) := by decide +kernel
theorem dL_law_515 : decode cL_law 515 = .ok (.aload_n 2, 1) := by decide +kernel
theorem dL_law_516 : decode cL_law 516 = .ok (.aload_n 0, 1) := by decide +kernel
theorem dL_law_517 : decode cL_law 517 = .ok (.iload_n 3, 1) := by decide +kernel
theorem dL_law_518 : decode cL_law 518 = .ok (.iconst 1, 1) := by decide +kernel
theorem dL_law_519 : decode cL_law 519 = .ok (.iadd, 1) := by decide +kernel
theorem dL_law_520 : decode cL_law 520 = .ok (.iaload, 1) := by decide +kernel
theorem dL_law_521 : decode cL_law 521 = .ok (.invokevirtual 59, 3) := by decide +kernel
theorem dL_law_524 : decode cL_law 524 = .ok (.if_icmp .eq 764, 3) := by decide +kernel
theorem dL_law_527 : decode cL_law 527 = .ok (.iconst 0, 1) := by decide +kernel
theorem dL_law_528 : decode cL_law 528 = .ok (.ireturn, 1) := by decide +kernel
theorem dL_law_529 : decode cL_law 529 = .ok (.aload_n 1, 1) := by decide +kernel
theorem dL_law_530 : decode cL_law 530 = .ok (.aload_n 0, 1) := by decide +kernel
theorem dL_law_531 : decode cL_law 531 = .ok (.iload_n 3, 1) := by decide +kernel
theorem dL_law_532 : decode cL_law 532 = .ok (.iconst 1, 1) := by decide +kernel
theorem dL_law_533 : decode cL_law 533 = .ok (.iadd, 1) := by decide +kernel
theorem dL_law_534 : decode cL_law 534 = .ok (.iaload, 1) := by decide +kernel
theorem dL_law_535 : decode cL_law 535 = .ok (.invokevirtual 60, 3) := by decide +kernel
theorem dL_law_538 : decode cL_law 538 = .ok (.aload_n 2, 1) := by decide +kernel
theorem dL_law_539 : decode cL_law 539 = .ok (.aload_n 0, 1) := by decide +kernel
theorem dL_law_540 : decode cL_law 540 = .ok (.iload_n 3, 1) := by decide +kernel
theorem dL_law_541 : decode cL_law 541 = .ok (.iconst 1, 1) := by decide +kernel
theorem dL_law_542 : decode cL_law 542 = .ok (.iadd, 1) := by decide +kernel
theorem dL_law_543 : decode cL_law 543 = .ok (.iaload, 1) := by decide +kernel
theorem dL_law_544 : decode cL_law 544 = .ok (.invokevirtual 63, 3) := by decide +kernel
theorem dL_law_547 : decode cL_law 547 = .ok (.if_icmp .eq 741, 3) := by decide +kernel
theorem dL_law_550 : decode cL_law 550 = .ok (.iconst 0, 1) := by decide +kernel
theorem dL_law_551 : decode cL_law 551 = .ok (.ireturn, 1) := by decide +kernel
theorem dL_law_552 : decode cL_law 552 = .ok (.aload_n 1, 1) := by decide +kernel
theorem dL_law_553 : decode cL_law 553 = .ok (.aload_n 0, 1) := by decide +kernel
theorem dL_law_554 : decode cL_law 554 = .ok (.iload_n 3, 1) := by decide +kernel
theorem dL_law_555 : decode cL_law 555 = .ok (.iconst 1, 1) := by decide +kernel
theorem dL_law_556 : decode cL_law 556 = .ok (.iadd, 1) := by decide +kernel
theorem dL_law_557 : decode cL_law 557 = .ok (.iaload, 1) := by decide +kernel
theorem dL_law_558 : decode cL_law 558 = .ok (.aload_n 0, 1) := by decide +kernel
theorem dL_law_559 : decode cL_law 559 = .ok (.iload_n 3, 1) := by decide +kernel
theorem dL_law_560 : decode cL_law 560 = .ok (.iconst 2, 1) := by decide +kernel
theorem dL_law_561 : decode cL_law 561 = .ok (.iadd, 1) := by decide +kernel
theorem dL_law_562 : decode cL_law 562 = .ok (.iaload, 1) := by decide +kernel
theorem dL_law_563 : decode cL_law 563 = .ok (.aload_n 0, 1) := by decide +kernel
theorem dL_law_564 : decode cL_law 564 = .ok (.iload_n 3, 1) := by decide +kernel
theorem dL_law_565 : decode cL_law 565 = .ok (.iconst 3, 1) := by decide +kernel
theorem dL_law_566 : decode cL_law 566 = .ok (.iadd, 1) := by decide +kernel
theorem dL_law_567 : decode cL_law 567 = .ok (.iaload, 1) := by decide +kernel
theorem dL_law_568 : decode cL_law 568 = .ok (.invokevirtual 64, 3) := by decide +kernel
theorem dL_law_571 : decode cL_law 571 = .ok (.aload_n 2, 1) := by decide +kernel
theorem dL_law_572 : decode cL_law 572 = .ok (.aload_n 0, 1) := by decide +kernel
theorem dL_law_573 : decode cL_law 573 = .ok (.iload_n 3, 1) := by decide +kernel
theorem dL_law_574 : decode cL_law 574 = .ok (.iconst 1, 1) := by decide +kernel
theorem dL_law_575 : decode cL_law 575 = .ok (.iadd, 1) := by decide +kernel
theorem dL_law_576 : decode cL_law 576 = .ok (.iaload, 1) := by decide +kernel
theorem dL_law_577 : decode cL_law 577 = .ok (.aload_n 0, 1) := by decide +kernel
theorem dL_law_578 : decode cL_law 578 = .ok (.iload_n 3, 1) := by decide +kernel
theorem dL_law_579 : decode cL_law 579 = .ok (.iconst 2, 1) := by decide +kernel
theorem dL_law_580 : decode cL_law 580 = .ok (.iadd, 1) := by decide +kernel
theorem dL_law_581 : decode cL_law 581 = .ok (.iaload, 1) := by decide +kernel
theorem dL_law_582 : decode cL_law 582 = .ok (.aload_n 0, 1) := by decide +kernel
theorem dL_law_583 : decode cL_law 583 = .ok (.iload_n 3, 1) := by decide +kernel
theorem dL_law_584 : decode cL_law 584 = .ok (.iconst 3, 1) := by decide +kernel
theorem dL_law_585 : decode cL_law 585 = .ok (.iadd, 1) := by decide +kernel
theorem dL_law_586 : decode cL_law 586 = .ok (.iaload, 1) := by decide +kernel
theorem dL_law_587 : decode cL_law 587 = .ok (.invokevirtual 67, 3) := by decide +kernel
theorem dL_law_590 : decode cL_law 590 = .ok (.if_icmp .eq 698, 3) := by decide +kernel
theorem dL_law_593 : decode cL_law 593 = .ok (.iconst 0, 1) := by decide +kernel
theorem dL_law_594 : decode cL_law 594 = .ok (.ireturn, 1) := by decide +kernel
theorem dL_law_595 : decode cL_law 595 = .ok (.aload_n 1, 1) := by decide +kernel
theorem dL_law_596 : decode cL_law 596 = .ok (.aload_n 0, 1) := by decide +kernel
theorem dL_law_597 : decode cL_law 597 = .ok (.iload_n 3, 1) := by decide +kernel
theorem dL_law_598 : decode cL_law 598 = .ok (.iconst 1, 1) := by decide +kernel
theorem dL_law_599 : decode cL_law 599 = .ok (.iadd, 1) := by decide +kernel
theorem dL_law_600 : decode cL_law 600 = .ok (.iaload, 1) := by decide +kernel
theorem dL_law_601 : decode cL_law 601 = .ok (.invokevirtual 68, 3) := by decide +kernel
theorem dL_law_604 : decode cL_law 604 = .ok (.aload_n 2, 1) := by decide +kernel
theorem dL_law_605 : decode cL_law 605 = .ok (.aload_n 0, 1) := by decide +kernel
theorem dL_law_606 : decode cL_law 606 = .ok (.iload_n 3, 1) := by decide +kernel
theorem dL_law_607 : decode cL_law 607 = .ok (.iconst 1, 1) := by decide +kernel
theorem dL_law_608 : decode cL_law 608 = .ok (.iadd, 1) := by decide +kernel
theorem dL_law_609 : decode cL_law 609 = .ok (.iaload, 1) := by decide +kernel
theorem dL_law_610 : decode cL_law 610 = .ok (.invokevirtual 71, 3) := by decide +kernel
theorem dL_law_613 : decode cL_law 613 = .ok (.if_icmp .eq 675, 3) := by decide +kernel
theorem dL_law_616 : decode cL_law 616 = .ok (.iconst 0, 1) := by decide +kernel
theorem dL_law_617 : decode cL_law 617 = .ok (.ireturn, 1) := by decide +kernel
theorem dL_law_618 : decode cL_law 618 = .ok (.aload_n 1, 1) := by decide +kernel
theorem dL_law_619 : decode cL_law 619 = .ok (.aload_n 0, 1) := by decide +kernel
theorem dL_law_620 : decode cL_law 620 = .ok (.iload_n 3, 1) := by decide +kernel
theorem dL_law_621 : decode cL_law 621 = .ok (.iconst 1, 1) := by decide +kernel
theorem dL_law_622 : decode cL_law 622 = .ok (.iadd, 1) := by decide +kernel
theorem dL_law_623 : decode cL_law 623 = .ok (.iaload, 1) := by decide +kernel
theorem dL_law_624 : decode cL_law 624 = .ok (.invokevirtual 72, 3) := by decide +kernel
theorem dL_law_627 : decode cL_law 627 = .ok (.aload_n 2, 1) := by decide +kernel
theorem dL_law_628 : decode cL_law 628 = .ok (.aload_n 0, 1) := by decide +kernel
theorem dL_law_629 : decode cL_law 629 = .ok (.iload_n 3, 1) := by decide +kernel
theorem dL_law_630 : decode cL_law 630 = .ok (.iconst 1, 1) := by decide +kernel
theorem dL_law_631 : decode cL_law 631 = .ok (.iadd, 1) := by decide +kernel
theorem dL_law_632 : decode cL_law 632 = .ok (.iaload, 1) := by decide +kernel
theorem dL_law_633 : decode cL_law 633 = .ok (.invokevirtual 75, 3) := by decide +kernel
theorem dL_law_636 : decode cL_law 636 = .ok (.if_icmp .eq 652, 3) := by decide +kernel
theorem dL_law_639 : decode cL_law 639 = .ok (.iconst 0, 1) := by decide +kernel
theorem dL_law_640 : decode cL_law 640 = .ok (.ireturn, 1) := by decide +kernel
theorem dL_law_641 : decode cL_law 641 = .ok (.aload_n 1, 1) := by decide +kernel
theorem dL_law_642 : decode cL_law 642 = .ok (.aload_n 0, 1) := by decide +kernel
theorem dL_law_643 : decode cL_law 643 = .ok (.iload_n 3, 1) := by decide +kernel
theorem dL_law_644 : decode cL_law 644 = .ok (.iconst 1, 1) := by decide +kernel
theorem dL_law_645 : decode cL_law 645 = .ok (.iadd, 1) := by decide +kernel
theorem dL_law_646 : decode cL_law 646 = .ok (.iaload, 1) := by decide +kernel
theorem dL_law_647 : decode cL_law 647 = .ok (.invokevirtual 76, 3) := by decide +kernel
theorem dL_law_650 : decode cL_law 650 = .ok (.aload_n 2, 1) := by decide +kernel
theorem dL_law_651 : decode cL_law 651 = .ok (.aload_n 0, 1) := by decide +kernel
theorem dL_law_652 : decode cL_law 652 = .ok (.iload_n 3, 1) := by decide +kernel
theorem dL_law_653 : decode cL_law 653 = .ok (.iconst 1, 1) := by decide +kernel
theorem dL_law_654 : decode cL_law 654 = .ok (.iadd, 1) := by decide +kernel
theorem dL_law_655 : decode cL_law 655 = .ok (.iaload, 1) := by decide +kernel
theorem dL_law_656 : decode cL_law 656 = .ok (.invokevirtual 79, 3) := by decide +kernel
theorem dL_law_659 : decode cL_law 659 = .ok (.if_icmp .eq 629, 3) := by decide +kernel
theorem dL_law_662 : decode cL_law 662 = .ok (.iconst 0, 1) := by decide +kernel
theorem dL_law_663 : decode cL_law 663 = .ok (.ireturn, 1) := by decide +kernel
theorem dL_law_664 : decode cL_law 664 = .ok (.aload_n 1, 1) := by decide +kernel
theorem dL_law_665 : decode cL_law 665 = .ok (.aload_n 0, 1) := by decide +kernel
theorem dL_law_666 : decode cL_law 666 = .ok (.iload_n 3, 1) := by decide +kernel
theorem dL_law_667 : decode cL_law 667 = .ok (.iconst 1, 1) := by decide +kernel
theorem dL_law_668 : decode cL_law 668 = .ok (.iadd, 1) := by decide +kernel
theorem dL_law_669 : decode cL_law 669 = .ok (.iaload, 1) := by decide +kernel
theorem dL_law_670 : decode cL_law 670 = .ok (.aload_n 0, 1) := by decide +kernel
theorem dL_law_671 : decode cL_law 671 = .ok (.iload_n 3, 1) := by decide +kernel
theorem dL_law_672 : decode cL_law 672 = .ok (.iconst 2, 1) := by decide +kernel
theorem dL_law_673 : decode cL_law 673 = .ok (.iadd, 1) := by decide +kernel
theorem dL_law_674 : decode cL_law 674 = .ok (.iaload, 1) := by decide +kernel
theorem dL_law_675 : decode cL_law 675 = .ok (.invokevirtual 80, 3) := by decide +kernel
theorem dL_law_678 : decode cL_law 678 = .ok (.aload_n 2, 1) := by decide +kernel
theorem dL_law_679 : decode cL_law 679 = .ok (.aload_n 0, 1) := by decide +kernel
theorem dL_law_680 : decode cL_law 680 = .ok (.iload_n 3, 1) := by decide +kernel
theorem dL_law_681 : decode cL_law 681 = .ok (.iconst 1, 1) := by decide +kernel
theorem dL_law_682 : decode cL_law 682 = .ok (.iadd, 1) := by decide +kernel
theorem dL_law_683 : decode cL_law 683 = .ok (.iaload, 1) := by decide +kernel
theorem dL_law_684 : decode cL_law 684 = .ok (.aload_n 0, 1) := by decide +kernel
theorem dL_law_685 : decode cL_law 685 = .ok (.iload_n 3, 1) := by decide +kernel
theorem dL_law_686 : decode cL_law 686 = .ok (.iconst 2, 1) := by decide +kernel
theorem dL_law_687 : decode cL_law 687 = .ok (.iadd, 1) := by decide +kernel
theorem dL_law_688 : decode cL_law 688 = .ok (.iaload, 1) := by decide +kernel
theorem dL_law_689 : decode cL_law 689 = .ok (.invokevirtual 83, 3) := by decide +kernel
theorem dL_law_692 : decode cL_law 692 = .ok (.if_icmp .eq 596, 3) := by decide +kernel
theorem dL_law_695 : decode cL_law 695 = .ok (.iconst 0, 1) := by decide +kernel
theorem dL_law_696 : decode cL_law 696 = .ok (.ireturn, 1) := by decide +kernel
theorem dL_law_697 : decode cL_law 697 = .ok (.aload_n 1, 1) := by decide +kernel
theorem dL_law_698 : decode cL_law 698 = .ok (.aload_n 0, 1) := by decide +kernel
theorem dL_law_699 : decode cL_law 699 = .ok (.iload_n 3, 1) := by decide +kernel
theorem dL_law_700 : decode cL_law 700 = .ok (.iconst 1, 1) := by decide +kernel
theorem dL_law_701 : decode cL_law 701 = .ok (.iadd, 1) := by decide +kernel
theorem dL_law_702 : decode cL_law 702 = .ok (.iaload, 1) := by decide +kernel
theorem dL_law_703 : decode cL_law 703 = .ok (.invokevirtual 84, 3) := by decide +kernel
theorem dL_law_706 : decode cL_law 706 = .ok (.aload_n 2, 1) := by decide +kernel
theorem dL_law_707 : decode cL_law 707 = .ok (.aload_n 0, 1) := by decide +kernel
theorem dL_law_708 : decode cL_law 708 = .ok (.iload_n 3, 1) := by decide +kernel
theorem dL_law_709 : decode cL_law 709 = .ok (.iconst 1, 1) := by decide +kernel
theorem dL_law_710 : decode cL_law 710 = .ok (.iadd, 1) := by decide +kernel
theorem dL_law_711 : decode cL_law 711 = .ok (.iaload, 1) := by decide +kernel
theorem dL_law_712 : decode cL_law 712 = .ok (.invokevirtual 87, 3) := by decide +kernel
theorem dL_law_715 : decode cL_law 715 = .ok (.if_icmp .eq 573, 3) := by decide +kernel
theorem dL_law_718 : decode cL_law 718 = .ok (.iconst 0, 1) := by decide +kernel
theorem dL_law_719 : decode cL_law 719 = .ok (.ireturn, 1) := by decide +kernel
theorem dL_law_720 : decode cL_law 720 = .ok (.aload_n 1, 1) := by decide +kernel
theorem dL_law_721 : decode cL_law 721 = .ok (.aload_n 0, 1) := by decide +kernel
theorem dL_law_722 : decode cL_law 722 = .ok (.iload_n 3, 1) := by decide +kernel
theorem dL_law_723 : decode cL_law 723 = .ok (.iconst 1, 1) := by decide +kernel
theorem dL_law_724 : decode cL_law 724 = .ok (.iadd, 1) := by decide +kernel
theorem dL_law_725 : decode cL_law 725 = .ok (.iaload, 1) := by decide +kernel
theorem dL_law_726 : decode cL_law 726 = .ok (.aload_n 0, 1) := by decide +kernel
theorem dL_law_727 : decode cL_law 727 = .ok (.iload_n 3, 1) := by decide +kernel
theorem dL_law_728 : decode cL_law 728 = .ok (.iconst 2, 1) := by decide +kernel
theorem dL_law_729 : decode cL_law 729 = .ok (.iadd, 1) := by decide +kernel
theorem dL_law_730 : decode cL_law 730 = .ok (.iaload, 1) := by decide +kernel
theorem dL_law_731 : decode cL_law 731 = .ok (.invokevirtual 88, 3) := by decide +kernel
theorem dL_law_734 : decode cL_law 734 = .ok (.aload_n 2, 1) := by decide +kernel
theorem dL_law_735 : decode cL_law 735 = .ok (.aload_n 0, 1) := by decide +kernel
theorem dL_law_736 : decode cL_law 736 = .ok (.iload_n 3, 1) := by decide +kernel
theorem dL_law_737 : decode cL_law 737 = .ok (.iconst 1, 1) := by decide +kernel
theorem dL_law_738 : decode cL_law 738 = .ok (.iadd, 1) := by decide +kernel
theorem dL_law_739 : decode cL_law 739 = .ok (.iaload, 1) := by decide +kernel
theorem dL_law_740 : decode cL_law 740 = .ok (.aload_n 0, 1) := by decide +kernel
theorem dL_law_741 : decode cL_law 741 = .ok (.iload_n 3, 1) := by decide +kernel
theorem dL_law_742 : decode cL_law 742 = .ok (.iconst 2, 1) := by decide +kernel
theorem dL_law_743 : decode cL_law 743 = .ok (.iadd, 1) := by decide +kernel
theorem dL_law_744 : decode cL_law 744 = .ok (.iaload, 1) := by decide +kernel
theorem dL_law_745 : decode cL_law 745 = .ok (.invokevirtual 91, 3) := by decide +kernel
theorem dL_law_748 : decode cL_law 748 = .ok (.if_icmp .eq 540, 3) := by decide +kernel
theorem dL_law_751 : decode cL_law 751 = .ok (.iconst 0, 1) := by decide +kernel
theorem dL_law_752 : decode cL_law 752 = .ok (.ireturn, 1) := by decide +kernel
theorem dL_law_753 : decode cL_law 753 = .ok (.aload_n 1, 1) := by decide +kernel
theorem dL_law_754 : decode cL_law 754 = .ok (.aload_n 0, 1) := by decide +kernel
theorem dL_law_755 : decode cL_law 755 = .ok (.iload_n 3, 1) := by decide +kernel
theorem dL_law_756 : decode cL_law 756 = .ok (.iconst 1, 1) := by decide +kernel
theorem dL_law_757 : decode cL_law 757 = .ok (.iadd, 1) := by decide +kernel
theorem dL_law_758 : decode cL_law 758 = .ok (.iaload, 1) := by decide +kernel
theorem dL_law_759 : decode cL_law 759 = .ok (.aload_n 0, 1) := by decide +kernel
theorem dL_law_760 : decode cL_law 760 = .ok (.iload_n 3, 1) := by decide +kernel
theorem dL_law_761 : decode cL_law 761 = .ok (.iconst 2, 1) := by decide +kernel
theorem dL_law_762 : decode cL_law 762 = .ok (.iadd, 1) := by decide +kernel
theorem dL_law_763 : decode cL_law 763 = .ok (.iaload, 1) := by decide +kernel
theorem dL_law_764 : decode cL_law 764 = .ok (.invokevirtual 92, 3) := by decide +kernel
theorem dL_law_767 : decode cL_law 767 = .ok (.aload_n 2, 1) := by decide +kernel
theorem dL_law_768 : decode cL_law 768 = .ok (.aload_n 0, 1) := by decide +kernel
theorem dL_law_769 : decode cL_law 769 = .ok (.iload_n 3, 1) := by decide +kernel
theorem dL_law_770 : decode cL_law 770 = .ok (.iconst 1, 1) := by decide +kernel
theorem dL_law_771 : decode cL_law 771 = .ok (.iadd, 1) := by decide +kernel
theorem dL_law_772 : decode cL_law 772 = .ok (.iaload, 1) := by decide +kernel
theorem dL_law_773 : decode cL_law 773 = .ok (.aload_n 0, 1) := by decide +kernel
theorem dL_law_774 : decode cL_law 774 = .ok (.iload_n 3, 1) := by decide +kernel
theorem dL_law_775 : decode cL_law 775 = .ok (.iconst 2, 1) := by decide +kernel
theorem dL_law_776 : decode cL_law 776 = .ok (.iadd, 1) := by decide +kernel
theorem dL_law_777 : decode cL_law 777 = .ok (.iaload, 1) := by decide +kernel
theorem dL_law_778 : decode cL_law 778 = .ok (.invokevirtual 95, 3) := by decide +kernel
theorem dL_law_781 : decode cL_law 781 = .ok (.if_icmp .eq 507, 3) := by decide +kernel
theorem dL_law_784 : decode cL_law 784 = .ok (.iconst 0, 1) := by decide +kernel
theorem dL_law_785 : decode cL_law 785 = .ok (.ireturn, 1) := by decide +kernel
theorem dL_law_786 : decode cL_law 786 = .ok (.aload_n 1, 1) := by decide +kernel
theorem dL_law_787 : decode cL_law 787 = .ok (.aload_n 0, 1) := by decide +kernel
theorem dL_law_788 : decode cL_law 788 = .ok (.iload_n 3, 1) := by decide +kernel
theorem dL_law_789 : decode cL_law 789 = .ok (.iconst 1, 1) := by decide +kernel
theorem dL_law_790 : decode cL_law 790 = .ok (.iadd, 1) := by decide +kernel
theorem dL_law_791 : decode cL_law 791 = .ok (.iaload, 1) := by decide +kernel
theorem dL_law_792 : decode cL_law 792 = .ok (.aload_n 0, 1) := by decide +kernel
theorem dL_law_793 : decode cL_law 793 = .ok (.iload_n 3, 1) := by decide +kernel
theorem dL_law_794 : decode cL_law 794 = .ok (.iconst 2, 1) := by decide +kernel
theorem dL_law_795 : decode cL_law 795 = .ok (.iadd, 1) := by decide +kernel
theorem dL_law_796 : decode cL_law 796 = .ok (.iaload, 1) := by decide +kernel
theorem dL_law_797 : decode cL_law 797 = .ok (.invokevirtual 96, 3) := by decide +kernel
theorem dL_law_800 : decode cL_law 800 = .ok (.aload_n 2, 1) := by decide +kernel
theorem dL_law_801 : decode cL_law 801 = .ok (.aload_n 0, 1) := by decide +kernel
theorem dL_law_802 : decode cL_law 802 = .ok (.iload_n 3, 1) := by decide +kernel
theorem dL_law_803 : decode cL_law 803 = .ok (.iconst 1, 1) := by decide +kernel
theorem dL_law_804 : decode cL_law 804 = .ok (.iadd, 1) := by decide +kernel
theorem dL_law_805 : decode cL_law 805 = .ok (.iaload, 1) := by decide +kernel
theorem dL_law_806 : decode cL_law 806 = .ok (.aload_n 0, 1) := by decide +kernel
theorem dL_law_807 : decode cL_law 807 = .ok (.iload_n 3, 1) := by decide +kernel
theorem dL_law_808 : decode cL_law 808 = .ok (.iconst 2, 1) := by decide +kernel
theorem dL_law_809 : decode cL_law 809 = .ok (.iadd, 1) := by decide +kernel
theorem dL_law_810 : decode cL_law 810 = .ok (.iaload, 1) := by decide +kernel
theorem dL_law_811 : decode cL_law 811 = .ok (.invokevirtual 99, 3) := by decide +kernel
theorem dL_law_814 : decode cL_law 814 = .ok (.if_icmp .eq 474, 3) := by decide +kernel
theorem dL_law_817 : decode cL_law 817 = .ok (.iconst 0, 1) := by decide +kernel
theorem dL_law_818 : decode cL_law 818 = .ok (.ireturn, 1) := by decide +kernel
theorem dL_law_819 : decode cL_law 819 = .ok (.aload_n 1, 1) := by decide +kernel
theorem dL_law_820 : decode cL_law 820 = .ok (.aload_n 0, 1) := by decide +kernel
theorem dL_law_821 : decode cL_law 821 = .ok (.iload_n 3, 1) := by decide +kernel
theorem dL_law_822 : decode cL_law 822 = .ok (.iconst 1, 1) := by decide +kernel
theorem dL_law_823 : decode cL_law 823 = .ok (.iadd, 1) := by decide +kernel
theorem dL_law_824 : decode cL_law 824 = .ok (.iaload, 1) := by decide +kernel
theorem dL_law_825 : decode cL_law 825 = .ok (.invokevirtual 100, 3) := by decide +kernel
theorem dL_law_828 : decode cL_law 828 = .ok (.aload_n 2, 1) := by decide +kernel
theorem dL_law_829 : decode cL_law 829 = .ok (.aload_n 0, 1) := by decide +kernel
theorem dL_law_830 : decode cL_law 830 = .ok (.iload_n 3, 1) := by decide +kernel
theorem dL_law_831 : decode cL_law 831 = .ok (.iconst 1, 1) := by decide +kernel
theorem dL_law_832 : decode cL_law 832 = .ok (.iadd, 1) := by decide +kernel
theorem dL_law_833 : decode cL_law 833 = .ok (.iaload, 1) := by decide +kernel
theorem dL_law_834 : decode cL_law 834 = .ok (.invokevirtual 103, 3) := by decide +kernel
theorem dL_law_837 : decode cL_law 837 = .ok (.if_icmp .eq 451, 3) := by decide +kernel
theorem dL_law_840 : decode cL_law 840 = .ok (.iconst 0, 1) := by decide +kernel
theorem dL_law_841 : decode cL_law 841 = .ok (.ireturn, 1) := by decide +kernel
theorem dL_law_842 : decode cL_law 842 = .ok (.aload_n 1, 1) := by decide +kernel
theorem dL_law_843 : decode cL_law 843 = .ok (.aload_n 0, 1) := by decide +kernel
theorem dL_law_844 : decode cL_law 844 = .ok (.iload_n 3, 1) := by decide +kernel
theorem dL_law_845 : decode cL_law 845 = .ok (.iconst 1, 1) := by decide +kernel
theorem dL_law_846 : decode cL_law 846 = .ok (.iadd, 1) := by decide +kernel
theorem dL_law_847 : decode cL_law 847 = .ok (.iaload, 1) := by decide +kernel
theorem dL_law_848 : decode cL_law 848 = .ok (.aload_n 0, 1) := by decide +kernel
theorem dL_law_849 : decode cL_law 849 = .ok (.iload_n 3, 1) := by decide +kernel
theorem dL_law_850 : decode cL_law 850 = .ok (.iconst 2, 1) := by decide +kernel
theorem dL_law_851 : decode cL_law 851 = .ok (.iadd, 1) := by decide +kernel
theorem dL_law_852 : decode cL_law 852 = .ok (.iaload, 1) := by decide +kernel
theorem dL_law_853 : decode cL_law 853 = .ok (.invokevirtual 104, 3) := by decide +kernel
theorem dL_law_856 : decode cL_law 856 = .ok (.aload_n 2, 1) := by decide +kernel
theorem dL_law_857 : decode cL_law 857 = .ok (.aload_n 0, 1) := by decide +kernel
theorem dL_law_858 : decode cL_law 858 = .ok (.iload_n 3, 1) := by decide +kernel
theorem dL_law_859 : decode cL_law 859 = .ok (.iconst 1, 1) := by decide +kernel
theorem dL_law_860 : decode cL_law 860 = .ok (.iadd, 1) := by decide +kernel
theorem dL_law_861 : decode cL_law 861 = .ok (.iaload, 1) := by decide +kernel
theorem dL_law_862 : decode cL_law 862 = .ok (.aload_n 0, 1) := by decide +kernel
theorem dL_law_863 : decode cL_law 863 = .ok (.iload_n 3, 1) := by decide +kernel
theorem dL_law_864 : decode cL_law 864 = .ok (.iconst 2, 1) := by decide +kernel
theorem dL_law_865 : decode cL_law 865 = .ok (.iadd, 1) := by decide +kernel
theorem dL_law_866 : decode cL_law 866 = .ok (.iaload, 1) := by decide +kernel
theorem dL_law_867 : decode cL_law 867 = .ok (.invokevirtual 107, 3) := by decide +kernel
theorem dL_law_870 : decode cL_law 870 = .ok (.if_icmp .eq 418, 3) := by decide +kernel
theorem dL_law_873 : decode cL_law 873 = .ok (.iconst 0, 1) := by decide +kernel
theorem dL_law_874 : decode cL_law 874 = .ok (.ireturn, 1) := by decide +kernel
theorem dL_law_875 : decode cL_law 875 = .ok (.aload_n 1, 1) := by decide +kernel
theorem dL_law_876 : decode cL_law 876 = .ok (.aload_n 0, 1) := by decide +kernel
theorem dL_law_877 : decode cL_law 877 = .ok (.iload_n 3, 1) := by decide +kernel
theorem dL_law_878 : decode cL_law 878 = .ok (.iconst 1, 1) := by decide +kernel
theorem dL_law_879 : decode cL_law 879 = .ok (.iadd, 1) := by decide +kernel
theorem dL_law_880 : decode cL_law 880 = .ok (.iaload, 1) := by decide +kernel
theorem dL_law_881 : decode cL_law 881 = .ok (.aload_n 0, 1) := by decide +kernel
theorem dL_law_882 : decode cL_law 882 = .ok (.iload_n 3, 1) := by decide +kernel
theorem dL_law_883 : decode cL_law 883 = .ok (.iconst 2, 1) := by decide +kernel
theorem dL_law_884 : decode cL_law 884 = .ok (.iadd, 1) := by decide +kernel
theorem dL_law_885 : decode cL_law 885 = .ok (.iaload, 1) := by decide +kernel
theorem dL_law_886 : decode cL_law 886 = .ok (.invokevirtual 108, 3) := by decide +kernel
theorem dL_law_889 : decode cL_law 889 = .ok (.aload_n 2, 1) := by decide +kernel
theorem dL_law_890 : decode cL_law 890 = .ok (.aload_n 0, 1) := by decide +kernel
theorem dL_law_891 : decode cL_law 891 = .ok (.iload_n 3, 1) := by decide +kernel
theorem dL_law_892 : decode cL_law 892 = .ok (.iconst 1, 1) := by decide +kernel
theorem dL_law_893 : decode cL_law 893 = .ok (.iadd, 1) := by decide +kernel
theorem dL_law_894 : decode cL_law 894 = .ok (.iaload, 1) := by decide +kernel
theorem dL_law_895 : decode cL_law 895 = .ok (.aload_n 0, 1) := by decide +kernel
theorem dL_law_896 : decode cL_law 896 = .ok (.iload_n 3, 1) := by decide +kernel
theorem dL_law_897 : decode cL_law 897 = .ok (.iconst 2, 1) := by decide +kernel
theorem dL_law_898 : decode cL_law 898 = .ok (.iadd, 1) := by decide +kernel
theorem dL_law_899 : decode cL_law 899 = .ok (.iaload, 1) := by decide +kernel
theorem dL_law_900 : decode cL_law 900 = .ok (.invokevirtual 111, 3) := by decide +kernel
theorem dL_law_903 : decode cL_law 903 = .ok (.if_icmp .eq 385, 3) := by decide +kernel
theorem dL_law_906 : decode cL_law 906 = .ok (.iconst 0, 1) := by decide +kernel
theorem dL_law_907 : decode cL_law 907 = .ok (.ireturn, 1) := by decide +kernel
theorem dL_law_908 : decode cL_law 908 = .ok (.aload_n 1, 1) := by decide +kernel
theorem dL_law_909 : decode cL_law 909 = .ok (.invokevirtual 112, 3) := by decide +kernel
theorem dL_law_912 : decode cL_law 912 = .ok (.aload_n 2, 1) := by decide +kernel
theorem dL_law_913 : decode cL_law 913 = .ok (.invokevirtual 116, 3) := by decide +kernel
theorem dL_law_916 : decode cL_law 916 = .ok (.if_icmp .eq 372, 3) := by decide +kernel
theorem dL_law_919 : decode cL_law 919 = .ok (.iconst 0, 1) := by decide +kernel
theorem dL_law_920 : decode cL_law 920 = .ok (.ireturn, 1) := by decide +kernel
theorem dL_law_921 : decode cL_law 921 = .ok (.aload_n 1, 1) := by decide +kernel
theorem dL_law_922 : decode cL_law 922 = .ok (.invokevirtual 117, 3) := by decide +kernel
theorem dL_law_925 : decode cL_law 925 = .ok (.aload_n 2, 1) := by decide +kernel
theorem dL_law_926 : decode cL_law 926 = .ok (.invokevirtual 120, 3) := by decide +kernel
theorem dL_law_929 : decode cL_law 929 = .ok (.if_icmp .eq 359, 3) := by decide +kernel
theorem dL_law_932 : decode cL_law 932 = .ok (.iconst 0, 1) := by decide +kernel
theorem dL_law_933 : decode cL_law 933 = .ok (.ireturn, 1) := by decide +kernel
theorem dL_law_934 : decode cL_law 934 = .ok (.aload_n 1, 1) := by decide +kernel
theorem dL_law_935 : decode cL_law 935 = .ok (.aload_n 0, 1) := by decide +kernel
theorem dL_law_936 : decode cL_law 936 = .ok (.iload_n 3, 1) := by decide +kernel
theorem dL_law_937 : decode cL_law 937 = .ok (.iconst 1, 1) := by decide +kernel
theorem dL_law_938 : decode cL_law 938 = .ok (.iadd, 1) := by decide +kernel
theorem dL_law_939 : decode cL_law 939 = .ok (.iaload, 1) := by decide +kernel
theorem dL_law_940 : decode cL_law 940 = .ok (.aload_n 0, 1) := by decide +kernel
theorem dL_law_941 : decode cL_law 941 = .ok (.iload_n 3, 1) := by decide +kernel
theorem dL_law_942 : decode cL_law 942 = .ok (.iconst 2, 1) := by decide +kernel
theorem dL_law_943 : decode cL_law 943 = .ok (.iadd, 1) := by decide +kernel
theorem dL_law_944 : decode cL_law 944 = .ok (.iaload, 1) := by decide +kernel
theorem dL_law_945 : decode cL_law 945 = .ok (.aload_n 0, 1) := by decide +kernel
theorem dL_law_946 : decode cL_law 946 = .ok (.iload_n 3, 1) := by decide +kernel
theorem dL_law_947 : decode cL_law 947 = .ok (.iconst 3, 1) := by decide +kernel
theorem dL_law_948 : decode cL_law 948 = .ok (.iadd, 1) := by decide +kernel
theorem dL_law_949 : decode cL_law 949 = .ok (.iaload, 1) := by decide +kernel
theorem dL_law_950 : decode cL_law 950 = .ok (.invokevirtual 121, 3) := by decide +kernel
theorem dL_law_953 : decode cL_law 953 = .ok (.aload_n 2, 1) := by decide +kernel
theorem dL_law_954 : decode cL_law 954 = .ok (.aload_n 0, 1) := by decide +kernel
theorem dL_law_955 : decode cL_law 955 = .ok (.iload_n 3, 1) := by decide +kernel
theorem dL_law_956 : decode cL_law 956 = .ok (.iconst 1, 1) := by decide +kernel
theorem dL_law_957 : decode cL_law 957 = .ok (.iadd, 1) := by decide +kernel
theorem dL_law_958 : decode cL_law 958 = .ok (.iaload, 1) := by decide +kernel
theorem dL_law_959 : decode cL_law 959 = .ok (.aload_n 0, 1) := by decide +kernel
theorem dL_law_960 : decode cL_law 960 = .ok (.iload_n 3, 1) := by decide +kernel
theorem dL_law_961 : decode cL_law 961 = .ok (.iconst 2, 1) := by decide +kernel
theorem dL_law_962 : decode cL_law 962 = .ok (.iadd, 1) := by decide +kernel
theorem dL_law_963 : decode cL_law 963 = .ok (.iaload, 1) := by decide +kernel
theorem dL_law_964 : decode cL_law 964 = .ok (.aload_n 0, 1) := by decide +kernel
theorem dL_law_965 : decode cL_law 965 = .ok (.iload_n 3, 1) := by decide +kernel
theorem dL_law_966 : decode cL_law 966 = .ok (.iconst 3, 1) := by decide +kernel
theorem dL_law_967 : decode cL_law 967 = .ok (.iadd, 1) := by decide +kernel
theorem dL_law_968 : decode cL_law 968 = .ok (.iaload, 1) := by decide +kernel
theorem dL_law_969 : decode cL_law 969 = .ok (.invokevirtual 124, 3) := by decide +kernel
theorem dL_law_972 : decode cL_law 972 = .ok (.if_icmp .eq 316, 3) := by decide +kernel
theorem dL_law_975 : decode cL_law 975 = .ok (.iconst 0, 1) := by decide +kernel
theorem dL_law_976 : decode cL_law 976 = .ok (.ireturn, 1) := by decide +kernel
theorem dL_law_977 : decode cL_law 977 = .ok (.aload_n 1, 1) := by decide +kernel
theorem dL_law_978 : decode cL_law 978 = .ok (.aload_n 0, 1) := by decide +kernel
theorem dL_law_979 : decode cL_law 979 = .ok (.iload_n 3, 1) := by decide +kernel
theorem dL_law_980 : decode cL_law 980 = .ok (.iconst 1, 1) := by decide +kernel
theorem dL_law_981 : decode cL_law 981 = .ok (.iadd, 1) := by decide +kernel
theorem dL_law_982 : decode cL_law 982 = .ok (.iaload, 1) := by decide +kernel
theorem dL_law_983 : decode cL_law 983 = .ok (.aload_n 0, 1) := by decide +kernel
theorem dL_law_984 : decode cL_law 984 = .ok (.iload_n 3, 1) := by decide +kernel
theorem dL_law_985 : decode cL_law 985 = .ok (.iconst 2, 1) := by decide +kernel
theorem dL_law_986 : decode cL_law 986 = .ok (.iadd, 1) := by decide +kernel
theorem dL_law_987 : decode cL_law 987 = .ok (.iaload, 1) := by decide +kernel
theorem dL_law_988 : decode cL_law 988 = .ok (.aload_n 0, 1) := by decide +kernel
theorem dL_law_989 : decode cL_law 989 = .ok (.iload_n 3, 1) := by decide +kernel
theorem dL_law_990 : decode cL_law 990 = .ok (.iconst 3, 1) := by decide +kernel
theorem dL_law_991 : decode cL_law 991 = .ok (.iadd, 1) := by decide +kernel
theorem dL_law_992 : decode cL_law 992 = .ok (.iaload, 1) := by decide +kernel
theorem dL_law_993 : decode cL_law 993 = .ok (.i2l, 1) := by decide +kernel
theorem dL_law_994 : decode cL_law 994 = .ok (.bipush 32, 2) := by decide +kernel
theorem dL_law_996 : decode cL_law 996 = .ok (.lshl, 1) := by decide +kernel
theorem dL_law_997 : decode cL_law 997 = .ok (.aload_n 0, 1) := by decide +kernel
theorem dL_law_998 : decode cL_law 998 = .ok (.iload_n 3, 1) := by decide +kernel
theorem dL_law_999 : decode cL_law 999 = .ok (.iconst 4, 1) := by decide +kernel
theorem dL_law_1000 : decode cL_law 1000 = .ok (.iadd, 1) := by decide +kernel
theorem dL_law_1001 : decode cL_law 1001 = .ok (.iaload, 1) := by decide +kernel
theorem dL_law_1002 : decode cL_law 1002 = .ok (.i2l, 1) := by decide +kernel
theorem dL_law_1003 : decode cL_law 1003 = .ok (.ldc2_w 125, 3) := by decide +kernel
theorem dL_law_1006 : decode cL_law 1006 = .ok (.land, 1) := by decide +kernel
theorem dL_law_1007 : decode cL_law 1007 = .ok (.lor, 1) := by decide +kernel
theorem dL_law_1008 : decode cL_law 1008 = .ok (.invokevirtual 127, 3) := by decide +kernel
theorem dL_law_1011 : decode cL_law 1011 = .ok (.aload_n 2, 1) := by decide +kernel
theorem dL_law_1012 : decode cL_law 1012 = .ok (.aload_n 0, 1) := by decide +kernel
theorem dL_law_1013 : decode cL_law 1013 = .ok (.iload_n 3, 1) := by decide +kernel
theorem dL_law_1014 : decode cL_law 1014 = .ok (.iconst 1, 1) := by decide +kernel
theorem dL_law_1015 : decode cL_law 1015 = .ok (.iadd, 1) := by decide +kernel
theorem dL_law_1016 : decode cL_law 1016 = .ok (.iaload, 1) := by decide +kernel
theorem dL_law_1017 : decode cL_law 1017 = .ok (.aload_n 0, 1) := by decide +kernel
theorem dL_law_1018 : decode cL_law 1018 = .ok (.iload_n 3, 1) := by decide +kernel
theorem dL_law_1019 : decode cL_law 1019 = .ok (.iconst 2, 1) := by decide +kernel
theorem dL_law_1020 : decode cL_law 1020 = .ok (.iadd, 1) := by decide +kernel
theorem dL_law_1021 : decode cL_law 1021 = .ok (.iaload, 1) := by decide +kernel
theorem dL_law_1022 : decode cL_law 1022 = .ok (.aload_n 0, 1) := by decide +kernel
theorem dL_law_1023 : decode cL_law 1023 = .ok (.iload_n 3, 1) := by decide +kernel
theorem dL_law_1024 : decode cL_law 1024 = .ok (.iconst 3, 1) := by decide +kernel
theorem dL_law_1025 : decode cL_law 1025 = .ok (.iadd, 1) := by decide +kernel
theorem dL_law_1026 : decode cL_law 1026 = .ok (.iaload, 1) := by decide +kernel
theorem dL_law_1027 : decode cL_law 1027 = .ok (.i2l, 1) := by decide +kernel
theorem dL_law_1028 : decode cL_law 1028 = .ok (.bipush 32, 2) := by decide +kernel
theorem dL_law_1030 : decode cL_law 1030 = .ok (.lshl, 1) := by decide +kernel
theorem dL_law_1031 : decode cL_law 1031 = .ok (.aload_n 0, 1) := by decide +kernel
theorem dL_law_1032 : decode cL_law 1032 = .ok (.iload_n 3, 1) := by decide +kernel
theorem dL_law_1033 : decode cL_law 1033 = .ok (.iconst 4, 1) := by decide +kernel
theorem dL_law_1034 : decode cL_law 1034 = .ok (.iadd, 1) := by decide +kernel
theorem dL_law_1035 : decode cL_law 1035 = .ok (.iaload, 1) := by decide +kernel
theorem dL_law_1036 : decode cL_law 1036 = .ok (.i2l, 1) := by decide +kernel
theorem dL_law_1037 : decode cL_law 1037 = .ok (.ldc2_w 125, 3) := by decide +kernel
theorem dL_law_1040 : decode cL_law 1040 = .ok (.land, 1) := by decide +kernel
theorem dL_law_1041 : decode cL_law 1041 = .ok (.lor, 1) := by decide +kernel
theorem dL_law_1042 : decode cL_law 1042 = .ok (.invokevirtual 131, 3) := by decide +kernel
theorem dL_law_1045 : decode cL_law 1045 = .ok (.lcmp, 1) := by decide +kernel
theorem dL_law_1046 : decode cL_law 1046 = .ok (.ifCond .eq 242, 3) := by decide +kernel
theorem dL_law_1049 : decode cL_law 1049 = .ok (.iconst 0, 1) := by decide +kernel
theorem dL_law_1050 : decode cL_law 1050 = .ok (.ireturn, 1) := by decide +kernel
theorem dL_law_1051 : decode cL_law 1051 = .ok (.aload_n 1, 1) := by decide +kernel
theorem dL_law_1052 : decode cL_law 1052 = .ok (.aload_n 0, 1) := by decide +kernel
theorem dL_law_1053 : decode cL_law 1053 = .ok (.iload_n 3, 1) := by decide +kernel
theorem dL_law_1054 : decode cL_law 1054 = .ok (.iconst 1, 1) := by decide +kernel
theorem dL_law_1055 : decode cL_law 1055 = .ok (.iadd, 1) := by decide +kernel
theorem dL_law_1056 : decode cL_law 1056 = .ok (.iaload, 1) := by decide +kernel
theorem dL_law_1057 : decode cL_law 1057 = .ok (.aload_n 0, 1) := by decide +kernel
theorem dL_law_1058 : decode cL_law 1058 = .ok (.iload_n 3, 1) := by decide +kernel
theorem dL_law_1059 : decode cL_law 1059 = .ok (.iconst 2, 1) := by decide +kernel
theorem dL_law_1060 : decode cL_law 1060 = .ok (.iadd, 1) := by decide +kernel
theorem dL_law_1061 : decode cL_law 1061 = .ok (.iaload, 1) := by decide +kernel
theorem dL_law_1062 : decode cL_law 1062 = .ok (.aload_n 0, 1) := by decide +kernel
theorem dL_law_1063 : decode cL_law 1063 = .ok (.iload_n 3, 1) := by decide +kernel
theorem dL_law_1064 : decode cL_law 1064 = .ok (.iconst 3, 1) := by decide +kernel
theorem dL_law_1065 : decode cL_law 1065 = .ok (.iadd, 1) := by decide +kernel
theorem dL_law_1066 : decode cL_law 1066 = .ok (.iaload, 1) := by decide +kernel
theorem dL_law_1067 : decode cL_law 1067 = .ok (.aload_n 0, 1) := by decide +kernel
theorem dL_law_1068 : decode cL_law 1068 = .ok (.iload_n 3, 1) := by decide +kernel
theorem dL_law_1069 : decode cL_law 1069 = .ok (.iconst 4, 1) := by decide +kernel
theorem dL_law_1070 : decode cL_law 1070 = .ok (.iadd, 1) := by decide +kernel
theorem dL_law_1071 : decode cL_law 1071 = .ok (.iaload, 1) := by decide +kernel
theorem dL_law_1072 : decode cL_law 1072 = .ok (.aload_n 0, 1) := by decide +kernel
theorem dL_law_1073 : decode cL_law 1073 = .ok (.iload_n 3, 1) := by decide +kernel
theorem dL_law_1074 : decode cL_law 1074 = .ok (.iconst 5, 1) := by decide +kernel
theorem dL_law_1075 : decode cL_law 1075 = .ok (.iadd, 1) := by decide +kernel
theorem dL_law_1076 : decode cL_law 1076 = .ok (.iaload, 1) := by decide +kernel
theorem dL_law_1077 : decode cL_law 1077 = .ok (.invokevirtual 132, 3) := by decide +kernel
theorem dL_law_1080 : decode cL_law 1080 = .ok (.aload_n 2, 1) := by decide +kernel
theorem dL_law_1081 : decode cL_law 1081 = .ok (.aload_n 0, 1) := by decide +kernel
theorem dL_law_1082 : decode cL_law 1082 = .ok (.iload_n 3, 1) := by decide +kernel
theorem dL_law_1083 : decode cL_law 1083 = .ok (.iconst 1, 1) := by decide +kernel
theorem dL_law_1084 : decode cL_law 1084 = .ok (.iadd, 1) := by decide +kernel
theorem dL_law_1085 : decode cL_law 1085 = .ok (.iaload, 1) := by decide +kernel
theorem dL_law_1086 : decode cL_law 1086 = .ok (.aload_n 0, 1) := by decide +kernel
theorem dL_law_1087 : decode cL_law 1087 = .ok (.iload_n 3, 1) := by decide +kernel
theorem dL_law_1088 : decode cL_law 1088 = .ok (.iconst 2, 1) := by decide +kernel
theorem dL_law_1089 : decode cL_law 1089 = .ok (.iadd, 1) := by decide +kernel
theorem dL_law_1090 : decode cL_law 1090 = .ok (.iaload, 1) := by decide +kernel
theorem dL_law_1091 : decode cL_law 1091 = .ok (.aload_n 0, 1) := by decide +kernel
theorem dL_law_1092 : decode cL_law 1092 = .ok (.iload_n 3, 1) := by decide +kernel
theorem dL_law_1093 : decode cL_law 1093 = .ok (.iconst 3, 1) := by decide +kernel
theorem dL_law_1094 : decode cL_law 1094 = .ok (.iadd, 1) := by decide +kernel
theorem dL_law_1095 : decode cL_law 1095 = .ok (.iaload, 1) := by decide +kernel
theorem dL_law_1096 : decode cL_law 1096 = .ok (.aload_n 0, 1) := by decide +kernel
theorem dL_law_1097 : decode cL_law 1097 = .ok (.iload_n 3, 1) := by decide +kernel
theorem dL_law_1098 : decode cL_law 1098 = .ok (.iconst 4, 1) := by decide +kernel
theorem dL_law_1099 : decode cL_law 1099 = .ok (.iadd, 1) := by decide +kernel
theorem dL_law_1100 : decode cL_law 1100 = .ok (.iaload, 1) := by decide +kernel
theorem dL_law_1101 : decode cL_law 1101 = .ok (.aload_n 0, 1) := by decide +kernel
theorem dL_law_1102 : decode cL_law 1102 = .ok (.iload_n 3, 1) := by decide +kernel
theorem dL_law_1103 : decode cL_law 1103 = .ok (.iconst 5, 1) := by decide +kernel
theorem dL_law_1104 : decode cL_law 1104 = .ok (.iadd, 1) := by decide +kernel
theorem dL_law_1105 : decode cL_law 1105 = .ok (.iaload, 1) := by decide +kernel
theorem dL_law_1106 : decode cL_law 1106 = .ok (.invokevirtual 136, 3) := by decide +kernel
theorem dL_law_1109 : decode cL_law 1109 = .ok (.if_icmp .eq 179, 3) := by decide +kernel
theorem dL_law_1112 : decode cL_law 1112 = .ok (.iconst 0, 1) := by decide +kernel
theorem dL_law_1113 : decode cL_law 1113 = .ok (.ireturn, 1) := by decide +kernel
theorem dL_law_1114 : decode cL_law 1114 = .ok (.aload_n 1, 1) := by decide +kernel
theorem dL_law_1115 : decode cL_law 1115 = .ok (.aload_n 0, 1) := by decide +kernel
theorem dL_law_1116 : decode cL_law 1116 = .ok (.iload_n 3, 1) := by decide +kernel
theorem dL_law_1117 : decode cL_law 1117 = .ok (.iconst 1, 1) := by decide +kernel
theorem dL_law_1118 : decode cL_law 1118 = .ok (.iadd, 1) := by decide +kernel
theorem dL_law_1119 : decode cL_law 1119 = .ok (.iaload, 1) := by decide +kernel
theorem dL_law_1120 : decode cL_law 1120 = .ok (.invokevirtual 137, 3) := by decide +kernel
theorem dL_law_1123 : decode cL_law 1123 = .ok (.aload_n 2, 1) := by decide +kernel
theorem dL_law_1124 : decode cL_law 1124 = .ok (.aload_n 0, 1) := by decide +kernel
theorem dL_law_1125 : decode cL_law 1125 = .ok (.iload_n 3, 1) := by decide +kernel
theorem dL_law_1126 : decode cL_law 1126 = .ok (.iconst 1, 1) := by decide +kernel
theorem dL_law_1127 : decode cL_law 1127 = .ok (.iadd, 1) := by decide +kernel
theorem dL_law_1128 : decode cL_law 1128 = .ok (.iaload, 1) := by decide +kernel
theorem dL_law_1129 : decode cL_law 1129 = .ok (.invokevirtual 140, 3) := by decide +kernel
theorem dL_law_1132 : decode cL_law 1132 = .ok (.if_icmp .eq 156, 3) := by decide +kernel
theorem dL_law_1135 : decode cL_law 1135 = .ok (.iconst 0, 1) := by decide +kernel
theorem dL_law_1136 : decode cL_law 1136 = .ok (.ireturn, 1) := by decide +kernel
theorem dL_law_1137 : decode cL_law 1137 = .ok (.aload_n 1, 1) := by decide +kernel
theorem dL_law_1138 : decode cL_law 1138 = .ok (.aload_n 0, 1) := by decide +kernel
theorem dL_law_1139 : decode cL_law 1139 = .ok (.iload_n 3, 1) := by decide +kernel
theorem dL_law_1140 : decode cL_law 1140 = .ok (.iconst 1, 1) := by decide +kernel
theorem dL_law_1141 : decode cL_law 1141 = .ok (.iadd, 1) := by decide +kernel
theorem dL_law_1142 : decode cL_law 1142 = .ok (.iaload, 1) := by decide +kernel
theorem dL_law_1143 : decode cL_law 1143 = .ok (.aload_n 0, 1) := by decide +kernel
theorem dL_law_1144 : decode cL_law 1144 = .ok (.iload_n 3, 1) := by decide +kernel
theorem dL_law_1145 : decode cL_law 1145 = .ok (.iconst 2, 1) := by decide +kernel
theorem dL_law_1146 : decode cL_law 1146 = .ok (.iadd, 1) := by decide +kernel
theorem dL_law_1147 : decode cL_law 1147 = .ok (.iaload, 1) := by decide +kernel
theorem dL_law_1148 : decode cL_law 1148 = .ok (.invokevirtual 141, 3) := by decide +kernel
theorem dL_law_1151 : decode cL_law 1151 = .ok (.aload_n 2, 1) := by decide +kernel
theorem dL_law_1152 : decode cL_law 1152 = .ok (.aload_n 0, 1) := by decide +kernel
theorem dL_law_1153 : decode cL_law 1153 = .ok (.iload_n 3, 1) := by decide +kernel
theorem dL_law_1154 : decode cL_law 1154 = .ok (.iconst 1, 1) := by decide +kernel
theorem dL_law_1155 : decode cL_law 1155 = .ok (.iadd, 1) := by decide +kernel
theorem dL_law_1156 : decode cL_law 1156 = .ok (.iaload, 1) := by decide +kernel
theorem dL_law_1157 : decode cL_law 1157 = .ok (.aload_n 0, 1) := by decide +kernel
theorem dL_law_1158 : decode cL_law 1158 = .ok (.iload_n 3, 1) := by decide +kernel
theorem dL_law_1159 : decode cL_law 1159 = .ok (.iconst 2, 1) := by decide +kernel
theorem dL_law_1160 : decode cL_law 1160 = .ok (.iadd, 1) := by decide +kernel
theorem dL_law_1161 : decode cL_law 1161 = .ok (.iaload, 1) := by decide +kernel
theorem dL_law_1162 : decode cL_law 1162 = .ok (.invokevirtual 144, 3) := by decide +kernel
theorem dL_law_1165 : decode cL_law 1165 = .ok (.if_icmp .eq 123, 3) := by decide +kernel
theorem dL_law_1168 : decode cL_law 1168 = .ok (.iconst 0, 1) := by decide +kernel
theorem dL_law_1169 : decode cL_law 1169 = .ok (.ireturn, 1) := by decide +kernel
theorem dL_law_1170 : decode cL_law 1170 = .ok (.aload_n 1, 1) := by decide +kernel
theorem dL_law_1171 : decode cL_law 1171 = .ok (.aload_n 0, 1) := by decide +kernel
theorem dL_law_1172 : decode cL_law 1172 = .ok (.iload_n 3, 1) := by decide +kernel
theorem dL_law_1173 : decode cL_law 1173 = .ok (.iconst 1, 1) := by decide +kernel
theorem dL_law_1174 : decode cL_law 1174 = .ok (.iadd, 1) := by decide +kernel
theorem dL_law_1175 : decode cL_law 1175 = .ok (.iaload, 1) := by decide +kernel
theorem dL_law_1176 : decode cL_law 1176 = .ok (.aload_n 0, 1) := by decide +kernel
theorem dL_law_1177 : decode cL_law 1177 = .ok (.iload_n 3, 1) := by decide +kernel
theorem dL_law_1178 : decode cL_law 1178 = .ok (.iconst 2, 1) := by decide +kernel
theorem dL_law_1179 : decode cL_law 1179 = .ok (.iadd, 1) := by decide +kernel
theorem dL_law_1180 : decode cL_law 1180 = .ok (.iaload, 1) := by decide +kernel
theorem dL_law_1181 : decode cL_law 1181 = .ok (.invokevirtual 145, 3) := by decide +kernel
theorem dL_law_1184 : decode cL_law 1184 = .ok (.aload_n 2, 1) := by decide +kernel
theorem dL_law_1185 : decode cL_law 1185 = .ok (.aload_n 0, 1) := by decide +kernel
theorem dL_law_1186 : decode cL_law 1186 = .ok (.iload_n 3, 1) := by decide +kernel
theorem dL_law_1187 : decode cL_law 1187 = .ok (.iconst 1, 1) := by decide +kernel
theorem dL_law_1188 : decode cL_law 1188 = .ok (.iadd, 1) := by decide +kernel
theorem dL_law_1189 : decode cL_law 1189 = .ok (.iaload, 1) := by decide +kernel
theorem dL_law_1190 : decode cL_law 1190 = .ok (.aload_n 0, 1) := by decide +kernel
theorem dL_law_1191 : decode cL_law 1191 = .ok (.iload_n 3, 1) := by decide +kernel
theorem dL_law_1192 : decode cL_law 1192 = .ok (.iconst 2, 1) := by decide +kernel
theorem dL_law_1193 : decode cL_law 1193 = .ok (.iadd, 1) := by decide +kernel
theorem dL_law_1194 : decode cL_law 1194 = .ok (.iaload, 1) := by decide +kernel
theorem dL_law_1195 : decode cL_law 1195 = .ok (.invokevirtual 148, 3) := by decide +kernel
theorem dL_law_1198 : decode cL_law 1198 = .ok (.if_icmp .eq 90, 3) := by decide +kernel
theorem dL_law_1201 : decode cL_law 1201 = .ok (.iconst 0, 1) := by decide +kernel
theorem dL_law_1202 : decode cL_law 1202 = .ok (.ireturn, 1) := by decide +kernel
theorem dL_law_1203 : decode cL_law 1203 = .ok (.aload_n 1, 1) := by decide +kernel
theorem dL_law_1204 : decode cL_law 1204 = .ok (.invokevirtual 149, 3) := by decide +kernel
theorem dL_law_1207 : decode cL_law 1207 = .ok (.aload_n 2, 1) := by decide +kernel
theorem dL_law_1208 : decode cL_law 1208 = .ok (.invokevirtual 152, 3) := by decide +kernel
theorem dL_law_1211 : decode cL_law 1211 = .ok (.if_icmp .eq 77, 3) := by decide +kernel
theorem dL_law_1214 : decode cL_law 1214 = .ok (.iconst 0, 1) := by decide +kernel
theorem dL_law_1215 : decode cL_law 1215 = .ok (.ireturn, 1) := by decide +kernel
theorem dL_law_1216 : decode cL_law 1216 = .ok (.aload_n 1, 1) := by decide +kernel
theorem dL_law_1217 : decode cL_law 1217 = .ok (.invokevirtual 153, 3) := by decide +kernel
theorem dL_law_1220 : decode cL_law 1220 = .ok (.aload_n 2, 1) := by decide +kernel
theorem dL_law_1221 : decode cL_law 1221 = .ok (.invokevirtual 156, 3) := by decide +kernel
theorem dL_law_1224 : decode cL_law 1224 = .ok (.if_icmp .eq 64, 3) := by decide +kernel
theorem dL_law_1227 : decode cL_law 1227 = .ok (.iconst 0, 1) := by decide +kernel
theorem dL_law_1228 : decode cL_law 1228 = .ok (.ireturn, 1) := by decide +kernel
theorem dL_law_1229 : decode cL_law 1229 = .ok (.aload_n 1, 1) := by decide +kernel
theorem dL_law_1230 : decode cL_law 1230 = .ok (.invokevirtual 157, 3) := by decide +kernel
theorem dL_law_1233 : decode cL_law 1233 = .ok (.aload_n 2, 1) := by decide +kernel
theorem dL_law_1234 : decode cL_law 1234 = .ok (.invokevirtual 160, 3) := by decide +kernel
theorem dL_law_1237 : decode cL_law 1237 = .ok (.if_icmp .eq 51, 3) := by decide +kernel
theorem dL_law_1240 : decode cL_law 1240 = .ok (.iconst 0, 1) := by decide +kernel
theorem dL_law_1241 : decode cL_law 1241 = .ok (.ireturn, 1) := by decide +kernel
theorem dL_law_1242 : decode cL_law 1242 = .ok (.aload_n 1, 1) := by decide +kernel
theorem dL_law_1243 : decode cL_law 1243 = .ok (.aload_n 0, 1) := by decide +kernel
theorem dL_law_1244 : decode cL_law 1244 = .ok (.iload_n 3, 1) := by decide +kernel
theorem dL_law_1245 : decode cL_law 1245 = .ok (.iconst 1, 1) := by decide +kernel
theorem dL_law_1246 : decode cL_law 1246 = .ok (.iadd, 1) := by decide +kernel
theorem dL_law_1247 : decode cL_law 1247 = .ok (.iaload, 1) := by decide +kernel
theorem dL_law_1248 : decode cL_law 1248 = .ok (.invokevirtual 161, 3) := by decide +kernel
theorem dL_law_1251 : decode cL_law 1251 = .ok (.aload_n 2, 1) := by decide +kernel
theorem dL_law_1252 : decode cL_law 1252 = .ok (.aload_n 0, 1) := by decide +kernel
theorem dL_law_1253 : decode cL_law 1253 = .ok (.iload_n 3, 1) := by decide +kernel
theorem dL_law_1254 : decode cL_law 1254 = .ok (.iconst 1, 1) := by decide +kernel
theorem dL_law_1255 : decode cL_law 1255 = .ok (.iadd, 1) := by decide +kernel
theorem dL_law_1256 : decode cL_law 1256 = .ok (.iaload, 1) := by decide +kernel
theorem dL_law_1257 : decode cL_law 1257 = .ok (.invokevirtual 164, 3) := by decide +kernel
theorem dL_law_1260 : decode cL_law 1260 = .ok (.if_icmp .eq 28, 3) := by decide +kernel
theorem dL_law_1263 : decode cL_law 1263 = .ok (.iconst 0, 1) := by decide +kernel
theorem dL_law_1264 : decode cL_law 1264 = .ok (.ireturn, 1) := by decide +kernel
theorem dL_law_1265 : decode cL_law 1265 = .ok (.aload_n 1, 1) := by decide +kernel
theorem dL_law_1266 : decode cL_law 1266 = .ok (.aload_n 0, 1) := by decide +kernel
theorem dL_law_1267 : decode cL_law 1267 = .ok (.iload_n 3, 1) := by decide +kernel
theorem dL_law_1268 : decode cL_law 1268 = .ok (.iconst 1, 1) := by decide +kernel
theorem dL_law_1269 : decode cL_law 1269 = .ok (.iadd, 1) := by decide +kernel
theorem dL_law_1270 : decode cL_law 1270 = .ok (.iaload, 1) := by decide +kernel
theorem dL_law_1271 : decode cL_law 1271 = .ok (.invokevirtual 165, 3) := by decide +kernel
theorem dL_law_1274 : decode cL_law 1274 = .ok (.aload_n 2, 1) := by decide +kernel
theorem dL_law_1275 : decode cL_law 1275 = .ok (.aload_n 0, 1) := by decide +kernel
theorem dL_law_1276 : decode cL_law 1276 = .ok (.iload_n 3, 1) := by decide +kernel
theorem dL_law_1277 : decode cL_law 1277 = .ok (.iconst 1, 1) := by decide +kernel
theorem dL_law_1278 : decode cL_law 1278 = .ok (.iadd, 1) := by decide +kernel
theorem dL_law_1279 : decode cL_law 1279 = .ok (.iaload, 1) := by decide +kernel
theorem dL_law_1280 : decode cL_law 1280 = .ok (.invokevirtual 168, 3) := by decide +kernel
theorem dL_law_1283 : decode cL_law 1283 = .ok (.if_icmp .eq 5, 3) := by decide +kernel
theorem dL_law_1286 : decode cL_law 1286 = .ok (.iconst 0, 1) := by decide +kernel
theorem dL_law_1287 : decode cL_law 1287 = .ok (.ireturn, 1) := by decide +kernel
theorem dL_law_1288 : decode cL_law 1288 = .ok (.iinc 3 6, 3) := by decide +kernel
theorem dL_law_1291 : decode cL_law 1291 = .ok (.goto (-1273), 3) := by decide +kernel
theorem dL_law_1294 : decode cL_law 1294 = .ok (.iconst 1, 1) := by decide +kernel
theorem dL_law_1295 : decode cL_law 1295 = .ok (.ireturn, 1) := by decide +kernel
end
section

def TB : List Cond := lw_tbl.filter goodWord
theorem inTB {w : Cond} (i : Nat) (h : lw_tbl[i]? = some w) (hg : goodWord w = true) : w ∈ TB := List.mem_filter.mpr ⟨List.mem_of_getElem? h, hg⟩
theorem tb_sub {w : Cond} (h : w ∈ TB) : w ∈ lw_tbl := (List.mem_filter.mp h).1
theorem tb_good {w : Cond} (h : w ∈ TB) : goodWord w = true := (List.mem_filter.mp h).2
theorem wi_RL : Cond.initialized RL ∈ TB := inTB 36 (by decide +kernel) rfl
theorem wi_RX6 : Cond.initialized RX6 ∈ TB := inTB 37 (by decide +kernel) rfl
theorem wi_RX2 : Cond.initialized RX2 ∈ TB := inTB 38 (by decide +kernel) rfl
theorem wi_RX1 : Cond.initialized RX1 ∈ TB := inTB 39 (by decide +kernel) rfl
theorem wi_RX4 : Cond.initialized RX4 ∈ TB := inTB 40 (by decide +kernel) rfl
theorem wi_RX3 : Cond.initialized RX3 ∈ TB := inTB 41 (by decide +kernel) rfl
theorem wi_RX7 : Cond.initialized RX7 ∈ TB := inTB 42 (by decide +kernel) rfl
theorem wi_RJ9 : Cond.initialized RJ9 ∈ TB := inTB 43 (by decide +kernel) rfl
theorem wi_RX0 : Cond.initialized RX0 ∈ TB := inTB 44 (by decide +kernel) rfl
theorem wi_RJ6 : Cond.initialized RJ6 ∈ TB := inTB 45 (by decide +kernel) rfl
theorem wi_RJ10 : Cond.initialized RJ10 ∈ TB := inTB 46 (by decide +kernel) rfl
theorem wi_RX5 : Cond.initialized RX5 ∈ TB := inTB 47 (by decide +kernel) rfl
theorem wi_RJ0 : Cond.initialized RJ0 ∈ TB := inTB 48 (by decide +kernel) rfl
theorem wi_RJ1 : Cond.initialized RJ1 ∈ TB := inTB 49 (by decide +kernel) rfl
theorem wi_RJ3 : Cond.initialized RJ3 ∈ TB := inTB 50 (by decide +kernel) rfl
theorem wi_RJ2 : Cond.initialized RJ2 ∈ TB := inTB 51 (by decide +kernel) rfl
theorem wi_RJ7 : Cond.initialized RJ7 ∈ TB := inTB 52 (by decide +kernel) rfl
theorem kl_RL_7 : Cond.classLink RL 7 RX6 ∈ TB := inTB 53 (by decide +kernel) rfl
theorem wn_RX6 : Cond.instantiable RX6 7 ∈ TB := inTB 54 (by decide +kernel) rfl
theorem ml_RL_9 : Cond.methodLink RL 9 yX6_init ∈ TB := inTB 55 (by decide +kernel) rfl
theorem wm_X6_init : Cond.instanceMethod yX6_init ∈ TB := inTB 56 (by decide +kernel) rfl
theorem wc_X6_init : Cond.code yX6_init cX6_init 2 none ∈ TB := inTB 57 (by decide +kernel) rfl
theorem ml_RX6_1 : Cond.methodLink RX6 1 ⟨"java/lang/Object", "<init>", "()V"⟩ ∈ TB := inTB 58 (by decide +kernel) rfl
theorem wm_java_lang_Object_init_ : Cond.instanceMethod ⟨"java/lang/Object", "<init>", "()V"⟩ ∈ TB := inTB 59 (by decide +kernel) rfl
theorem wc_java_lang_Object_init_ : Cond.code ⟨"java/lang/Object", "<init>", "()V"⟩ object_method_1_code 1 none ∈ TB := inTB 60 (by decide +kernel) rfl
theorem kl_RX6_13 : Cond.classLink RX6 13 RX2 ∈ TB := inTB 61 (by decide +kernel) rfl
theorem wn_RX2 : Cond.instantiable RX2 9 ∈ TB := inTB 62 (by decide +kernel) rfl
theorem ml_RX6_15 : Cond.methodLink RX6 15 yX2_init ∈ TB := inTB 63 (by decide +kernel) rfl
theorem wm_X2_init : Cond.instanceMethod yX2_init ∈ TB := inTB 64 (by decide +kernel) rfl
theorem wc_X2_init : Cond.code yX2_init cX2_init 2 none ∈ TB := inTB 65 (by decide +kernel) rfl
theorem ml_RX2_1 : Cond.methodLink RX2 1 ⟨"java/lang/Object", "<init>", "()V"⟩ ∈ TB := inTB 66 (by decide +kernel) rfl
theorem kl_RX2_32 : Cond.classLink RX2 32 RX1 ∈ TB := inTB 67 (by decide +kernel) rfl
theorem wn_RX1 : Cond.instantiable RX1 5 ∈ TB := inTB 69 (by decide +kernel) rfl
theorem wm_X1_init : Cond.instanceMethod yX1_init ∈ TB := inTB 71 (by decide +kernel) rfl
theorem wc_X1_init : Cond.code yX1_init cX1_init 1 none ∈ TB := inTB 72 (by decide +kernel) rfl
theorem ml_RX1_1 : Cond.methodLink RX1 1 ⟨"java/lang/Object", "<init>", "()V"⟩ ∈ TB := inTB 73 (by decide +kernel) rfl
theorem fl_RX1_7 : Cond.fieldLink RX1 7 RX1 "kind" "I" ∈ TB := inTB 74 (by decide +kernel) rfl
theorem fl_RX6_114 : Cond.fieldLink RX6 114 RX1 "kind" "I" ∈ TB := inTB 75 (by decide +kernel) rfl
theorem fl_RX2_62 : Cond.fieldLink RX2 62 RX1 "kind" "I" ∈ TB := inTB 76 (by decide +kernel) rfl
theorem fl_RX1_13 : Cond.fieldLink RX1 13 RX1 "words" "I" ∈ TB := inTB 77 (by decide +kernel) rfl
theorem fl_RX6_117 : Cond.fieldLink RX6 117 RX1 "words" "I" ∈ TB := inTB 78 (by decide +kernel) rfl
theorem fl_RX2_65 : Cond.fieldLink RX2 65 RX1 "words" "I" ∈ TB := inTB 79 (by decide +kernel) rfl
theorem fl_RX1_16 : Cond.fieldLink RX1 16 RX1 "black" "I" ∈ TB := inTB 80 (by decide +kernel) rfl
theorem fl_RX6_120 : Cond.fieldLink RX6 120 RX1 "black" "I" ∈ TB := inTB 81 (by decide +kernel) rfl
theorem fl_RX2_81 : Cond.fieldLink RX2 81 RX1 "black" "I" ∈ TB := inTB 82 (by decide +kernel) rfl
theorem fl_RX1_19 : Cond.fieldLink RX1 19 RX1 "sun" "I" ∈ TB := inTB 83 (by decide +kernel) rfl
theorem fl_RX5_85 : Cond.fieldLink RX5 85 RX1 "sun" "I" ∈ TB := inTB 84 (by decide +kernel) rfl
theorem fl_RX6_123 : Cond.fieldLink RX6 123 RX1 "sun" "I" ∈ TB := inTB 85 (by decide +kernel) rfl
theorem fl_RX2_68 : Cond.fieldLink RX2 68 RX1 "sun" "I" ∈ TB := inTB 86 (by decide +kernel) rfl
theorem fl_RX1_22 : Cond.fieldLink RX1 22 RX1 "read" "I" ∈ TB := inTB 87 (by decide +kernel) rfl
theorem fl_RX6_126 : Cond.fieldLink RX6 126 RX1 "read" "I" ∈ TB := inTB 88 (by decide +kernel) rfl
theorem fl_RX2_84 : Cond.fieldLink RX2 84 RX1 "read" "I" ∈ TB := inTB 89 (by decide +kernel) rfl
theorem wl_RX1_kind : Cond.lays RX1 RX1 "kind" "I" ∈ TB := inTB 90 (by decide +kernel) rfl
theorem wl_RX1_words : Cond.lays RX1 RX1 "words" "I" ∈ TB := inTB 92 (by decide +kernel) rfl
theorem wl_RX1_black : Cond.lays RX1 RX1 "black" "I" ∈ TB := inTB 94 (by decide +kernel) rfl
theorem wl_RX1_sun : Cond.lays RX1 RX1 "sun" "I" ∈ TB := inTB 96 (by decide +kernel) rfl
theorem wl_RX1_read : Cond.lays RX1 RX1 "read" "I" ∈ TB := inTB 98 (by decide +kernel) rfl
theorem wa_int : Cond.arrayClass .int ∈ TB := inTB 101 (by decide +kernel) rfl
theorem fl_RX2_7 : Cond.fieldLink RX2 7 RX2 "night" "I" ∈ TB := inTB 102 (by decide +kernel) rfl
theorem fl_RX6_61 : Cond.fieldLink RX6 61 RX2 "night" "I" ∈ TB := inTB 103 (by decide +kernel) rfl
theorem fl_RX2_13 : Cond.fieldLink RX2 13 RX2 "brothers" "I" ∈ TB := inTB 104 (by decide +kernel) rfl
theorem fl_RX6_68 : Cond.fieldLink RX6 68 RX2 "brothers" "I" ∈ TB := inTB 105 (by decide +kernel) rfl
theorem fl_RX2_16 : Cond.fieldLink RX2 16 RX2 "buckets" "I" ∈ TB := inTB 106 (by decide +kernel) rfl
theorem fl_RX6_71 : Cond.fieldLink RX6 71 RX2 "buckets" "I" ∈ TB := inTB 107 (by decide +kernel) rfl
theorem fl_RX2_19 : Cond.fieldLink RX2 19 RX2 "ink" "I" ∈ TB := inTB 108 (by decide +kernel) rfl
theorem fl_RX6_74 : Cond.fieldLink RX6 74 RX2 "ink" "I" ∈ TB := inTB 109 (by decide +kernel) rfl
theorem fl_RX2_22 : Cond.fieldLink RX2 22 RX2 "lamp" "I" ∈ TB := inTB 110 (by decide +kernel) rfl
theorem fl_RX6_77 : Cond.fieldLink RX6 77 RX2 "lamp" "I" ∈ TB := inTB 111 (by decide +kernel) rfl
theorem fl_RX2_25 : Cond.fieldLink RX2 25 RX2 "pageCount" "I" ∈ TB := inTB 112 (by decide +kernel) rfl
theorem fl_RX6_266 : Cond.fieldLink RX6 266 RX2 "pageCount" "I" ∈ TB := inTB 113 (by decide +kernel) rfl
theorem fl_RX2_28 : Cond.fieldLink RX2 28 RX2 "dark" "[I" ∈ TB := inTB 114 (by decide +kernel) rfl
theorem fl_RX6_58 : Cond.fieldLink RX6 58 RX2 "dark" "[I" ∈ TB := inTB 115 (by decide +kernel) rfl
theorem fl_RX5_87 : Cond.fieldLink RX5 87 RX2 "dark" "[I" ∈ TB := inTB 116 (by decide +kernel) rfl
theorem fl_RX2_34 : Cond.fieldLink RX2 34 RX2 "pages" "[LInkNights$Page;" ∈ TB := inTB 117 (by decide +kernel) rfl
theorem fl_RX5_81 : Cond.fieldLink RX5 81 RX2 "pages" "[LInkNights$Page;" ∈ TB := inTB 118 (by decide +kernel) rfl
theorem fl_RX6_110 : Cond.fieldLink RX6 110 RX2 "pages" "[LInkNights$Page;" ∈ TB := inTB 119 (by decide +kernel) rfl
theorem fl_RX2_38 : Cond.fieldLink RX2 38 RX2 "sunTakes" "[I" ∈ TB := inTB 120 (by decide +kernel) rfl
theorem wl_RX2_night : Cond.lays RX2 RX2 "night" "I" ∈ TB := inTB 121 (by decide +kernel) rfl
theorem wl_RX2_brothers : Cond.lays RX2 RX2 "brothers" "I" ∈ TB := inTB 123 (by decide +kernel) rfl
theorem wl_RX2_buckets : Cond.lays RX2 RX2 "buckets" "I" ∈ TB := inTB 125 (by decide +kernel) rfl
theorem wl_RX2_ink : Cond.lays RX2 RX2 "ink" "I" ∈ TB := inTB 127 (by decide +kernel) rfl
theorem wl_RX2_lamp : Cond.lays RX2 RX2 "lamp" "I" ∈ TB := inTB 129 (by decide +kernel) rfl
theorem wl_RX2_pageCount : Cond.lays RX2 RX2 "pageCount" "I" ∈ TB := inTB 131 (by decide +kernel) rfl
theorem wl_RX2_dark : Cond.laysFinal RX2 RX2 "dark" "[I" ∈ TB := inTB 133 (by decide +kernel) rfl
theorem wl_RX2_pages : Cond.laysFinal RX2 RX2 "pages" "[LInkNights$Page;" ∈ TB := inTB 135 (by decide +kernel) rfl
theorem wl_RX2_sunTakes : Cond.laysFinal RX2 RX2 "sunTakes" "[I" ∈ TB := inTB 137 (by decide +kernel) rfl
theorem kl_RX6_26 : Cond.classLink RX6 26 RX4 ∈ TB := inTB 140 (by decide +kernel) rfl
theorem wn_RX4 : Cond.instantiable RX4 6 ∈ TB := inTB 141 (by decide +kernel) rfl
theorem wm_X4_init : Cond.instanceMethod yX4_init ∈ TB := inTB 143 (by decide +kernel) rfl
theorem wc_X4_init : Cond.code yX4_init cX4_init 1 none ∈ TB := inTB 144 (by decide +kernel) rfl
theorem ml_RX4_1 : Cond.methodLink RX4 1 ⟨"java/lang/Object", "<init>", "()V"⟩ ∈ TB := inTB 145 (by decide +kernel) rfl
theorem fl_RX4_7 : Cond.fieldLink RX4 7 RX4 "length" "I" ∈ TB := inTB 146 (by decide +kernel) rfl
theorem fl_RX6_206 : Cond.fieldLink RX6 206 RX4 "length" "I" ∈ TB := inTB 147 (by decide +kernel) rfl
theorem fl_RX4_13 : Cond.fieldLink RX4 13 RX4 "token" "I" ∈ TB := inTB 148 (by decide +kernel) rfl
theorem fl_RX5_18 : Cond.fieldLink RX5 18 RX4 "token" "I" ∈ TB := inTB 149 (by decide +kernel) rfl
theorem fl_RX4_16 : Cond.fieldLink RX4 16 RX4 "start" "I" ∈ TB := inTB 150 (by decide +kernel) rfl
theorem fl_RX5_25 : Cond.fieldLink RX5 25 RX4 "start" "I" ∈ TB := inTB 151 (by decide +kernel) rfl
theorem fl_RX4_19 : Cond.fieldLink RX4 19 RX4 "next" "I" ∈ TB := inTB 152 (by decide +kernel) rfl
theorem fl_RX4_22 : Cond.fieldLink RX4 22 RX4 "value" "I" ∈ TB := inTB 153 (by decide +kernel) rfl
theorem fl_RX4_25 : Cond.fieldLink RX4 25 RX4 "bytes" "[I" ∈ TB := inTB 154 (by decide +kernel) rfl
theorem wl_RX4_length : Cond.lays RX4 RX4 "length" "I" ∈ TB := inTB 155 (by decide +kernel) rfl
theorem wl_RX4_token : Cond.lays RX4 RX4 "token" "I" ∈ TB := inTB 157 (by decide +kernel) rfl
theorem wl_RX4_start : Cond.lays RX4 RX4 "start" "I" ∈ TB := inTB 159 (by decide +kernel) rfl
theorem wl_RX4_next : Cond.lays RX4 RX4 "next" "I" ∈ TB := inTB 161 (by decide +kernel) rfl
theorem wl_RX4_value : Cond.lays RX4 RX4 "value" "I" ∈ TB := inTB 163 (by decide +kernel) rfl
theorem wl_RX4_bytes : Cond.laysFinal RX4 RX4 "bytes" "[I" ∈ TB := inTB 165 (by decide +kernel) rfl
theorem kl_RX6_33 : Cond.classLink RX6 33 RX3 ∈ TB := inTB 168 (by decide +kernel) rfl
theorem wn_RX3 : Cond.instantiable RX3 3 ∈ TB := inTB 170 (by decide +kernel) rfl
theorem wm_X3_init : Cond.instanceMethod yX3_init ∈ TB := inTB 172 (by decide +kernel) rfl
theorem wc_X3_init : Cond.code yX3_init cX3_init 1 none ∈ TB := inTB 173 (by decide +kernel) rfl
theorem ml_RX3_1 : Cond.methodLink RX3 1 ⟨"java/lang/Object", "<init>", "()V"⟩ ∈ TB := inTB 174 (by decide +kernel) rfl
theorem fl_RX3_7 : Cond.fieldLink RX3 7 RX3 "bits" "I" ∈ TB := inTB 175 (by decide +kernel) rfl
theorem fl_RX6_243 : Cond.fieldLink RX6 243 RX3 "bits" "I" ∈ TB := inTB 176 (by decide +kernel) rfl
theorem fl_RX3_13 : Cond.fieldLink RX3 13 RX3 "length" "I" ∈ TB := inTB 177 (by decide +kernel) rfl
theorem fl_RX1_49 : Cond.fieldLink RX1 49 RX3 "length" "I" ∈ TB := inTB 178 (by decide +kernel) rfl
theorem fl_RX6_231 : Cond.fieldLink RX6 231 RX3 "length" "I" ∈ TB := inTB 179 (by decide +kernel) rfl
theorem fl_RX2_129 : Cond.fieldLink RX2 129 RX3 "length" "I" ∈ TB := inTB 180 (by decide +kernel) rfl
theorem fl_RX3_16 : Cond.fieldLink RX3 16 RX3 "numbers" "[J" ∈ TB := inTB 181 (by decide +kernel) rfl
theorem fl_RX1_54 : Cond.fieldLink RX1 54 RX3 "numbers" "[J" ∈ TB := inTB 182 (by decide +kernel) rfl
theorem fl_RX2_134 : Cond.fieldLink RX2 134 RX3 "numbers" "[J" ∈ TB := inTB 183 (by decide +kernel) rfl
theorem fl_RX6_235 : Cond.fieldLink RX6 235 RX3 "numbers" "[J" ∈ TB := inTB 184 (by decide +kernel) rfl
theorem wl_RX3_bits : Cond.lays RX3 RX3 "bits" "I" ∈ TB := inTB 185 (by decide +kernel) rfl
theorem wl_RX3_length : Cond.lays RX3 RX3 "length" "I" ∈ TB := inTB 187 (by decide +kernel) rfl
theorem wl_RX3_numbers : Cond.laysFinal RX3 RX3 "numbers" "[J" ∈ TB := inTB 189 (by decide +kernel) rfl
theorem wa_long : Cond.arrayClass .long ∈ TB := inTB 192 (by decide +kernel) rfl
theorem fl_RX6_9 : Cond.fieldLink RX6 9 RX6 "findings" "[I" ∈ TB := inTB 193 (by decide +kernel) rfl
theorem fl_RX6_16 : Cond.fieldLink RX6 16 RX6 "here" "LInkNights$Scriptorium;" ∈ TB := inTB 194 (by decide +kernel) rfl
theorem fl_RX6_20 : Cond.fieldLink RX6 20 RX6 "kept" "LInkNights$Scriptorium;" ∈ TB := inTB 195 (by decide +kernel) rfl
theorem fl_RX6_23 : Cond.fieldLink RX6 23 RX6 "draft" "LInkNights$Scriptorium;" ∈ TB := inTB 196 (by decide +kernel) rfl
theorem fl_RX6_29 : Cond.fieldLink RX6 29 RX6 "tape" "LInkNights$Tape;" ∈ TB := inTB 197 (by decide +kernel) rfl
theorem fl_RX6_35 : Cond.fieldLink RX6 35 RX6 "sheets" "[LInkNights$Sheet;" ∈ TB := inTB 198 (by decide +kernel) rfl
theorem fl_RX6_262 : Cond.fieldLink RX6 262 RX6 "isKept" "Z" ∈ TB := inTB 199 (by decide +kernel) rfl
theorem wl_RX6_findings : Cond.laysFinal RX6 RX6 "findings" "[I" ∈ TB := inTB 200 (by decide +kernel) rfl
theorem wl_RX6_here : Cond.laysFinal RX6 RX6 "here" "LInkNights$Scriptorium;" ∈ TB := inTB 202 (by decide +kernel) rfl
theorem wl_RX6_kept : Cond.laysFinal RX6 RX6 "kept" "LInkNights$Scriptorium;" ∈ TB := inTB 204 (by decide +kernel) rfl
theorem wl_RX6_draft : Cond.laysFinal RX6 RX6 "draft" "LInkNights$Scriptorium;" ∈ TB := inTB 206 (by decide +kernel) rfl
theorem wl_RX6_tape : Cond.laysFinal RX6 RX6 "tape" "LInkNights$Tape;" ∈ TB := inTB 208 (by decide +kernel) rfl
theorem wl_RX6_sheets : Cond.laysFinal RX6 RX6 "sheets" "[LInkNights$Sheet;" ∈ TB := inTB 210 (by decide +kernel) rfl
theorem wl_RX6_isKept : Cond.lays RX6 RX6 "isKept" "Z" ∈ TB := inTB 212 (by decide +kernel) rfl
theorem ml_RL_13 : Cond.methodLink RL 13 yX6_jar ∈ TB := inTB 215 (by decide +kernel) rfl
theorem wm_X6_jar : Cond.instanceMethod yX6_jar ∈ TB := inTB 216 (by decide +kernel) rfl
theorem ws_X6_jar : Cond.selects RX6 yX6_jar yX6_jar ∈ TB := inTB 217 (by decide +kernel) rfl
theorem wc_X6_jar : Cond.code yX6_jar cX6_jar 4 (some .int) ∈ TB := inTB 218 (by decide +kernel) rfl
theorem ml_RX6_40 : Cond.methodLink RX6 40 yX2_mostInJar ∈ TB := inTB 219 (by decide +kernel) rfl
theorem wt_X2_mostInJar : Cond.static yX2_mostInJar ∈ TB := inTB 220 (by decide +kernel) rfl
theorem wc_X2_mostInJar : Cond.code yX2_mostInJar cX2_mostInJar 1 (some .int) ∈ TB := inTB 221 (by decide +kernel) rfl
theorem ml_RX6_44 : Cond.methodLink RX6 44 yX6_isWithin ∈ TB := inTB 222 (by decide +kernel) rfl
theorem wt_X6_isWithin : Cond.static yX6_isWithin ∈ TB := inTB 223 (by decide +kernel) rfl
theorem wc_X6_isWithin : Cond.code yX6_isWithin cX6_isWithin 3 (some .boolean) ∈ TB := inTB 224 (by decide +kernel) rfl
theorem ml_RX6_48 : Cond.methodLink RX6 48 yX6_found ∈ TB := inTB 225 (by decide +kernel) rfl
theorem wm_X6_found : Cond.instanceMethod yX6_found ∈ TB := inTB 227 (by decide +kernel) rfl
theorem wc_X6_found : Cond.code yX6_found cX6_found 2 (some .int) ∈ TB := inTB 228 (by decide +kernel) rfl
theorem ct_RX6_275 : Cond.constant RX6 275 (-1000000001) ∈ TB := inTB 229 (by decide +kernel) rfl
theorem ml_RX6_51 : Cond.methodLink RX6 51 yX2_jarHolds ∈ TB := inTB 230 (by decide +kernel) rfl
theorem wm_X2_jarHolds : Cond.instanceMethod yX2_jarHolds ∈ TB := inTB 231 (by decide +kernel) rfl
theorem ws_X2_jarHolds : Cond.selects RX2 yX2_jarHolds yX2_jarHolds ∈ TB := inTB 232 (by decide +kernel) rfl
theorem wc_X2_jarHolds : Cond.code yX2_jarHolds cX2_jarHolds 2 (some .int) ∈ TB := inTB 233 (by decide +kernel) rfl
theorem ml_RX6_54 : Cond.methodLink RX6 54 yX2_fillJar ∈ TB := inTB 234 (by decide +kernel) rfl
theorem wm_X2_fillJar : Cond.instanceMethod yX2_fillJar ∈ TB := inTB 235 (by decide +kernel) rfl
theorem ws_X2_fillJar : Cond.selects RX2 yX2_fillJar yX2_fillJar ∈ TB := inTB 236 (by decide +kernel) rfl
theorem wc_X2_fillJar : Cond.code yX2_fillJar cX2_fillJar 3 none ∈ TB := inTB 237 (by decide +kernel) rfl
theorem ml_RL_18 : Cond.methodLink RL 18 yX6_dark ∈ TB := inTB 238 (by decide +kernel) rfl
theorem wm_X6_dark : Cond.instanceMethod yX6_dark ∈ TB := inTB 239 (by decide +kernel) rfl
theorem ws_X6_dark : Cond.selects RX6 yX6_dark yX6_dark ∈ TB := inTB 240 (by decide +kernel) rfl
theorem wc_X6_dark : Cond.code yX6_dark cX6_dark 4 (some .int) ∈ TB := inTB 241 (by decide +kernel) rfl
theorem ml_RL_22 : Cond.methodLink RL 22 yX6_now ∈ TB := inTB 242 (by decide +kernel) rfl
theorem wm_X6_now : Cond.instanceMethod yX6_now ∈ TB := inTB 243 (by decide +kernel) rfl
theorem ws_X6_now : Cond.selects RX6 yX6_now yX6_now ∈ TB := inTB 244 (by decide +kernel) rfl
theorem wc_X6_now : Cond.code yX6_now cX6_now 2 (some .int) ∈ TB := inTB 245 (by decide +kernel) rfl
theorem ml_RX6_65 : Cond.methodLink RX6 65 yX2_darkOn ∈ TB := inTB 246 (by decide +kernel) rfl
theorem wm_X2_darkOn : Cond.instanceMethod yX2_darkOn ∈ TB := inTB 247 (by decide +kernel) rfl
theorem ws_X2_darkOn : Cond.selects RX2 yX2_darkOn yX2_darkOn ∈ TB := inTB 248 (by decide +kernel) rfl
theorem wc_X2_darkOn : Cond.code yX2_darkOn cX2_darkOn 2 (some .int) ∈ TB := inTB 249 (by decide +kernel) rfl
theorem ml_RX2_87 : Cond.methodLink RX2 87 yJ9_floorMod_7cf53 ∈ TB := inTB 250 (by decide +kernel) rfl
theorem wt_J9_floorMod_7cf53 : Cond.static yJ9_floorMod_7cf53 ∈ TB := inTB 251 (by decide +kernel) rfl
theorem wc_J9_floorMod_7cf53 : Cond.code yJ9_floorMod_7cf53 cJ9_floorMod_7cf53 3 (some .int) ∈ TB := inTB 252 (by decide +kernel) rfl
theorem ml_RX6_80 : Cond.methodLink RX6 80 yX2_notWhite ∈ TB := inTB 253 (by decide +kernel) rfl
theorem wm_X2_notWhite : Cond.instanceMethod yX2_notWhite ∈ TB := inTB 254 (by decide +kernel) rfl
theorem ws_X2_notWhite : Cond.selects RX2 yX2_notWhite yX2_notWhite ∈ TB := inTB 255 (by decide +kernel) rfl
theorem wc_X2_notWhite : Cond.code yX2_notWhite cX2_notWhite 3 (some .int) ∈ TB := inTB 256 (by decide +kernel) rfl
theorem ml_RX6_84 : Cond.methodLink RX6 84 yX2_believedTogether ∈ TB := inTB 257 (by decide +kernel) rfl
theorem wm_X2_believedTogether : Cond.instanceMethod yX2_believedTogether ∈ TB := inTB 258 (by decide +kernel) rfl
theorem ws_X2_believedTogether : Cond.selects RX2 yX2_believedTogether yX2_believedTogether ∈ TB := inTB 259 (by decide +kernel) rfl
theorem wc_X2_believedTogether : Cond.code yX2_believedTogether cX2_believedTogether 5 (some .int) ∈ TB := inTB 260 (by decide +kernel) rfl
theorem ml_RX2_104 : Cond.methodLink RX2 104 yX1_believedOn ∈ TB := inTB 261 (by decide +kernel) rfl
theorem wm_X1_believedOn : Cond.instanceMethod yX1_believedOn ∈ TB := inTB 262 (by decide +kernel) rfl
theorem ws_X1_believedOn : Cond.selects RX1 yX1_believedOn yX1_believedOn ∈ TB := inTB 263 (by decide +kernel) rfl
theorem wc_X1_believedOn : Cond.code yX1_believedOn cX1_believedOn 3 (some .int) ∈ TB := inTB 264 (by decide +kernel) rfl
theorem ml_RX1_34 : Cond.methodLink RX1 34 yX1_believedAs ∈ TB := inTB 265 (by decide +kernel) rfl
theorem wm_X1_believedAs : Cond.instanceMethod yX1_believedAs ∈ TB := inTB 266 (by decide +kernel) rfl
theorem ws_X1_believedAs : Cond.selects RX1 yX1_believedAs yX1_believedAs ∈ TB := inTB 267 (by decide +kernel) rfl
theorem wc_X1_believedAs : Cond.code yX1_believedAs cX1_believedAs 6 (some .int) ∈ TB := inTB 268 (by decide +kernel) rfl
theorem ml_RX1_25 : Cond.methodLink RX1 25 yX0_fades ∈ TB := inTB 269 (by decide +kernel) rfl
theorem wt_X0_fades : Cond.static yX0_fades ∈ TB := inTB 270 (by decide +kernel) rfl
theorem wc_X0_fades : Cond.code yX0_fades cX0_fades 6 (some .int) ∈ TB := inTB 271 (by decide +kernel) rfl
theorem ml_RX1_31 : Cond.methodLink RX1 31 yX1_faded ∈ TB := inTB 272 (by decide +kernel) rfl
theorem wt_X1_faded : Cond.static yX1_faded ∈ TB := inTB 273 (by decide +kernel) rfl
theorem wc_X1_faded : Cond.code yX1_faded cX1_faded 3 (some .int) ∈ TB := inTB 274 (by decide +kernel) rfl
theorem ml_RX1_58 : Cond.methodLink RX1 58 yJ9_max_7cf53 ∈ TB := inTB 275 (by decide +kernel) rfl
theorem wt_J9_max_7cf53 : Cond.static yJ9_max_7cf53 ∈ TB := inTB 276 (by decide +kernel) rfl
theorem wc_J9_max_7cf53 : Cond.code yJ9_max_7cf53 cJ9_max_7cf53 2 (some .int) ∈ TB := inTB 277 (by decide +kernel) rfl
theorem ml_RX1_38 : Cond.methodLink RX1 38 yX0_believed ∈ TB := inTB 278 (by decide +kernel) rfl
theorem wt_X0_believed : Cond.static yX0_believed ∈ TB := inTB 279 (by decide +kernel) rfl
theorem wc_X0_believed : Cond.code yX0_believed cX0_believed 7 (some .int) ∈ TB := inTB 280 (by decide +kernel) rfl
theorem ml_RX0_27 : Cond.methodLink RX0 27 yJ9_max_7cf53 ∈ TB := inTB 281 (by decide +kernel) rfl
theorem ml_RL_27 : Cond.methodLink RL 27 yX6_scribe ∈ TB := inTB 282 (by decide +kernel) rfl
theorem wm_X6_scribe : Cond.instanceMethod yX6_scribe ∈ TB := inTB 283 (by decide +kernel) rfl
theorem ws_X6_scribe : Cond.selects RX6 yX6_scribe yX6_scribe ∈ TB := inTB 284 (by decide +kernel) rfl
theorem wc_X6_scribe : Cond.code yX6_scribe cX6_scribe 3 (some .int) ∈ TB := inTB 285 (by decide +kernel) rfl
theorem ml_RX6_88 : Cond.methodLink RX6 88 yX0_isKind ∈ TB := inTB 286 (by decide +kernel) rfl
theorem wt_X0_isKind : Cond.static yX0_isKind ∈ TB := inTB 287 (by decide +kernel) rfl
theorem wc_X0_isKind : Cond.code yX0_isKind cX0_isKind 1 (some .boolean) ∈ TB := inTB 288 (by decide +kernel) rfl
theorem ml_RX6_96 : Cond.methodLink RX6 96 yX2_isFull ∈ TB := inTB 290 (by decide +kernel) rfl
theorem wm_X2_isFull : Cond.instanceMethod yX2_isFull ∈ TB := inTB 291 (by decide +kernel) rfl
theorem ws_X2_isFull : Cond.selects RX2 yX2_isFull yX2_isFull ∈ TB := inTB 292 (by decide +kernel) rfl
theorem wc_X2_isFull : Cond.code yX2_isFull cX2_isFull 1 (some .boolean) ∈ TB := inTB 293 (by decide +kernel) rfl
theorem ml_RX6_100 : Cond.methodLink RX6 100 yX2_hasInkFor ∈ TB := inTB 294 (by decide +kernel) rfl
theorem wm_X2_hasInkFor : Cond.instanceMethod yX2_hasInkFor ∈ TB := inTB 295 (by decide +kernel) rfl
theorem ws_X2_hasInkFor : Cond.selects RX2 yX2_hasInkFor yX2_hasInkFor ∈ TB := inTB 296 (by decide +kernel) rfl
theorem wc_X2_hasInkFor : Cond.code yX2_hasInkFor cX2_hasInkFor 3 (some .boolean) ∈ TB := inTB 297 (by decide +kernel) rfl
theorem ml_RX2_52 : Cond.methodLink RX2 52 yX0_costs ∈ TB := inTB 298 (by decide +kernel) rfl
theorem wt_X0_costs : Cond.static yX0_costs ∈ TB := inTB 299 (by decide +kernel) rfl
theorem wc_X0_costs : Cond.code yX0_costs cX0_costs 5 (some .int) ∈ TB := inTB 300 (by decide +kernel) rfl
theorem ml_RX6_104 : Cond.methodLink RX6 104 yX2_addPage ∈ TB := inTB 301 (by decide +kernel) rfl
theorem wm_X2_addPage : Cond.instanceMethod yX2_addPage ∈ TB := inTB 302 (by decide +kernel) rfl
theorem ws_X2_addPage : Cond.selects RX2 yX2_addPage yX2_addPage ∈ TB := inTB 303 (by decide +kernel) rfl
theorem wc_X2_addPage : Cond.code yX2_addPage cX2_addPage 4 (some .int) ∈ TB := inTB 304 (by decide +kernel) rfl
theorem ml_RX2_58 : Cond.methodLink RX2 58 yX2_isFull ∈ TB := inTB 305 (by decide +kernel) rfl
theorem ml_RX2_71 : Cond.methodLink RX2 71 yX2_spendInkOn ∈ TB := inTB 306 (by decide +kernel) rfl
theorem wm_X2_spendInkOn : Cond.instanceMethod yX2_spendInkOn ∈ TB := inTB 307 (by decide +kernel) rfl
theorem ws_X2_spendInkOn : Cond.selects RX2 yX2_spendInkOn yX2_spendInkOn ∈ TB := inTB 308 (by decide +kernel) rfl
theorem wc_X2_spendInkOn : Cond.code yX2_spendInkOn cX2_spendInkOn 2 none ∈ TB := inTB 309 (by decide +kernel) rfl
theorem ml_RX2_74 : Cond.methodLink RX2 74 yX2_darkOn ∈ TB := inTB 310 (by decide +kernel) rfl
theorem ml_RX2_78 : Cond.methodLink RX2 78 yX0_takes ∈ TB := inTB 311 (by decide +kernel) rfl
theorem wt_X0_takes : Cond.static yX0_takes ∈ TB := inTB 312 (by decide +kernel) rfl
theorem wc_X0_takes : Cond.code yX0_takes cX0_takes 3 (some .int) ∈ TB := inTB 313 (by decide +kernel) rfl
theorem ml_RX0_35 : Cond.methodLink RX0 35 yJ9_min_7cf53 ∈ TB := inTB 314 (by decide +kernel) rfl
theorem wt_J9_min_7cf53 : Cond.static yJ9_min_7cf53 ∈ TB := inTB 315 (by decide +kernel) rfl
theorem wc_J9_min_7cf53 : Cond.code yJ9_min_7cf53 cJ9_min_7cf53 2 (some .int) ∈ TB := inTB 316 (by decide +kernel) rfl
theorem ml_RL_31 : Cond.methodLink RL 31 yX6_of ∈ TB := inTB 317 (by decide +kernel) rfl
theorem wm_X6_of : Cond.instanceMethod yX6_of ∈ TB := inTB 318 (by decide +kernel) rfl
theorem ws_X6_of : Cond.selects RX6 yX6_of yX6_of ∈ TB := inTB 319 (by decide +kernel) rfl
theorem wc_X6_of : Cond.code yX6_of cX6_of 4 (some .int) ∈ TB := inTB 320 (by decide +kernel) rfl
theorem ml_RX6_107 : Cond.methodLink RX6 107 yX2_hasPage ∈ TB := inTB 321 (by decide +kernel) rfl
theorem wm_X2_hasPage : Cond.instanceMethod yX2_hasPage ∈ TB := inTB 322 (by decide +kernel) rfl
theorem ws_X2_hasPage : Cond.selects RX2 yX2_hasPage yX2_hasPage ∈ TB := inTB 323 (by decide +kernel) rfl
theorem wc_X2_hasPage : Cond.code yX2_hasPage cX2_hasPage 2 (some .boolean) ∈ TB := inTB 324 (by decide +kernel) rfl
theorem ml_RX6_129 : Cond.methodLink RX6 129 yX0_costs ∈ TB := inTB 325 (by decide +kernel) rfl
theorem ml_RX6_132 : Cond.methodLink RX6 132 yX0_takes ∈ TB := inTB 326 (by decide +kernel) rfl
theorem ml_RX6_135 : Cond.methodLink RX6 135 yX0_fades ∈ TB := inTB 327 (by decide +kernel) rfl
theorem ml_RX6_139 : Cond.methodLink RX6 139 yX1_believedOn ∈ TB := inTB 328 (by decide +kernel) rfl
theorem ml_RL_35 : Cond.methodLink RL 35 yX6_set ∈ TB := inTB 329 (by decide +kernel) rfl
theorem wm_X6_set : Cond.instanceMethod yX6_set ∈ TB := inTB 330 (by decide +kernel) rfl
theorem ws_X6_set : Cond.selects RX6 yX6_set yX6_set ∈ TB := inTB 331 (by decide +kernel) rfl
theorem wc_X6_set : Cond.code yX6_set cX6_set 5 (some .int) ∈ TB := inTB 332 (by decide +kernel) rfl
theorem ml_RX6_142 : Cond.methodLink RX6 142 yX1_least ∈ TB := inTB 333 (by decide +kernel) rfl
theorem wt_X1_least : Cond.static yX1_least ∈ TB := inTB 334 (by decide +kernel) rfl
theorem wc_X1_least : Cond.code yX1_least cX1_least 1 (some .int) ∈ TB := inTB 335 (by decide +kernel) rfl
theorem ml_RX6_145 : Cond.methodLink RX6 145 yX1_most ∈ TB := inTB 336 (by decide +kernel) rfl
theorem wt_X1_most : Cond.static yX1_most ∈ TB := inTB 337 (by decide +kernel) rfl
theorem wc_X1_most : Cond.code yX1_most cX1_most 1 (some .int) ∈ TB := inTB 338 (by decide +kernel) rfl
theorem ml_RX6_148 : Cond.methodLink RX6 148 yX1_has ∈ TB := inTB 339 (by decide +kernel) rfl
theorem wm_X1_has : Cond.instanceMethod yX1_has ∈ TB := inTB 340 (by decide +kernel) rfl
theorem ws_X1_has : Cond.selects RX1 yX1_has yX1_has ∈ TB := inTB 341 (by decide +kernel) rfl
theorem wc_X1_has : Cond.code yX1_has cX1_has 2 (some .int) ∈ TB := inTB 342 (by decide +kernel) rfl
theorem ml_RX6_151 : Cond.methodLink RX6 151 yX1_put ∈ TB := inTB 343 (by decide +kernel) rfl
theorem wm_X1_put : Cond.instanceMethod yX1_put ∈ TB := inTB 344 (by decide +kernel) rfl
theorem ws_X1_put : Cond.selects RX1 yX1_put yX1_put ∈ TB := inTB 345 (by decide +kernel) rfl
theorem wc_X1_put : Cond.code yX1_put cX1_put 3 none ∈ TB := inTB 346 (by decide +kernel) rfl
theorem ml_RL_40 : Cond.methodLink RL 40 yX6_turn ∈ TB := inTB 347 (by decide +kernel) rfl
theorem wm_X6_turn : Cond.instanceMethod yX6_turn ∈ TB := inTB 348 (by decide +kernel) rfl
theorem ws_X6_turn : Cond.selects RX6 yX6_turn yX6_turn ∈ TB := inTB 349 (by decide +kernel) rfl
theorem wc_X6_turn : Cond.code yX6_turn cX6_turn 4 (some .int) ∈ TB := inTB 350 (by decide +kernel) rfl
theorem ml_RL_44 : Cond.methodLink RL 44 yX6_as ∈ TB := inTB 351 (by decide +kernel) rfl
theorem wm_X6_as : Cond.instanceMethod yX6_as ∈ TB := inTB 352 (by decide +kernel) rfl
theorem ws_X6_as : Cond.selects RX6 yX6_as yX6_as ∈ TB := inTB 353 (by decide +kernel) rfl
theorem wc_X6_as : Cond.code yX6_as cX6_as 3 (some .int) ∈ TB := inTB 354 (by decide +kernel) rfl
theorem ml_RX6_154 : Cond.methodLink RX6 154 yX0_isOneOf ∈ TB := inTB 355 (by decide +kernel) rfl
theorem wt_X0_isOneOf : Cond.static yX0_isOneOf ∈ TB := inTB 356 (by decide +kernel) rfl
theorem wc_X0_isOneOf : Cond.code yX0_isOneOf cX0_isOneOf 2 (some .boolean) ∈ TB := inTB 357 (by decide +kernel) rfl
theorem ml_RL_48 : Cond.methodLink RL 48 yX6_looks ∈ TB := inTB 358 (by decide +kernel) rfl
theorem wm_X6_looks : Cond.instanceMethod yX6_looks ∈ TB := inTB 359 (by decide +kernel) rfl
theorem ws_X6_looks : Cond.selects RX6 yX6_looks yX6_looks ∈ TB := inTB 360 (by decide +kernel) rfl
theorem wc_X6_looks : Cond.code yX6_looks cX6_looks 4 (some .int) ∈ TB := inTB 361 (by decide +kernel) rfl
theorem ml_RX6_157 : Cond.methodLink RX6 157 yJ9_min_7cf53 ∈ TB := inTB 362 (by decide +kernel) rfl
theorem ml_RL_52 : Cond.methodLink RL 52 yX6_over ∈ TB := inTB 363 (by decide +kernel) rfl
theorem wm_X6_over : Cond.instanceMethod yX6_over ∈ TB := inTB 364 (by decide +kernel) rfl
theorem ws_X6_over : Cond.selects RX6 yX6_over yX6_over ∈ TB := inTB 365 (by decide +kernel) rfl
theorem wc_X6_over : Cond.code yX6_over cX6_over 3 (some .int) ∈ TB := inTB 366 (by decide +kernel) rfl
theorem ml_RX6_162 : Cond.methodLink RX6 162 yX2_spendInkOn ∈ TB := inTB 367 (by decide +kernel) rfl
theorem ml_RL_56 : Cond.methodLink RL 56 yX6_nights ∈ TB := inTB 368 (by decide +kernel) rfl
theorem wm_X6_nights : Cond.instanceMethod yX6_nights ∈ TB := inTB 369 (by decide +kernel) rfl
theorem ws_X6_nights : Cond.selects RX6 yX6_nights yX6_nights ∈ TB := inTB 370 (by decide +kernel) rfl
theorem wc_X6_nights : Cond.code yX6_nights cX6_nights 2 (some .int) ∈ TB := inTB 371 (by decide +kernel) rfl
theorem ml_RX6_166 : Cond.methodLink RX6 166 yX2_letGo ∈ TB := inTB 372 (by decide +kernel) rfl
theorem wm_X2_letGo : Cond.instanceMethod yX2_letGo ∈ TB := inTB 373 (by decide +kernel) rfl
theorem ws_X2_letGo : Cond.selects RX2 yX2_letGo yX2_letGo ∈ TB := inTB 374 (by decide +kernel) rfl
theorem wc_X2_letGo : Cond.code yX2_letGo cX2_letGo 4 none ∈ TB := inTB 375 (by decide +kernel) rfl
theorem ml_RX2_95 : Cond.methodLink RX2 95 yX2_darkTogether ∈ TB := inTB 376 (by decide +kernel) rfl
theorem wm_X2_darkTogether : Cond.instanceMethod yX2_darkTogether ∈ TB := inTB 378 (by decide +kernel) rfl
theorem wc_X2_darkTogether : Cond.code yX2_darkTogether cX2_darkTogether 4 (some .int) ∈ TB := inTB 379 (by decide +kernel) rfl
theorem ml_RX2_98 : Cond.methodLink RX2 98 yX2_inkWith ∈ TB := inTB 380 (by decide +kernel) rfl
theorem wm_X2_inkWith : Cond.instanceMethod yX2_inkWith ∈ TB := inTB 382 (by decide +kernel) rfl
theorem wc_X2_inkWith : Cond.code yX2_inkWith cX2_inkWith 2 (some .int) ∈ TB := inTB 383 (by decide +kernel) rfl
theorem ml_RX2_92 : Cond.methodLink RX2 92 yJ9_min_7cf53 ∈ TB := inTB 384 (by decide +kernel) rfl
theorem ml_RX2_101 : Cond.methodLink RX2 101 yX1_blackOn ∈ TB := inTB 385 (by decide +kernel) rfl
theorem wm_X1_blackOn : Cond.instanceMethod yX1_blackOn ∈ TB := inTB 386 (by decide +kernel) rfl
theorem ws_X1_blackOn : Cond.selects RX1 yX1_blackOn yX1_blackOn ∈ TB := inTB 387 (by decide +kernel) rfl
theorem wc_X1_blackOn : Cond.code yX1_blackOn cX1_blackOn 2 (some .int) ∈ TB := inTB 388 (by decide +kernel) rfl
theorem ml_RL_60 : Cond.methodLink RL 60 yX6_ink ∈ TB := inTB 389 (by decide +kernel) rfl
theorem wm_X6_ink : Cond.instanceMethod yX6_ink ∈ TB := inTB 390 (by decide +kernel) rfl
theorem ws_X6_ink : Cond.selects RX6 yX6_ink yX6_ink ∈ TB := inTB 391 (by decide +kernel) rfl
theorem wc_X6_ink : Cond.code yX6_ink cX6_ink 2 (some .int) ∈ TB := inTB 392 (by decide +kernel) rfl
theorem ml_RX6_170 : Cond.methodLink RX6 170 yX2_inkOn ∈ TB := inTB 393 (by decide +kernel) rfl
theorem wm_X2_inkOn : Cond.instanceMethod yX2_inkOn ∈ TB := inTB 394 (by decide +kernel) rfl
theorem ws_X2_inkOn : Cond.selects RX2 yX2_inkOn yX2_inkOn ∈ TB := inTB 395 (by decide +kernel) rfl
theorem wc_X2_inkOn : Cond.code yX2_inkOn cX2_inkOn 3 (some .int) ∈ TB := inTB 396 (by decide +kernel) rfl
theorem ml_RL_64 : Cond.methodLink RL 64 yX6_on ∈ TB := inTB 397 (by decide +kernel) rfl
theorem wm_X6_on : Cond.instanceMethod yX6_on ∈ TB := inTB 398 (by decide +kernel) rfl
theorem ws_X6_on : Cond.selects RX6 yX6_on yX6_on ∈ TB := inTB 399 (by decide +kernel) rfl
theorem wc_X6_on : Cond.code yX6_on cX6_on 5 (some .int) ∈ TB := inTB 400 (by decide +kernel) rfl
theorem ml_RX6_173 : Cond.methodLink RX6 173 yX1_blackOn ∈ TB := inTB 401 (by decide +kernel) rfl
theorem ml_RL_68 : Cond.methodLink RL 68 yX6_all ∈ TB := inTB 402 (by decide +kernel) rfl
theorem wm_X6_all : Cond.instanceMethod yX6_all ∈ TB := inTB 403 (by decide +kernel) rfl
theorem ws_X6_all : Cond.selects RX6 yX6_all yX6_all ∈ TB := inTB 404 (by decide +kernel) rfl
theorem wc_X6_all : Cond.code yX6_all cX6_all 2 (some .int) ∈ TB := inTB 405 (by decide +kernel) rfl
theorem ml_RL_72 : Cond.methodLink RL 72 yX6_white ∈ TB := inTB 406 (by decide +kernel) rfl
theorem wm_X6_white : Cond.instanceMethod yX6_white ∈ TB := inTB 407 (by decide +kernel) rfl
theorem ws_X6_white : Cond.selects RX6 yX6_white yX6_white ∈ TB := inTB 408 (by decide +kernel) rfl
theorem wc_X6_white : Cond.code yX6_white cX6_white 2 (some .int) ∈ TB := inTB 409 (by decide +kernel) rfl
theorem ml_RX6_176 : Cond.methodLink RX6 176 yX1_firstWhite ∈ TB := inTB 410 (by decide +kernel) rfl
theorem wm_X1_firstWhite : Cond.instanceMethod yX1_firstWhite ∈ TB := inTB 411 (by decide +kernel) rfl
theorem ws_X1_firstWhite : Cond.selects RX1 yX1_firstWhite yX1_firstWhite ∈ TB := inTB 412 (by decide +kernel) rfl
theorem wc_X1_firstWhite : Cond.code yX1_firstWhite cX1_firstWhite 3 (some .int) ∈ TB := inTB 413 (by decide +kernel) rfl
theorem ml_RX1_41 : Cond.methodLink RX1 41 yX1_blackOn ∈ TB := inTB 414 (by decide +kernel) rfl
theorem ml_RX6_179 : Cond.methodLink RX6 179 yX6_orNone ∈ TB := inTB 415 (by decide +kernel) rfl
theorem wm_X6_orNone : Cond.instanceMethod yX6_orNone ∈ TB := inTB 417 (by decide +kernel) rfl
theorem wc_X6_orNone : Cond.code yX6_orNone cX6_orNone 2 (some .int) ∈ TB := inTB 418 (by decide +kernel) rfl
theorem ml_RL_76 : Cond.methodLink RL 76 yX6_comes ∈ TB := inTB 419 (by decide +kernel) rfl
theorem wm_X6_comes : Cond.instanceMethod yX6_comes ∈ TB := inTB 420 (by decide +kernel) rfl
theorem ws_X6_comes : Cond.selects RX6 yX6_comes yX6_comes ∈ TB := inTB 421 (by decide +kernel) rfl
theorem wc_X6_comes : Cond.code yX6_comes cX6_comes 2 (some .int) ∈ TB := inTB 422 (by decide +kernel) rfl
theorem ml_RX6_182 : Cond.methodLink RX6 182 yX2_firstWithInk ∈ TB := inTB 423 (by decide +kernel) rfl
theorem wm_X2_firstWithInk : Cond.instanceMethod yX2_firstWithInk ∈ TB := inTB 424 (by decide +kernel) rfl
theorem ws_X2_firstWithInk : Cond.selects RX2 yX2_firstWithInk yX2_firstWithInk ∈ TB := inTB 425 (by decide +kernel) rfl
theorem wc_X2_firstWithInk : Cond.code yX2_firstWithInk cX2_firstWithInk 5 (some .int) ∈ TB := inTB 426 (by decide +kernel) rfl
theorem ml_RL_80 : Cond.methodLink RL 80 yX6_when ∈ TB := inTB 427 (by decide +kernel) rfl
theorem wm_X6_when : Cond.instanceMethod yX6_when ∈ TB := inTB 428 (by decide +kernel) rfl
theorem ws_X6_when : Cond.selects RX6 yX6_when yX6_when ∈ TB := inTB 429 (by decide +kernel) rfl
theorem wc_X6_when : Cond.code yX6_when cX6_when 3 (some .int) ∈ TB := inTB 430 (by decide +kernel) rfl
theorem ml_RX6_185 : Cond.methodLink RX6 185 yX2_blackestNight ∈ TB := inTB 431 (by decide +kernel) rfl
theorem wm_X2_blackestNight : Cond.instanceMethod yX2_blackestNight ∈ TB := inTB 432 (by decide +kernel) rfl
theorem ws_X2_blackestNight : Cond.selects RX2 yX2_blackestNight yX2_blackestNight ∈ TB := inTB 433 (by decide +kernel) rfl
theorem wc_X2_blackestNight : Cond.code yX2_blackestNight cX2_blackestNight 9 (some .int) ∈ TB := inTB 434 (by decide +kernel) rfl
theorem ml_RL_84 : Cond.methodLink RL 84 yX6_shade ∈ TB := inTB 435 (by decide +kernel) rfl
theorem wm_X6_shade : Cond.instanceMethod yX6_shade ∈ TB := inTB 436 (by decide +kernel) rfl
theorem ws_X6_shade : Cond.selects RX6 yX6_shade yX6_shade ∈ TB := inTB 437 (by decide +kernel) rfl
theorem wc_X6_shade : Cond.code yX6_shade cX6_shade 2 (some .int) ∈ TB := inTB 438 (by decide +kernel) rfl
theorem ml_RX6_188 : Cond.methodLink RX6 188 yX2_bestShaded ∈ TB := inTB 439 (by decide +kernel) rfl
theorem wm_X2_bestShaded : Cond.instanceMethod yX2_bestShaded ∈ TB := inTB 440 (by decide +kernel) rfl
theorem ws_X2_bestShaded : Cond.selects RX2 yX2_bestShaded yX2_bestShaded ∈ TB := inTB 441 (by decide +kernel) rfl
theorem wc_X2_bestShaded : Cond.code yX2_bestShaded cX2_bestShaded 4 (some .int) ∈ TB := inTB 442 (by decide +kernel) rfl
theorem ml_RX2_107 : Cond.methodLink RX2 107 yX2_measureSun ∈ TB := inTB 443 (by decide +kernel) rfl
theorem wm_X2_measureSun : Cond.instanceMethod yX2_measureSun ∈ TB := inTB 445 (by decide +kernel) rfl
theorem wc_X2_measureSun : Cond.code yX2_measureSun cX2_measureSun 5 (some .int) ∈ TB := inTB 446 (by decide +kernel) rfl
theorem ml_RX2_125 : Cond.methodLink RX2 125 yX1_believedAs ∈ TB := inTB 447 (by decide +kernel) rfl
theorem ml_RL_88 : Cond.methodLink RL 88 yX6_enough ∈ TB := inTB 448 (by decide +kernel) rfl
theorem wm_X6_enough : Cond.instanceMethod yX6_enough ∈ TB := inTB 449 (by decide +kernel) rfl
theorem ws_X6_enough : Cond.selects RX6 yX6_enough yX6_enough ∈ TB := inTB 450 (by decide +kernel) rfl
theorem wc_X6_enough : Cond.code yX6_enough cX6_enough 3 (some .int) ∈ TB := inTB 451 (by decide +kernel) rfl
theorem ml_RX6_191 : Cond.methodLink RX6 191 yX2_fewestBrothers ∈ TB := inTB 452 (by decide +kernel) rfl
theorem wm_X2_fewestBrothers : Cond.instanceMethod yX2_fewestBrothers ∈ TB := inTB 453 (by decide +kernel) rfl
theorem ws_X2_fewestBrothers : Cond.selects RX2 yX2_fewestBrothers yX2_fewestBrothers ∈ TB := inTB 454 (by decide +kernel) rfl
theorem wc_X2_fewestBrothers : Cond.code yX2_fewestBrothers cX2_fewestBrothers 5 (some .int) ∈ TB := inTB 455 (by decide +kernel) rfl
theorem ml_RL_92 : Cond.methodLink RL 92 yX6_kind ∈ TB := inTB 456 (by decide +kernel) rfl
theorem wm_X6_kind : Cond.instanceMethod yX6_kind ∈ TB := inTB 457 (by decide +kernel) rfl
theorem ws_X6_kind : Cond.selects RX6 yX6_kind yX6_kind ∈ TB := inTB 458 (by decide +kernel) rfl
theorem wc_X6_kind : Cond.code yX6_kind cX6_kind 3 (some .int) ∈ TB := inTB 459 (by decide +kernel) rfl
theorem ml_RX6_194 : Cond.methodLink RX6 194 yX1_mostBelievedKind ∈ TB := inTB 460 (by decide +kernel) rfl
theorem wm_X1_mostBelievedKind : Cond.instanceMethod yX1_mostBelievedKind ∈ TB := inTB 461 (by decide +kernel) rfl
theorem ws_X1_mostBelievedKind : Cond.selects RX1 yX1_mostBelievedKind yX1_mostBelievedKind ∈ TB := inTB 462 (by decide +kernel) rfl
theorem wc_X1_mostBelievedKind : Cond.code yX1_mostBelievedKind cX1_mostBelievedKind 7 (some .int) ∈ TB := inTB 463 (by decide +kernel) rfl
theorem ml_RL_96 : Cond.methodLink RL 96 yX6_lamp ∈ TB := inTB 464 (by decide +kernel) rfl
theorem wm_X6_lamp : Cond.instanceMethod yX6_lamp ∈ TB := inTB 465 (by decide +kernel) rfl
theorem ws_X6_lamp : Cond.selects RX6 yX6_lamp yX6_lamp ∈ TB := inTB 466 (by decide +kernel) rfl
theorem wc_X6_lamp : Cond.code yX6_lamp cX6_lamp 3 (some .int) ∈ TB := inTB 467 (by decide +kernel) rfl
theorem ml_RX6_197 : Cond.methodLink RX6 197 yX2_leastLamp ∈ TB := inTB 468 (by decide +kernel) rfl
theorem wm_X2_leastLamp : Cond.instanceMethod yX2_leastLamp ∈ TB := inTB 469 (by decide +kernel) rfl
theorem ws_X2_leastLamp : Cond.selects RX2 yX2_leastLamp yX2_leastLamp ∈ TB := inTB 470 (by decide +kernel) rfl
theorem wc_X2_leastLamp : Cond.code yX2_leastLamp cX2_leastLamp 4 (some .int) ∈ TB := inTB 471 (by decide +kernel) rfl
theorem ml_RX2_110 : Cond.methodLink RX2 110 yX2_believedTogether ∈ TB := inTB 472 (by decide +kernel) rfl
theorem ml_RL_100 : Cond.methodLink RL 100 yX6_longest ∈ TB := inTB 473 (by decide +kernel) rfl
theorem wm_X6_longest : Cond.instanceMethod yX6_longest ∈ TB := inTB 474 (by decide +kernel) rfl
theorem ws_X6_longest : Cond.selects RX6 yX6_longest yX6_longest ∈ TB := inTB 475 (by decide +kernel) rfl
theorem wc_X6_longest : Cond.code yX6_longest cX6_longest 2 (some .int) ∈ TB := inTB 476 (by decide +kernel) rfl
theorem ml_RX6_200 : Cond.methodLink RX6 200 yX2_mostWords ∈ TB := inTB 477 (by decide +kernel) rfl
theorem wm_X2_mostWords : Cond.instanceMethod yX2_mostWords ∈ TB := inTB 478 (by decide +kernel) rfl
theorem ws_X2_mostWords : Cond.selects RX2 yX2_mostWords yX2_mostWords ∈ TB := inTB 479 (by decide +kernel) rfl
theorem wc_X2_mostWords : Cond.code yX2_mostWords cX2_mostWords 3 (some .int) ∈ TB := inTB 480 (by decide +kernel) rfl
theorem ml_RX2_113 : Cond.methodLink RX2 113 yX2_hasInkFor ∈ TB := inTB 481 (by decide +kernel) rfl
theorem ml_RL_104 : Cond.methodLink RL 104 yX6_sunny ∈ TB := inTB 482 (by decide +kernel) rfl
theorem wm_X6_sunny : Cond.instanceMethod yX6_sunny ∈ TB := inTB 483 (by decide +kernel) rfl
theorem ws_X6_sunny : Cond.selects RX6 yX6_sunny yX6_sunny ∈ TB := inTB 484 (by decide +kernel) rfl
theorem wc_X6_sunny : Cond.code yX6_sunny cX6_sunny 3 (some .int) ∈ TB := inTB 485 (by decide +kernel) rfl
theorem ml_RX6_203 : Cond.methodLink RX6 203 yX2_mostInSun ∈ TB := inTB 486 (by decide +kernel) rfl
theorem wm_X2_mostInSun : Cond.instanceMethod yX2_mostInSun ∈ TB := inTB 487 (by decide +kernel) rfl
theorem ws_X2_mostInSun : Cond.selects RX2 yX2_mostInSun yX2_mostInSun ∈ TB := inTB 488 (by decide +kernel) rfl
theorem wc_X2_mostInSun : Cond.code yX2_mostInSun cX2_mostInSun 7 (some .int) ∈ TB := inTB 489 (by decide +kernel) rfl
theorem ml_RX2_117 : Cond.methodLink RX2 117 yJ6_bitCount_0f7a4 ∈ TB := inTB 490 (by decide +kernel) rfl
theorem wt_J6_bitCount_0f7a4 : Cond.static yJ6_bitCount_0f7a4 ∈ TB := inTB 491 (by decide +kernel) rfl
theorem wc_J6_bitCount_0f7a4 : Cond.code yJ6_bitCount_0f7a4 cJ6_bitCount_0f7a4 1 (some .int) ∈ TB := inTB 492 (by decide +kernel) rfl
theorem ct_RJ6_265 : Cond.constant RJ6 265 (1431655765) ∈ TB := inTB 493 (by decide +kernel) rfl
theorem ct_RJ6_266 : Cond.constant RJ6 266 (858993459) ∈ TB := inTB 494 (by decide +kernel) rfl
theorem ct_RJ6_267 : Cond.constant RJ6 267 (252645135) ∈ TB := inTB 495 (by decide +kernel) rfl
theorem ml_RX2_122 : Cond.methodLink RX2 122 yX2_takenBySun ∈ TB := inTB 496 (by decide +kernel) rfl
theorem wm_X2_takenBySun : Cond.instanceMethod yX2_takenBySun ∈ TB := inTB 498 (by decide +kernel) rfl
theorem wc_X2_takenBySun : Cond.code yX2_takenBySun cX2_takenBySun 4 (some .int) ∈ TB := inTB 499 (by decide +kernel) rfl
theorem ml_RL_108 : Cond.methodLink RL 108 yX6_feed ∈ TB := inTB 500 (by decide +kernel) rfl
theorem wm_X6_feed : Cond.instanceMethod yX6_feed ∈ TB := inTB 501 (by decide +kernel) rfl
theorem ws_X6_feed : Cond.selects RX6 yX6_feed yX6_feed ∈ TB := inTB 502 (by decide +kernel) rfl
theorem wc_X6_feed : Cond.code yX6_feed cX6_feed 4 (some .int) ∈ TB := inTB 503 (by decide +kernel) rfl
theorem ml_RX6_209 : Cond.methodLink RX6 209 yX4_addByte ∈ TB := inTB 504 (by decide +kernel) rfl
theorem wm_X4_addByte : Cond.instanceMethod yX4_addByte ∈ TB := inTB 505 (by decide +kernel) rfl
theorem ws_X4_addByte : Cond.selects RX4 yX4_addByte yX4_addByte ∈ TB := inTB 506 (by decide +kernel) rfl
theorem wc_X4_addByte : Cond.code yX4_addByte cX4_addByte 2 none ∈ TB := inTB 507 (by decide +kernel) rfl
theorem ml_RL_112 : Cond.methodLink RL 112 yX6_wipe ∈ TB := inTB 508 (by decide +kernel) rfl
theorem wm_X6_wipe : Cond.instanceMethod yX6_wipe ∈ TB := inTB 509 (by decide +kernel) rfl
theorem ws_X6_wipe : Cond.selects RX6 yX6_wipe yX6_wipe ∈ TB := inTB 510 (by decide +kernel) rfl
theorem wc_X6_wipe : Cond.code yX6_wipe cX6_wipe 2 (some .int) ∈ TB := inTB 511 (by decide +kernel) rfl
theorem ml_RL_117 : Cond.methodLink RL 117 yX6_text ∈ TB := inTB 512 (by decide +kernel) rfl
theorem wm_X6_text : Cond.instanceMethod yX6_text ∈ TB := inTB 513 (by decide +kernel) rfl
theorem ws_X6_text : Cond.selects RX6 yX6_text yX6_text ∈ TB := inTB 514 (by decide +kernel) rfl
theorem wc_X6_text : Cond.code yX6_text cX6_text 2 (some .int) ∈ TB := inTB 515 (by decide +kernel) rfl
theorem ml_RX6_212 : Cond.methodLink RX6 212 yX2_become ∈ TB := inTB 516 (by decide +kernel) rfl
theorem wm_X2_become : Cond.instanceMethod yX2_become ∈ TB := inTB 517 (by decide +kernel) rfl
theorem ws_X2_become : Cond.selects RX2 yX2_become yX2_become ∈ TB := inTB 518 (by decide +kernel) rfl
theorem wc_X2_become : Cond.code yX2_become cX2_become 3 none ∈ TB := inTB 519 (by decide +kernel) rfl
theorem ml_RX2_42 : Cond.methodLink RX2 42 ⟨RJ10, "arraycopy", "(Ljava/lang/Object;ILjava/lang/Object;II)V"⟩ ∈ TB := inTB 520 (by decide +kernel) rfl
theorem wt_java_lang_Systemarraycopy : Cond.static ⟨RJ10, "arraycopy", "(Ljava/lang/Object;ILjava/lang/Object;II)V"⟩ ∈ TB := inTB 521 (by decide +kernel) rfl
theorem wnat : Cond.native ⟨RJ10, "arraycopy", "(Ljava/lang/Object;ILjava/lang/Object;II)V"⟩ ∈ TB := inTB 522 (by decide +kernel) rfl
theorem ml_RX2_48 : Cond.methodLink RX2 48 yX1_become ∈ TB := inTB 523 (by decide +kernel) rfl
theorem wm_X1_become : Cond.instanceMethod yX1_become ∈ TB := inTB 524 (by decide +kernel) rfl
theorem ws_X1_become : Cond.selects RX1 yX1_become yX1_become ∈ TB := inTB 525 (by decide +kernel) rfl
theorem wc_X1_become : Cond.code yX1_become cX1_become 2 none ∈ TB := inTB 526 (by decide +kernel) rfl
theorem ml_RX6_216 : Cond.methodLink RX6 216 yX5_tell ∈ TB := inTB 527 (by decide +kernel) rfl
theorem wt_X5_tell : Cond.static yX5_tell ∈ TB := inTB 528 (by decide +kernel) rfl
theorem wc_X5_tell : Cond.code yX5_tell cX5_tell 4 (some .int) ∈ TB := inTB 529 (by decide +kernel) rfl
theorem ml_RX5_7 : Cond.methodLink RX5 7 yX4_toFirstToken ∈ TB := inTB 530 (by decide +kernel) rfl
theorem wm_X4_toFirstToken : Cond.instanceMethod yX4_toFirstToken ∈ TB := inTB 531 (by decide +kernel) rfl
theorem ws_X4_toFirstToken : Cond.selects RX4 yX4_toFirstToken yX4_toFirstToken ∈ TB := inTB 532 (by decide +kernel) rfl
theorem wc_X4_toFirstToken : Cond.code yX4_toFirstToken cX4_toFirstToken 1 none ∈ TB := inTB 533 (by decide +kernel) rfl
theorem ml_RX4_29 : Cond.methodLink RX4 29 yX4_toNextToken ∈ TB := inTB 534 (by decide +kernel) rfl
theorem wm_X4_toNextToken : Cond.instanceMethod yX4_toNextToken ∈ TB := inTB 535 (by decide +kernel) rfl
theorem ws_X4_toNextToken : Cond.selects RX4 yX4_toNextToken yX4_toNextToken ∈ TB := inTB 536 (by decide +kernel) rfl
theorem wc_X4_toNextToken : Cond.code yX4_toNextToken cX4_toNextToken 1 none ∈ TB := inTB 537 (by decide +kernel) rfl
theorem ml_RX4_32 : Cond.methodLink RX4 32 yX4_isLetter ∈ TB := inTB 538 (by decide +kernel) rfl
theorem wt_X4_isLetter : Cond.static yX4_isLetter ∈ TB := inTB 539 (by decide +kernel) rfl
theorem wc_X4_isLetter : Cond.code yX4_isLetter cX4_isLetter 1 (some .boolean) ∈ TB := inTB 540 (by decide +kernel) rfl
theorem ml_RX4_36 : Cond.methodLink RX4 36 yX4_passLetters ∈ TB := inTB 541 (by decide +kernel) rfl
theorem wm_X4_passLetters : Cond.instanceMethod yX4_passLetters ∈ TB := inTB 543 (by decide +kernel) rfl
theorem wc_X4_passLetters : Cond.code yX4_passLetters cX4_passLetters 1 none ∈ TB := inTB 544 (by decide +kernel) rfl
theorem ml_RX4_39 : Cond.methodLink RX4 39 yX4_isDigit ∈ TB := inTB 545 (by decide +kernel) rfl
theorem wt_X4_isDigit : Cond.static yX4_isDigit ∈ TB := inTB 546 (by decide +kernel) rfl
theorem wc_X4_isDigit : Cond.code yX4_isDigit cX4_isDigit 1 (some .boolean) ∈ TB := inTB 547 (by decide +kernel) rfl
theorem ml_RX4_42 : Cond.methodLink RX4 42 yX4_passDigits ∈ TB := inTB 548 (by decide +kernel) rfl
theorem wm_X4_passDigits : Cond.instanceMethod yX4_passDigits ∈ TB := inTB 550 (by decide +kernel) rfl
theorem wc_X4_passDigits : Cond.code yX4_passDigits cX4_passDigits 1 none ∈ TB := inTB 551 (by decide +kernel) rfl
theorem ml_RX4_45 : Cond.methodLink RX4 45 yJ9_min_7cf53 ∈ TB := inTB 552 (by decide +kernel) rfl
theorem ml_RX5_12 : Cond.methodLink RX5 12 yX5_tellItem ∈ TB := inTB 553 (by decide +kernel) rfl
theorem wt_X5_tellItem : Cond.static yX5_tellItem ∈ TB := inTB 554 (by decide +kernel) rfl
theorem wc_X5_tellItem : Cond.code yX5_tellItem cX5_tellItem 3 (some .boolean) ∈ TB := inTB 555 (by decide +kernel) rfl
theorem ml_RX5_30 : Cond.methodLink RX5 30 yX0_nameOf ∈ TB := inTB 556 (by decide +kernel) rfl
theorem wt_X0_nameOf : Cond.static yX0_nameOf ∈ TB := inTB 557 (by decide +kernel) rfl
theorem wc_X0_nameOf : Cond.code yX0_nameOf cX0_nameOf 1 (some (.object "java/lang/String")) ∈ TB := inTB 558 (by decide +kernel) rfl
theorem ml_RX5_34 : Cond.methodLink RX5 34 yX4_isWord ∈ TB := inTB 565 (by decide +kernel) rfl
theorem wm_X4_isWord : Cond.instanceMethod yX4_isWord ∈ TB := inTB 566 (by decide +kernel) rfl
theorem ws_X4_isWord : Cond.selects RX4 yX4_isWord yX4_isWord ∈ TB := inTB 567 (by decide +kernel) rfl
theorem wc_X4_isWord : Cond.code yX4_isWord cX4_isWord 3 (some .boolean) ∈ TB := inTB 568 (by decide +kernel) rfl
theorem ml_RX4_51 : Cond.methodLink RX4 51 yJ0_length_8abf5 ∈ TB := inTB 569 (by decide +kernel) rfl
theorem wm_J0_length_8abf5 : Cond.instanceMethod yJ0_length_8abf5 ∈ TB := inTB 570 (by decide +kernel) rfl
theorem ws_J0_length_8abf5 : Cond.selects RJ0 yJ0_length_8abf5 yJ0_length_8abf5 ∈ TB := inTB 571 (by decide +kernel) rfl
theorem wc_J0_length_8abf5 : Cond.code yJ0_length_8abf5 cJ0_length_8abf5 1 (some .int) ∈ TB := inTB 572 (by decide +kernel) rfl
theorem ml_RJ0_335 : Cond.methodLink RJ0 335 yJ0_coder_7d493 ∈ TB := inTB 573 (by decide +kernel) rfl
theorem wm_J0_coder_7d493 : Cond.instanceMethod yJ0_coder_7d493 ∈ TB := inTB 574 (by decide +kernel) rfl
theorem ws_J0_coder_7d493 : Cond.selects RJ0 yJ0_coder_7d493 yJ0_coder_7d493 ∈ TB := inTB 575 (by decide +kernel) rfl
theorem wc_J0_coder_7d493 : Cond.code yJ0_coder_7d493 cJ0_coder_7d493 1 (some .byte) ∈ TB := inTB 576 (by decide +kernel) rfl
theorem fl_RJ0_38 : Cond.fieldLink RJ0 38 RJ0 "COMPACT_STRINGS" "Z" ∈ TB := inTB 577 (by decide +kernel) rfl
theorem ml_RX4_56 : Cond.methodLink RX4 56 yJ0_charAt_5068e ∈ TB := inTB 579 (by decide +kernel) rfl
theorem wm_J0_charAt_5068e : Cond.instanceMethod yJ0_charAt_5068e ∈ TB := inTB 580 (by decide +kernel) rfl
theorem ws_J0_charAt_5068e : Cond.selects RJ0 yJ0_charAt_5068e yJ0_charAt_5068e ∈ TB := inTB 581 (by decide +kernel) rfl
theorem wc_J0_charAt_5068e : Cond.code yJ0_charAt_5068e cJ0_charAt_5068e 2 (some .char) ∈ TB := inTB 582 (by decide +kernel) rfl
theorem ml_RJ0_492 : Cond.methodLink RJ0 492 yJ0_isLatin1_aae02 ∈ TB := inTB 583 (by decide +kernel) rfl
theorem wm_J0_isLatin1_aae02 : Cond.instanceMethod yJ0_isLatin1_aae02 ∈ TB := inTB 584 (by decide +kernel) rfl
theorem ws_J0_isLatin1_aae02 : Cond.selects RJ0 yJ0_isLatin1_aae02 yJ0_isLatin1_aae02 ∈ TB := inTB 585 (by decide +kernel) rfl
theorem wc_J0_isLatin1_aae02 : Cond.code yJ0_isLatin1_aae02 cJ0_isLatin1_aae02 1 (some .boolean) ∈ TB := inTB 586 (by decide +kernel) rfl
theorem ml_RJ0_495 : Cond.methodLink RJ0 495 yJ1_charAt_3b067 ∈ TB := inTB 587 (by decide +kernel) rfl
theorem wt_J1_charAt_3b067 : Cond.static yJ1_charAt_3b067 ∈ TB := inTB 588 (by decide +kernel) rfl
theorem wc_J1_charAt_3b067 : Cond.code yJ1_charAt_3b067 cJ1_charAt_3b067 2 (some .char) ∈ TB := inTB 589 (by decide +kernel) rfl
theorem ml_RJ1_9 : Cond.methodLink RJ1 9 yJ0_checkIndex_df160 ∈ TB := inTB 590 (by decide +kernel) rfl
theorem wt_J0_checkIndex_df160 : Cond.static yJ0_checkIndex_df160 ∈ TB := inTB 591 (by decide +kernel) rfl
theorem wc_J0_checkIndex_df160 : Cond.code yJ0_checkIndex_df160 cJ0_checkIndex_df160 2 none ∈ TB := inTB 592 (by decide +kernel) rfl
theorem fl_RJ0_1053 : Cond.fieldLink RJ0 1053 RJ3 "SIOOBE_FORMATTER" "Ljava/util/function/BiFunction;" ∈ TB := inTB 593 (by decide +kernel) rfl
theorem ml_RJ0_1059 : Cond.methodLink RJ0 1059 yJ3_checkIndex_8e157 ∈ TB := inTB 595 (by decide +kernel) rfl
theorem wt_J3_checkIndex_8e157 : Cond.static yJ3_checkIndex_8e157 ∈ TB := inTB 596 (by decide +kernel) rfl
theorem wc_J3_checkIndex_8e157 : Cond.code yJ3_checkIndex_8e157 cJ3_checkIndex_8e157 3 (some .int) ∈ TB := inTB 597 (by decide +kernel) rfl
theorem ml_RJ0_498 : Cond.methodLink RJ0 498 yJ2_charAt_3b067 ∈ TB := inTB 598 (by decide +kernel) rfl
theorem wt_J2_charAt_3b067 : Cond.static yJ2_charAt_3b067 ∈ TB := inTB 599 (by decide +kernel) rfl
theorem wc_J2_charAt_3b067 : Cond.code yJ2_charAt_3b067 cJ2_charAt_3b067 2 (some .char) ∈ TB := inTB 600 (by decide +kernel) rfl
theorem ml_RJ2_67 : Cond.methodLink RJ2 67 yJ2_checkIndex_2214a ∈ TB := inTB 601 (by decide +kernel) rfl
theorem wt_J2_checkIndex_2214a : Cond.static yJ2_checkIndex_2214a ∈ TB := inTB 602 (by decide +kernel) rfl
theorem wc_J2_checkIndex_2214a : Cond.code yJ2_checkIndex_2214a cJ2_checkIndex_2214a 2 none ∈ TB := inTB 603 (by decide +kernel) rfl
theorem ml_RJ2_48 : Cond.methodLink RJ2 48 yJ2_length_9d52b ∈ TB := inTB 604 (by decide +kernel) rfl
theorem wt_J2_length_9d52b : Cond.static yJ2_length_9d52b ∈ TB := inTB 605 (by decide +kernel) rfl
theorem wc_J2_length_9d52b : Cond.code yJ2_length_9d52b cJ2_length_9d52b 1 (some .int) ∈ TB := inTB 606 (by decide +kernel) rfl
theorem ml_RJ2_414 : Cond.methodLink RJ2 414 yJ0_checkIndex_df160 ∈ TB := inTB 607 (by decide +kernel) rfl
theorem ml_RJ2_71 : Cond.methodLink RJ2 71 yJ2_getChar_3b067 ∈ TB := inTB 608 (by decide +kernel) rfl
theorem wt_J2_getChar_3b067 : Cond.static yJ2_getChar_3b067 ∈ TB := inTB 609 (by decide +kernel) rfl
theorem wc_J2_getChar_3b067 : Cond.code yJ2_getChar_3b067 cJ2_getChar_3b067 2 (some .char) ∈ TB := inTB 610 (by decide +kernel) rfl
theorem fl_RJ2_44 : Cond.fieldLink RJ2 44 RJ2 "$assertionsDisabled" "Z" ∈ TB := inTB 611 (by decide +kernel) rfl
theorem fl_RJ2_59 : Cond.fieldLink RJ2 59 RJ2 "HI_BYTE_SHIFT" "I" ∈ TB := inTB 613 (by decide +kernel) rfl
theorem fl_RJ2_63 : Cond.fieldLink RJ2 63 RJ2 "LO_BYTE_SHIFT" "I" ∈ TB := inTB 615 (by decide +kernel) rfl
theorem ml_RX5_38 : Cond.methodLink RX5 38 yX5_tellPage ∈ TB := inTB 617 (by decide +kernel) rfl
theorem wt_X5_tellPage : Cond.static yX5_tellPage ∈ TB := inTB 618 (by decide +kernel) rfl
theorem wc_X5_tellPage : Cond.code yX5_tellPage cX5_tellPage 5 (some .boolean) ∈ TB := inTB 619 (by decide +kernel) rfl
theorem ml_RX5_56 : Cond.methodLink RX5 56 yX2_isFull ∈ TB := inTB 620 (by decide +kernel) rfl
theorem ml_RX5_22 : Cond.methodLink RX5 22 yX4_toNextToken ∈ TB := inTB 621 (by decide +kernel) rfl
theorem ml_RX5_64 : Cond.methodLink RX5 64 yX4_number ∈ TB := inTB 622 (by decide +kernel) rfl
theorem wm_X4_number : Cond.instanceMethod yX4_number ∈ TB := inTB 623 (by decide +kernel) rfl
theorem ws_X4_number : Cond.selects RX4 yX4_number yX4_number ∈ TB := inTB 624 (by decide +kernel) rfl
theorem wc_X4_number : Cond.code yX4_number cX4_number 3 (some .int) ∈ TB := inTB 625 (by decide +kernel) rfl
theorem ml_RX5_68 : Cond.methodLink RX5 68 yX2_hasInkFor ∈ TB := inTB 627 (by decide +kernel) rfl
theorem ml_RX5_72 : Cond.methodLink RX5 72 yX2_addPage ∈ TB := inTB 628 (by decide +kernel) rfl
theorem ml_RX5_77 : Cond.methodLink RX5 77 yX2_hasPage ∈ TB := inTB 630 (by decide +kernel) rfl
theorem ml_RX5_44 : Cond.methodLink RX5 44 yX5_tellDark ∈ TB := inTB 632 (by decide +kernel) rfl
theorem wt_X5_tellDark : Cond.static yX5_tellDark ∈ TB := inTB 633 (by decide +kernel) rfl
theorem wc_X5_tellDark : Cond.code yX5_tellDark cX5_tellDark 4 (some .boolean) ∈ TB := inTB 634 (by decide +kernel) rfl
theorem ml_RX5_49 : Cond.methodLink RX5 49 yX5_tellJar ∈ TB := inTB 636 (by decide +kernel) rfl
theorem wt_X5_tellJar : Cond.static yX5_tellJar ∈ TB := inTB 637 (by decide +kernel) rfl
theorem wc_X5_tellJar : Cond.code yX5_tellJar cX5_tellJar 4 (some .boolean) ∈ TB := inTB 638 (by decide +kernel) rfl
theorem ml_RX5_90 : Cond.methodLink RX5 90 yX2_mostInJar ∈ TB := inTB 639 (by decide +kernel) rfl
theorem ml_RX5_94 : Cond.methodLink RX5 94 yX2_fillJar ∈ TB := inTB 640 (by decide +kernel) rfl
theorem wa_byte : Cond.arrayClass .byte ∈ TB := inTB 643 (by decide +kernel) rfl
theorem ml_RL_121 : Cond.methodLink RL 121 yX6_sheet ∈ TB := inTB 644 (by decide +kernel) rfl
theorem wm_X6_sheet : Cond.instanceMethod yX6_sheet ∈ TB := inTB 645 (by decide +kernel) rfl
theorem ws_X6_sheet : Cond.selects RX6 yX6_sheet yX6_sheet ∈ TB := inTB 646 (by decide +kernel) rfl
theorem wc_X6_sheet : Cond.code yX6_sheet cX6_sheet 4 (some .int) ∈ TB := inTB 647 (by decide +kernel) rfl
theorem ml_RX6_222 : Cond.methodLink RX6 222 yX6_isSheet ∈ TB := inTB 648 (by decide +kernel) rfl
theorem wt_X6_isSheet : Cond.static yX6_isSheet ∈ TB := inTB 649 (by decide +kernel) rfl
theorem wc_X6_isSheet : Cond.code yX6_isSheet cX6_isSheet 1 (some .boolean) ∈ TB := inTB 650 (by decide +kernel) rfl
theorem ml_RX6_225 : Cond.methodLink RX6 225 yX3_mayHaveBits ∈ TB := inTB 651 (by decide +kernel) rfl
theorem wt_X3_mayHaveBits : Cond.static yX3_mayHaveBits ∈ TB := inTB 652 (by decide +kernel) rfl
theorem wc_X3_mayHaveBits : Cond.code yX3_mayHaveBits cX3_mayHaveBits 1 (some .boolean) ∈ TB := inTB 653 (by decide +kernel) rfl
theorem ml_RX6_228 : Cond.methodLink RX6 228 yX3_layOut ∈ TB := inTB 654 (by decide +kernel) rfl
theorem wm_X3_layOut : Cond.instanceMethod yX3_layOut ∈ TB := inTB 655 (by decide +kernel) rfl
theorem ws_X3_layOut : Cond.selects RX3 yX3_layOut yX3_layOut ∈ TB := inTB 656 (by decide +kernel) rfl
theorem wc_X3_layOut : Cond.code yX3_layOut cX3_layOut 3 none ∈ TB := inTB 657 (by decide +kernel) rfl
theorem ml_RX3_20 : Cond.methodLink RX3 20 yJ7_fill_d0a16 ∈ TB := inTB 658 (by decide +kernel) rfl
theorem wt_J7_fill_d0a16 : Cond.static yJ7_fill_d0a16 ∈ TB := inTB 659 (by decide +kernel) rfl
theorem wc_J7_fill_d0a16 : Cond.code yJ7_fill_d0a16 cJ7_fill_d0a16 5 none ∈ TB := inTB 660 (by decide +kernel) rfl
theorem ml_RL_127 : Cond.methodLink RL 127 yX6_write ∈ TB := inTB 661 (by decide +kernel) rfl
theorem wm_X6_write : Cond.instanceMethod yX6_write ∈ TB := inTB 662 (by decide +kernel) rfl
theorem ws_X6_write : Cond.selects RX6 yX6_write yX6_write ∈ TB := inTB 663 (by decide +kernel) rfl
theorem wc_X6_write : Cond.code yX6_write cX6_write 7 (some .long) ∈ TB := inTB 664 (by decide +kernel) rfl
theorem ml_RX6_232 : Cond.methodLink RX6 232 yX3_isMissing ∈ TB := inTB 665 (by decide +kernel) rfl
theorem wm_X3_isMissing : Cond.instanceMethod yX3_isMissing ∈ TB := inTB 666 (by decide +kernel) rfl
theorem ws_X3_isMissing : Cond.selects RX3 yX3_isMissing yX3_isMissing ∈ TB := inTB 667 (by decide +kernel) rfl
theorem wc_X3_isMissing : Cond.code yX3_isMissing cX3_isMissing 1 (some .boolean) ∈ TB := inTB 668 (by decide +kernel) rfl
theorem ml_RX6_239 : Cond.methodLink RX6 239 yX3_lowestBits ∈ TB := inTB 669 (by decide +kernel) rfl
theorem wm_X3_lowestBits : Cond.instanceMethod yX3_lowestBits ∈ TB := inTB 670 (by decide +kernel) rfl
theorem ws_X3_lowestBits : Cond.selects RX3 yX3_lowestBits yX3_lowestBits ∈ TB := inTB 671 (by decide +kernel) rfl
theorem wc_X3_lowestBits : Cond.code yX3_lowestBits cX3_lowestBits 3 (some .long) ∈ TB := inTB 672 (by decide +kernel) rfl
theorem ml_RL_132 : Cond.methodLink RL 132 yX6_copy ∈ TB := inTB 673 (by decide +kernel) rfl
theorem wm_X6_copy : Cond.instanceMethod yX6_copy ∈ TB := inTB 674 (by decide +kernel) rfl
theorem ws_X6_copy : Cond.selects RX6 yX6_copy yX6_copy ∈ TB := inTB 675 (by decide +kernel) rfl
theorem wc_X6_copy : Cond.code yX6_copy cX6_copy 6 (some .int) ∈ TB := inTB 676 (by decide +kernel) rfl
theorem ml_RX6_246 : Cond.methodLink RX6 246 yX3_hasRow ∈ TB := inTB 677 (by decide +kernel) rfl
theorem wm_X3_hasRow : Cond.instanceMethod yX3_hasRow ∈ TB := inTB 678 (by decide +kernel) rfl
theorem ws_X3_hasRow : Cond.selects RX3 yX3_hasRow yX3_hasRow ∈ TB := inTB 679 (by decide +kernel) rfl
theorem wc_X3_hasRow : Cond.code yX3_hasRow cX3_hasRow 3 (some .boolean) ∈ TB := inTB 680 (by decide +kernel) rfl
theorem ml_RX6_249 : Cond.methodLink RX6 249 ⟨RJ10, "arraycopy", "(Ljava/lang/Object;ILjava/lang/Object;II)V"⟩ ∈ TB := inTB 681 (by decide +kernel) rfl
theorem ml_RL_137 : Cond.methodLink RL 137 yX6_lays ∈ TB := inTB 682 (by decide +kernel) rfl
theorem wm_X6_lays : Cond.instanceMethod yX6_lays ∈ TB := inTB 683 (by decide +kernel) rfl
theorem ws_X6_lays : Cond.selects RX6 yX6_lays yX6_lays ∈ TB := inTB 684 (by decide +kernel) rfl
theorem wc_X6_lays : Cond.code yX6_lays cX6_lays 2 (some .int) ∈ TB := inTB 685 (by decide +kernel) rfl
theorem ml_RX6_255 : Cond.methodLink RX6 255 yX2_blacken ∈ TB := inTB 686 (by decide +kernel) rfl
theorem wm_X2_blacken : Cond.instanceMethod yX2_blacken ∈ TB := inTB 687 (by decide +kernel) rfl
theorem ws_X2_blacken : Cond.selects RX2 yX2_blacken yX2_blacken ∈ TB := inTB 688 (by decide +kernel) rfl
theorem wc_X2_blacken : Cond.code yX2_blacken cX2_blacken 6 (some .int) ∈ TB := inTB 689 (by decide +kernel) rfl
theorem cl_RX2_138 : Cond.constantLong RX2 138 (99) ∈ TB := inTB 690 (by decide +kernel) rfl
theorem ml_RL_141 : Cond.methodLink RL 141 yX6_book ∈ TB := inTB 691 (by decide +kernel) rfl
theorem wm_X6_book : Cond.instanceMethod yX6_book ∈ TB := inTB 692 (by decide +kernel) rfl
theorem ws_X6_book : Cond.selects RX6 yX6_book yX6_book ∈ TB := inTB 693 (by decide +kernel) rfl
theorem wc_X6_book : Cond.code yX6_book cX6_book 4 (some .int) ∈ TB := inTB 694 (by decide +kernel) rfl
theorem ml_RL_145 : Cond.methodLink RL 145 yX6_read ∈ TB := inTB 695 (by decide +kernel) rfl
theorem wm_X6_read : Cond.instanceMethod yX6_read ∈ TB := inTB 696 (by decide +kernel) rfl
theorem ws_X6_read : Cond.selects RX6 yX6_read yX6_read ∈ TB := inTB 697 (by decide +kernel) rfl
theorem wc_X6_read : Cond.code yX6_read cX6_read 3 (some .int) ∈ TB := inTB 698 (by decide +kernel) rfl
theorem ml_RX6_259 : Cond.methodLink RX6 259 yX1_waysToFadeAs ∈ TB := inTB 699 (by decide +kernel) rfl
theorem wm_X1_waysToFadeAs : Cond.instanceMethod yX1_waysToFadeAs ∈ TB := inTB 700 (by decide +kernel) rfl
theorem ws_X1_waysToFadeAs : Cond.selects RX1 yX1_waysToFadeAs yX1_waysToFadeAs ∈ TB := inTB 701 (by decide +kernel) rfl
end
section
theorem wc_X1_waysToFadeAs : Cond.code yX1_waysToFadeAs cX1_waysToFadeAs 6 (some .int) ∈ TB := inTB 702 (by decide +kernel) rfl
theorem ml_RX1_45 : Cond.methodLink RX1 45 yX1_tells ∈ TB := inTB 703 (by decide +kernel) rfl
theorem wt_X1_tells : Cond.static yX1_tells ∈ TB := inTB 704 (by decide +kernel) rfl
theorem wc_X1_tells : Cond.code yX1_tells cX1_tells 4 (some .boolean) ∈ TB := inTB 705 (by decide +kernel) rfl
theorem ml_RL_149 : Cond.methodLink RL 149 yX6_image ∈ TB := inTB 706 (by decide +kernel) rfl
theorem wm_X6_image : Cond.instanceMethod yX6_image ∈ TB := inTB 707 (by decide +kernel) rfl
theorem ws_X6_image : Cond.selects RX6 yX6_image yX6_image ∈ TB := inTB 708 (by decide +kernel) rfl
theorem wc_X6_image : Cond.code yX6_image cX6_image 1 (some .int) ∈ TB := inTB 709 (by decide +kernel) rfl
theorem ml_RL_153 : Cond.methodLink RL 153 yX6_undo ∈ TB := inTB 710 (by decide +kernel) rfl
theorem wm_X6_undo : Cond.instanceMethod yX6_undo ∈ TB := inTB 711 (by decide +kernel) rfl
theorem ws_X6_undo : Cond.selects RX6 yX6_undo yX6_undo ∈ TB := inTB 712 (by decide +kernel) rfl
theorem wc_X6_undo : Cond.code yX6_undo cX6_undo 1 (some .int) ∈ TB := inTB 713 (by decide +kernel) rfl
theorem ml_RL_157 : Cond.methodLink RL 157 yX6_tear ∈ TB := inTB 714 (by decide +kernel) rfl
theorem wm_X6_tear : Cond.instanceMethod yX6_tear ∈ TB := inTB 715 (by decide +kernel) rfl
theorem ws_X6_tear : Cond.selects RX6 yX6_tear yX6_tear ∈ TB := inTB 716 (by decide +kernel) rfl
theorem wc_X6_tear : Cond.code yX6_tear cX6_tear 2 (some .int) ∈ TB := inTB 717 (by decide +kernel) rfl
theorem ml_RL_161 : Cond.methodLink RL 161 yX6_count ∈ TB := inTB 718 (by decide +kernel) rfl
theorem wm_X6_count : Cond.instanceMethod yX6_count ∈ TB := inTB 719 (by decide +kernel) rfl
theorem ws_X6_count : Cond.selects RX6 yX6_count yX6_count ∈ TB := inTB 720 (by decide +kernel) rfl
theorem wc_X6_count : Cond.code yX6_count cX6_count 2 (some .int) ∈ TB := inTB 721 (by decide +kernel) rfl
theorem ml_RX6_269 : Cond.methodLink RX6 269 yX2_pagesInSun ∈ TB := inTB 722 (by decide +kernel) rfl
theorem wm_X2_pagesInSun : Cond.instanceMethod yX2_pagesInSun ∈ TB := inTB 723 (by decide +kernel) rfl
theorem ws_X2_pagesInSun : Cond.selects RX2 yX2_pagesInSun yX2_pagesInSun ∈ TB := inTB 724 (by decide +kernel) rfl
theorem wc_X2_pagesInSun : Cond.code yX2_pagesInSun cX2_pagesInSun 3 (some .int) ∈ TB := inTB 725 (by decide +kernel) rfl
theorem ml_RX6_272 : Cond.methodLink RX6 272 yX2_wordsTogether ∈ TB := inTB 726 (by decide +kernel) rfl
theorem wm_X2_wordsTogether : Cond.instanceMethod yX2_wordsTogether ∈ TB := inTB 727 (by decide +kernel) rfl
theorem ws_X2_wordsTogether : Cond.selects RX2 yX2_wordsTogether yX2_wordsTogether ∈ TB := inTB 728 (by decide +kernel) rfl
theorem wc_X2_wordsTogether : Cond.code yX2_wordsTogether cX2_wordsTogether 3 (some .int) ∈ TB := inTB 729 (by decide +kernel) rfl
theorem ml_RL_165 : Cond.methodLink RL 165 yX6_status ∈ TB := inTB 730 (by decide +kernel) rfl
theorem wm_X6_status : Cond.instanceMethod yX6_status ∈ TB := inTB 731 (by decide +kernel) rfl
theorem ws_X6_status : Cond.selects RX6 yX6_status yX6_status ∈ TB := inTB 732 (by decide +kernel) rfl
theorem wc_X6_status : Cond.code yX6_status cX6_status 4 (some .int) ∈ TB := inTB 733 (by decide +kernel) rfl
theorem kl_RL_10 : Cond.classLink RL 10 RX7 ∈ TB := inTB 734 (by decide +kernel) rfl
theorem wn_RX7 : Cond.instantiable RX7 19 ∈ TB := inTB 735 (by decide +kernel) rfl
theorem ml_RL_12 : Cond.methodLink RL 12 yX7_init ∈ TB := inTB 736 (by decide +kernel) rfl
theorem wm_X7_init : Cond.instanceMethod yX7_init ∈ TB := inTB 737 (by decide +kernel) rfl
theorem wc_X7_init : Cond.code yX7_init cX7_init 2 none ∈ TB := inTB 738 (by decide +kernel) rfl
theorem ml_RX7_1 : Cond.methodLink RX7 1 ⟨"java/lang/Object", "<init>", "()V"⟩ ∈ TB := inTB 739 (by decide +kernel) rfl
theorem fl_RX7_7 : Cond.fieldLink RX7 7 RX7 "row" "[I" ∈ TB := inTB 740 (by decide +kernel) rfl
theorem fl_RX7_13 : Cond.fieldLink RX7 13 RX7 "found" "[I" ∈ TB := inTB 741 (by decide +kernel) rfl
theorem fl_RX7_16 : Cond.fieldLink RX7 16 RX7 "tried" "[I" ∈ TB := inTB 742 (by decide +kernel) rfl
theorem fl_RX7_19 : Cond.fieldLink RX7 19 RX7 "before1" "[I" ∈ TB := inTB 743 (by decide +kernel) rfl
theorem fl_RX7_22 : Cond.fieldLink RX7 22 RX7 "tape" "[I" ∈ TB := inTB 744 (by decide +kernel) rfl
theorem fl_RX7_131 : Cond.fieldLink RX7 131 RX7 "tapeMany" "I" ∈ TB := inTB 745 (by decide +kernel) rfl
theorem fl_RX7_150 : Cond.fieldLink RX7 150 RX7 "sort" "I" ∈ TB := inTB 746 (by decide +kernel) rfl
theorem fl_RX7_138 : Cond.fieldLink RX7 138 RX7 "begins" "I" ∈ TB := inTB 747 (by decide +kernel) rfl
theorem fl_RX7_135 : Cond.fieldLink RX7 135 RX7 "tokenEnds" "I" ∈ TB := inTB 748 (by decide +kernel) rfl
theorem fl_RX7_153 : Cond.fieldLink RX7 153 RX7 "word" "J" ∈ TB := inTB 749 (by decide +kernel) rfl
theorem fl_RX7_157 : Cond.fieldLink RX7 157 RX7 "value" "I" ∈ TB := inTB 750 (by decide +kernel) rfl
theorem fl_RX7_182 : Cond.fieldLink RX7 182 RX7 "good" "Z" ∈ TB := inTB 751 (by decide +kernel) rfl
theorem fl_RX7_25 : Cond.fieldLink RX7 25 RX7 "bitsOf" "[I" ∈ TB := inTB 752 (by decide +kernel) rfl
theorem fl_RX7_28 : Cond.fieldLink RX7 28 RX7 "sizeOf" "[I" ∈ TB := inTB 753 (by decide +kernel) rfl
theorem fl_RX7_31 : Cond.fieldLink RX7 31 RX7 "sheets" "[J" ∈ TB := inTB 754 (by decide +kernel) rfl
theorem fl_RX7_35 : Cond.fieldLink RX7 35 RX7 "lent" "[J" ∈ TB := inTB 755 (by decide +kernel) rfl
theorem fl_RX7_38 : Cond.fieldLink RX7 38 RX7 "image" "[I" ∈ TB := inTB 756 (by decide +kernel) rfl
theorem fl_RX7_41 : Cond.fieldLink RX7 41 RX7 "before" "[I" ∈ TB := inTB 757 (by decide +kernel) rfl
theorem fl_RX7_234 : Cond.fieldLink RX7 234 RX7 "isKept" "Z" ∈ TB := inTB 758 (by decide +kernel) rfl
theorem wl_RX7_row : Cond.laysFinal RX7 RX7 "row" "[I" ∈ TB := inTB 759 (by decide +kernel) rfl
theorem wl_RX7_found : Cond.laysFinal RX7 RX7 "found" "[I" ∈ TB := inTB 761 (by decide +kernel) rfl
theorem wl_RX7_tried : Cond.laysFinal RX7 RX7 "tried" "[I" ∈ TB := inTB 763 (by decide +kernel) rfl
theorem wl_RX7_before1 : Cond.laysFinal RX7 RX7 "before1" "[I" ∈ TB := inTB 765 (by decide +kernel) rfl
theorem wl_RX7_tape : Cond.laysFinal RX7 RX7 "tape" "[I" ∈ TB := inTB 767 (by decide +kernel) rfl
theorem wl_RX7_tapeMany : Cond.lays RX7 RX7 "tapeMany" "I" ∈ TB := inTB 769 (by decide +kernel) rfl
theorem wl_RX7_sort : Cond.lays RX7 RX7 "sort" "I" ∈ TB := inTB 771 (by decide +kernel) rfl
theorem wl_RX7_begins : Cond.lays RX7 RX7 "begins" "I" ∈ TB := inTB 773 (by decide +kernel) rfl
theorem wl_RX7_tokenEnds : Cond.lays RX7 RX7 "tokenEnds" "I" ∈ TB := inTB 775 (by decide +kernel) rfl
theorem wl_RX7_word : Cond.lays RX7 RX7 "word" "J" ∈ TB := inTB 777 (by decide +kernel) rfl
theorem wl_RX7_value : Cond.lays RX7 RX7 "value" "I" ∈ TB := inTB 779 (by decide +kernel) rfl
theorem wl_RX7_good : Cond.lays RX7 RX7 "good" "Z" ∈ TB := inTB 781 (by decide +kernel) rfl
theorem wl_RX7_bitsOf : Cond.laysFinal RX7 RX7 "bitsOf" "[I" ∈ TB := inTB 783 (by decide +kernel) rfl
theorem wl_RX7_sizeOf : Cond.laysFinal RX7 RX7 "sizeOf" "[I" ∈ TB := inTB 785 (by decide +kernel) rfl
theorem wl_RX7_sheets : Cond.laysFinal RX7 RX7 "sheets" "[J" ∈ TB := inTB 787 (by decide +kernel) rfl
theorem wl_RX7_lent : Cond.laysFinal RX7 RX7 "lent" "[J" ∈ TB := inTB 789 (by decide +kernel) rfl
theorem wl_RX7_image : Cond.laysFinal RX7 RX7 "image" "[I" ∈ TB := inTB 791 (by decide +kernel) rfl
theorem wl_RX7_before : Cond.laysFinal RX7 RX7 "before" "[I" ∈ TB := inTB 793 (by decide +kernel) rfl
theorem wl_RX7_isKept : Cond.lays RX7 RX7 "isKept" "Z" ∈ TB := inTB 795 (by decide +kernel) rfl
theorem ml_RL_17 : Cond.methodLink RL 17 yX7_jar ∈ TB := inTB 798 (by decide +kernel) rfl
theorem wm_X7_jar : Cond.instanceMethod yX7_jar ∈ TB := inTB 799 (by decide +kernel) rfl
theorem ws_X7_jar : Cond.selects RX7 yX7_jar yX7_jar ∈ TB := inTB 800 (by decide +kernel) rfl
theorem wc_X7_jar : Cond.code yX7_jar cX7_jar 3 (some .int) ∈ TB := inTB 801 (by decide +kernel) rfl
theorem ml_RX7_45 : Cond.methodLink RX7 45 yX7_in ∈ TB := inTB 802 (by decide +kernel) rfl
theorem wt_X7_in : Cond.static yX7_in ∈ TB := inTB 803 (by decide +kernel) rfl
theorem wc_X7_in : Cond.code yX7_in cX7_in 3 (some .boolean) ∈ TB := inTB 804 (by decide +kernel) rfl
theorem ml_RX7_49 : Cond.methodLink RX7 49 yX7_mostOf ∈ TB := inTB 805 (by decide +kernel) rfl
theorem wt_X7_mostOf : Cond.static yX7_mostOf ∈ TB := inTB 806 (by decide +kernel) rfl
theorem wc_X7_mostOf : Cond.code yX7_mostOf cX7_mostOf 1 (some .int) ∈ TB := inTB 807 (by decide +kernel) rfl
theorem ml_RX7_53 : Cond.methodLink RX7 53 yX7_becomes ∈ TB := inTB 808 (by decide +kernel) rfl
theorem wm_X7_becomes : Cond.instanceMethod yX7_becomes ∈ TB := inTB 810 (by decide +kernel) rfl
theorem wc_X7_becomes : Cond.code yX7_becomes cX7_becomes 4 (some .int) ∈ TB := inTB 811 (by decide +kernel) rfl
theorem ct_RX7_44 : Cond.constant RX7 44 (-1000000001) ∈ TB := inTB 812 (by decide +kernel) rfl
theorem ml_RX7_57 : Cond.methodLink RX7 57 yX7_finds ∈ TB := inTB 813 (by decide +kernel) rfl
theorem wm_X7_finds : Cond.instanceMethod yX7_finds ∈ TB := inTB 815 (by decide +kernel) rfl
theorem wc_X7_finds : Cond.code yX7_finds cX7_finds 2 (some .int) ∈ TB := inTB 816 (by decide +kernel) rfl
theorem ml_RL_21 : Cond.methodLink RL 21 yX7_dark ∈ TB := inTB 817 (by decide +kernel) rfl
theorem wm_X7_dark : Cond.instanceMethod yX7_dark ∈ TB := inTB 818 (by decide +kernel) rfl
theorem ws_X7_dark : Cond.selects RX7 yX7_dark yX7_dark ∈ TB := inTB 819 (by decide +kernel) rfl
theorem wc_X7_dark : Cond.code yX7_dark cX7_dark 3 (some .int) ∈ TB := inTB 820 (by decide +kernel) rfl
theorem ml_RL_26 : Cond.methodLink RL 26 yX7_now ∈ TB := inTB 821 (by decide +kernel) rfl
theorem wm_X7_now : Cond.instanceMethod yX7_now ∈ TB := inTB 822 (by decide +kernel) rfl
theorem ws_X7_now : Cond.selects RX7 yX7_now yX7_now ∈ TB := inTB 823 (by decide +kernel) rfl
theorem wc_X7_now : Cond.code yX7_now cX7_now 2 (some .int) ∈ TB := inTB 824 (by decide +kernel) rfl
theorem ml_RX7_70 : Cond.methodLink RX7 70 yX7_darkNow ∈ TB := inTB 825 (by decide +kernel) rfl
theorem wm_X7_darkNow : Cond.instanceMethod yX7_darkNow ∈ TB := inTB 827 (by decide +kernel) rfl
theorem wc_X7_darkNow : Cond.code yX7_darkNow cX7_darkNow 1 (some .int) ∈ TB := inTB 828 (by decide +kernel) rfl
theorem ml_RX7_74 : Cond.methodLink RX7 74 yX7_notWhite ∈ TB := inTB 829 (by decide +kernel) rfl
theorem wm_X7_notWhite : Cond.instanceMethod yX7_notWhite ∈ TB := inTB 831 (by decide +kernel) rfl
theorem wc_X7_notWhite : Cond.code yX7_notWhite cX7_notWhite 3 (some .int) ∈ TB := inTB 832 (by decide +kernel) rfl
theorem ml_RX7_64 : Cond.methodLink RX7 64 yX7_its ∈ TB := inTB 833 (by decide +kernel) rfl
theorem wm_X7_its : Cond.instanceMethod yX7_its ∈ TB := inTB 835 (by decide +kernel) rfl
theorem wc_X7_its : Cond.code yX7_its cX7_its 3 (some .int) ∈ TB := inTB 836 (by decide +kernel) rfl
theorem ml_RX7_77 : Cond.methodLink RX7 77 yX7_allBelieved ∈ TB := inTB 837 (by decide +kernel) rfl
theorem wm_X7_allBelieved : Cond.instanceMethod yX7_allBelieved ∈ TB := inTB 839 (by decide +kernel) rfl
theorem wc_X7_allBelieved : Cond.code yX7_allBelieved cX7_allBelieved 3 (some .int) ∈ TB := inTB 840 (by decide +kernel) rfl
theorem ml_RX7_67 : Cond.methodLink RX7 67 yX7_believed ∈ TB := inTB 841 (by decide +kernel) rfl
theorem wm_X7_believed : Cond.instanceMethod yX7_believed ∈ TB := inTB 843 (by decide +kernel) rfl
theorem wc_X7_believed : Cond.code yX7_believed cX7_believed 7 (some .int) ∈ TB := inTB 844 (by decide +kernel) rfl
theorem ml_RL_30 : Cond.methodLink RL 30 yX7_scribe ∈ TB := inTB 845 (by decide +kernel) rfl
theorem wm_X7_scribe : Cond.instanceMethod yX7_scribe ∈ TB := inTB 846 (by decide +kernel) rfl
theorem ws_X7_scribe : Cond.selects RX7 yX7_scribe yX7_scribe ∈ TB := inTB 847 (by decide +kernel) rfl
theorem wc_X7_scribe : Cond.code yX7_scribe cX7_scribe 3 (some .int) ∈ TB := inTB 848 (by decide +kernel) rfl
theorem ml_RX7_90 : Cond.methodLink RX7 90 yX7_isKind ∈ TB := inTB 849 (by decide +kernel) rfl
theorem wt_X7_isKind : Cond.static yX7_isKind ∈ TB := inTB 850 (by decide +kernel) rfl
theorem wc_X7_isKind : Cond.code yX7_isKind cX7_isKind 1 (some .boolean) ∈ TB := inTB 851 (by decide +kernel) rfl
theorem ct_RX7_94 : Cond.constant RX7 94 (-1000000002) ∈ TB := inTB 852 (by decide +kernel) rfl
theorem ml_RX7_80 : Cond.methodLink RX7 80 yX7_costs ∈ TB := inTB 853 (by decide +kernel) rfl
theorem wt_X7_costs : Cond.static yX7_costs ∈ TB := inTB 854 (by decide +kernel) rfl
theorem wc_X7_costs : Cond.code yX7_costs cX7_costs 4 (some .int) ∈ TB := inTB 855 (by decide +kernel) rfl
theorem ct_RX7_95 : Cond.constant RX7 95 (-1000000005) ∈ TB := inTB 856 (by decide +kernel) rfl
theorem ml_RX7_96 : Cond.methodLink RX7 96 yX7_adds ∈ TB := inTB 857 (by decide +kernel) rfl
theorem wm_X7_adds : Cond.instanceMethod yX7_adds ∈ TB := inTB 859 (by decide +kernel) rfl
theorem wc_X7_adds : Cond.code yX7_adds cX7_adds 5 none ∈ TB := inTB 860 (by decide +kernel) rfl
theorem ml_RX7_83 : Cond.methodLink RX7 83 yX7_puts ∈ TB := inTB 861 (by decide +kernel) rfl
theorem wm_X7_puts : Cond.instanceMethod yX7_puts ∈ TB := inTB 863 (by decide +kernel) rfl
theorem wc_X7_puts : Cond.code yX7_puts cX7_puts 4 none ∈ TB := inTB 864 (by decide +kernel) rfl
theorem ml_RX7_87 : Cond.methodLink RX7 87 yX7_takes ∈ TB := inTB 865 (by decide +kernel) rfl
theorem wt_X7_takes : Cond.static yX7_takes ∈ TB := inTB 866 (by decide +kernel) rfl
theorem wc_X7_takes : Cond.code yX7_takes cX7_takes 2 (some .int) ∈ TB := inTB 867 (by decide +kernel) rfl
theorem ml_RX7_60 : Cond.methodLink RX7 60 yX7_held ∈ TB := inTB 868 (by decide +kernel) rfl
theorem wt_X7_held : Cond.static yX7_held ∈ TB := inTB 869 (by decide +kernel) rfl
theorem wc_X7_held : Cond.code yX7_held cX7_held 3 (some .int) ∈ TB := inTB 870 (by decide +kernel) rfl
theorem ml_RL_34 : Cond.methodLink RL 34 yX7_of ∈ TB := inTB 871 (by decide +kernel) rfl
theorem wm_X7_of : Cond.instanceMethod yX7_of ∈ TB := inTB 872 (by decide +kernel) rfl
theorem ws_X7_of : Cond.selects RX7 yX7_of yX7_of ∈ TB := inTB 873 (by decide +kernel) rfl
theorem wc_X7_of : Cond.code yX7_of cX7_of 3 (some .int) ∈ TB := inTB 874 (by decide +kernel) rfl
theorem ml_RX7_99 : Cond.methodLink RX7 99 yX7_isOne ∈ TB := inTB 875 (by decide +kernel) rfl
theorem wm_X7_isOne : Cond.instanceMethod yX7_isOne ∈ TB := inTB 877 (by decide +kernel) rfl
theorem wc_X7_isOne : Cond.code yX7_isOne cX7_isOne 2 (some .boolean) ∈ TB := inTB 878 (by decide +kernel) rfl
theorem ml_RX7_102 : Cond.methodLink RX7 102 yX7_fades ∈ TB := inTB 879 (by decide +kernel) rfl
theorem wm_X7_fades : Cond.instanceMethod yX7_fades ∈ TB := inTB 881 (by decide +kernel) rfl
theorem wc_X7_fades : Cond.code yX7_fades cX7_fades 3 (some .int) ∈ TB := inTB 882 (by decide +kernel) rfl
theorem ml_RL_39 : Cond.methodLink RL 39 yX7_set ∈ TB := inTB 883 (by decide +kernel) rfl
theorem wm_X7_set : Cond.instanceMethod yX7_set ∈ TB := inTB 884 (by decide +kernel) rfl
theorem ws_X7_set : Cond.selects RX7 yX7_set yX7_set ∈ TB := inTB 885 (by decide +kernel) rfl
theorem wc_X7_set : Cond.code yX7_set cX7_set 4 (some .int) ∈ TB := inTB 886 (by decide +kernel) rfl
theorem ml_RX7_105 : Cond.methodLink RX7 105 yX7_isPart ∈ TB := inTB 887 (by decide +kernel) rfl
theorem wt_X7_isPart : Cond.static yX7_isPart ∈ TB := inTB 888 (by decide +kernel) rfl
theorem wc_X7_isPart : Cond.code yX7_isPart cX7_isPart 2 (some .boolean) ∈ TB := inTB 889 (by decide +kernel) rfl
theorem ml_RL_43 : Cond.methodLink RL 43 yX7_turn ∈ TB := inTB 890 (by decide +kernel) rfl
theorem wm_X7_turn : Cond.instanceMethod yX7_turn ∈ TB := inTB 891 (by decide +kernel) rfl
theorem ws_X7_turn : Cond.selects RX7 yX7_turn yX7_turn ∈ TB := inTB 892 (by decide +kernel) rfl
theorem wc_X7_turn : Cond.code yX7_turn cX7_turn 3 (some .int) ∈ TB := inTB 893 (by decide +kernel) rfl
theorem ml_RL_47 : Cond.methodLink RL 47 yX7_as ∈ TB := inTB 894 (by decide +kernel) rfl
theorem wm_X7_as : Cond.instanceMethod yX7_as ∈ TB := inTB 895 (by decide +kernel) rfl
theorem ws_X7_as : Cond.selects RX7 yX7_as yX7_as ∈ TB := inTB 896 (by decide +kernel) rfl
theorem wc_X7_as : Cond.code yX7_as cX7_as 5 (some .int) ∈ TB := inTB 897 (by decide +kernel) rfl
theorem ct_RX7_109 : Cond.constant RX7 109 (-1000000003) ∈ TB := inTB 898 (by decide +kernel) rfl
theorem ml_RL_51 : Cond.methodLink RL 51 yX7_looks ∈ TB := inTB 899 (by decide +kernel) rfl
theorem wm_X7_looks : Cond.instanceMethod yX7_looks ∈ TB := inTB 900 (by decide +kernel) rfl
theorem ws_X7_looks : Cond.selects RX7 yX7_looks yX7_looks ∈ TB := inTB 901 (by decide +kernel) rfl
theorem wc_X7_looks : Cond.code yX7_looks cX7_looks 3 (some .int) ∈ TB := inTB 902 (by decide +kernel) rfl
theorem ml_RL_55 : Cond.methodLink RL 55 yX7_over ∈ TB := inTB 903 (by decide +kernel) rfl
theorem wm_X7_over : Cond.instanceMethod yX7_over ∈ TB := inTB 904 (by decide +kernel) rfl
theorem ws_X7_over : Cond.selects RX7 yX7_over yX7_over ∈ TB := inTB 905 (by decide +kernel) rfl
theorem wc_X7_over : Cond.code yX7_over cX7_over 3 (some .int) ∈ TB := inTB 906 (by decide +kernel) rfl
theorem ml_RL_59 : Cond.methodLink RL 59 yX7_nights ∈ TB := inTB 907 (by decide +kernel) rfl
theorem wm_X7_nights : Cond.instanceMethod yX7_nights ∈ TB := inTB 908 (by decide +kernel) rfl
theorem ws_X7_nights : Cond.selects RX7 yX7_nights yX7_nights ∈ TB := inTB 909 (by decide +kernel) rfl
theorem wc_X7_nights : Cond.code yX7_nights cX7_nights 2 (some .int) ∈ TB := inTB 910 (by decide +kernel) rfl
theorem ml_RX7_113 : Cond.methodLink RX7 113 yX7_passes ∈ TB := inTB 911 (by decide +kernel) rfl
theorem wm_X7_passes : Cond.instanceMethod yX7_passes ∈ TB := inTB 913 (by decide +kernel) rfl
theorem wc_X7_passes : Cond.code yX7_passes cX7_passes 3 none ∈ TB := inTB 914 (by decide +kernel) rfl
theorem ml_RX7_110 : Cond.methodLink RX7 110 yX7_oneNight ∈ TB := inTB 915 (by decide +kernel) rfl
theorem wm_X7_oneNight : Cond.instanceMethod yX7_oneNight ∈ TB := inTB 917 (by decide +kernel) rfl
theorem wc_X7_oneNight : Cond.code yX7_oneNight cX7_oneNight 3 none ∈ TB := inTB 918 (by decide +kernel) rfl
theorem ml_RL_63 : Cond.methodLink RL 63 yX7_ink ∈ TB := inTB 919 (by decide +kernel) rfl
theorem wm_X7_ink : Cond.instanceMethod yX7_ink ∈ TB := inTB 920 (by decide +kernel) rfl
theorem ws_X7_ink : Cond.selects RX7 yX7_ink yX7_ink ∈ TB := inTB 921 (by decide +kernel) rfl
theorem wc_X7_ink : Cond.code yX7_ink cX7_ink 2 (some .int) ∈ TB := inTB 922 (by decide +kernel) rfl
theorem ml_RX7_117 : Cond.methodLink RX7 117 yX7_moveAll ∈ TB := inTB 923 (by decide +kernel) rfl
theorem wm_X7_moveAll : Cond.instanceMethod yX7_moveAll ∈ TB := inTB 925 (by decide +kernel) rfl
theorem wc_X7_moveAll : Cond.code yX7_moveAll cX7_moveAll 4 none ∈ TB := inTB 926 (by decide +kernel) rfl
theorem ml_RX7_121 : Cond.methodLink RX7 121 yX7_behind ∈ TB := inTB 927 (by decide +kernel) rfl
theorem wm_X7_behind : Cond.instanceMethod yX7_behind ∈ TB := inTB 929 (by decide +kernel) rfl
theorem wc_X7_behind : Cond.code yX7_behind cX7_behind 5 (some .int) ∈ TB := inTB 930 (by decide +kernel) rfl
theorem ml_RL_67 : Cond.methodLink RL 67 yX7_on ∈ TB := inTB 931 (by decide +kernel) rfl
theorem wm_X7_on : Cond.instanceMethod yX7_on ∈ TB := inTB 932 (by decide +kernel) rfl
theorem ws_X7_on : Cond.selects RX7 yX7_on yX7_on ∈ TB := inTB 933 (by decide +kernel) rfl
theorem wc_X7_on : Cond.code yX7_on cX7_on 4 (some .int) ∈ TB := inTB 934 (by decide +kernel) rfl
theorem ml_RL_71 : Cond.methodLink RL 71 yX7_all ∈ TB := inTB 935 (by decide +kernel) rfl
theorem wm_X7_all : Cond.instanceMethod yX7_all ∈ TB := inTB 936 (by decide +kernel) rfl
theorem ws_X7_all : Cond.selects RX7 yX7_all yX7_all ∈ TB := inTB 937 (by decide +kernel) rfl
theorem wc_X7_all : Cond.code yX7_all cX7_all 2 (some .int) ∈ TB := inTB 938 (by decide +kernel) rfl
theorem ml_RL_75 : Cond.methodLink RL 75 yX7_white ∈ TB := inTB 939 (by decide +kernel) rfl
theorem wm_X7_white : Cond.instanceMethod yX7_white ∈ TB := inTB 940 (by decide +kernel) rfl
theorem ws_X7_white : Cond.selects RX7 yX7_white yX7_white ∈ TB := inTB 941 (by decide +kernel) rfl
theorem wc_X7_white : Cond.code yX7_white cX7_white 3 (some .int) ∈ TB := inTB 942 (by decide +kernel) rfl
theorem ct_RX7_124 : Cond.constant RX7 124 (-1000000004) ∈ TB := inTB 943 (by decide +kernel) rfl
theorem ml_RL_79 : Cond.methodLink RL 79 yX7_comes ∈ TB := inTB 944 (by decide +kernel) rfl
theorem wm_X7_comes : Cond.instanceMethod yX7_comes ∈ TB := inTB 945 (by decide +kernel) rfl
theorem ws_X7_comes : Cond.selects RX7 yX7_comes yX7_comes ∈ TB := inTB 946 (by decide +kernel) rfl
theorem wc_X7_comes : Cond.code yX7_comes cX7_comes 3 (some .int) ∈ TB := inTB 947 (by decide +kernel) rfl
theorem ml_RL_83 : Cond.methodLink RL 83 yX7_when ∈ TB := inTB 948 (by decide +kernel) rfl
theorem wm_X7_when : Cond.instanceMethod yX7_when ∈ TB := inTB 949 (by decide +kernel) rfl
theorem ws_X7_when : Cond.selects RX7 yX7_when yX7_when ∈ TB := inTB 950 (by decide +kernel) rfl
theorem wc_X7_when : Cond.code yX7_when cX7_when 7 (some .int) ∈ TB := inTB 951 (by decide +kernel) rfl
theorem ml_RL_87 : Cond.methodLink RL 87 yX7_shade ∈ TB := inTB 952 (by decide +kernel) rfl
theorem wm_X7_shade : Cond.instanceMethod yX7_shade ∈ TB := inTB 953 (by decide +kernel) rfl
theorem ws_X7_shade : Cond.selects RX7 yX7_shade yX7_shade ∈ TB := inTB 954 (by decide +kernel) rfl
theorem wc_X7_shade : Cond.code yX7_shade cX7_shade 6 (some .int) ∈ TB := inTB 955 (by decide +kernel) rfl
theorem ml_RL_91 : Cond.methodLink RL 91 yX7_enough ∈ TB := inTB 956 (by decide +kernel) rfl
theorem wm_X7_enough : Cond.instanceMethod yX7_enough ∈ TB := inTB 957 (by decide +kernel) rfl
theorem ws_X7_enough : Cond.selects RX7 yX7_enough yX7_enough ∈ TB := inTB 958 (by decide +kernel) rfl
theorem wc_X7_enough : Cond.code yX7_enough cX7_enough 5 (some .int) ∈ TB := inTB 959 (by decide +kernel) rfl
theorem ml_RL_95 : Cond.methodLink RL 95 yX7_kind ∈ TB := inTB 960 (by decide +kernel) rfl
theorem wm_X7_kind : Cond.instanceMethod yX7_kind ∈ TB := inTB 961 (by decide +kernel) rfl
theorem ws_X7_kind : Cond.selects RX7 yX7_kind yX7_kind ∈ TB := inTB 962 (by decide +kernel) rfl
theorem wc_X7_kind : Cond.code yX7_kind cX7_kind 7 (some .int) ∈ TB := inTB 963 (by decide +kernel) rfl
theorem ml_RL_99 : Cond.methodLink RL 99 yX7_lamp ∈ TB := inTB 964 (by decide +kernel) rfl
theorem wm_X7_lamp : Cond.instanceMethod yX7_lamp ∈ TB := inTB 965 (by decide +kernel) rfl
theorem ws_X7_lamp : Cond.selects RX7 yX7_lamp yX7_lamp ∈ TB := inTB 966 (by decide +kernel) rfl
theorem wc_X7_lamp : Cond.code yX7_lamp cX7_lamp 5 (some .int) ∈ TB := inTB 967 (by decide +kernel) rfl
theorem ml_RL_103 : Cond.methodLink RL 103 yX7_longest ∈ TB := inTB 968 (by decide +kernel) rfl
theorem wm_X7_longest : Cond.instanceMethod yX7_longest ∈ TB := inTB 969 (by decide +kernel) rfl
theorem ws_X7_longest : Cond.selects RX7 yX7_longest yX7_longest ∈ TB := inTB 970 (by decide +kernel) rfl
theorem wc_X7_longest : Cond.code yX7_longest cX7_longest 2 (some .int) ∈ TB := inTB 971 (by decide +kernel) rfl
theorem ml_RX7_125 : Cond.methodLink RX7 125 yX7_wordsOf ∈ TB := inTB 972 (by decide +kernel) rfl
theorem wm_X7_wordsOf : Cond.instanceMethod yX7_wordsOf ∈ TB := inTB 974 (by decide +kernel) rfl
theorem wc_X7_wordsOf : Cond.code yX7_wordsOf cX7_wordsOf 3 (some .int) ∈ TB := inTB 975 (by decide +kernel) rfl
theorem ml_RL_107 : Cond.methodLink RL 107 yX7_sunny ∈ TB := inTB 976 (by decide +kernel) rfl
theorem wm_X7_sunny : Cond.instanceMethod yX7_sunny ∈ TB := inTB 977 (by decide +kernel) rfl
theorem ws_X7_sunny : Cond.selects RX7 yX7_sunny yX7_sunny ∈ TB := inTB 978 (by decide +kernel) rfl
theorem wc_X7_sunny : Cond.code yX7_sunny cX7_sunny 6 (some .int) ∈ TB := inTB 979 (by decide +kernel) rfl
theorem ml_RX7_128 : Cond.methodLink RX7 128 yX7_bits ∈ TB := inTB 980 (by decide +kernel) rfl
theorem wt_X7_bits : Cond.static yX7_bits ∈ TB := inTB 981 (by decide +kernel) rfl
theorem wc_X7_bits : Cond.code yX7_bits cX7_bits 3 (some .int) ∈ TB := inTB 982 (by decide +kernel) rfl
theorem ml_RL_111 : Cond.methodLink RL 111 yX7_feed ∈ TB := inTB 983 (by decide +kernel) rfl
theorem wm_X7_feed : Cond.instanceMethod yX7_feed ∈ TB := inTB 984 (by decide +kernel) rfl
theorem ws_X7_feed : Cond.selects RX7 yX7_feed yX7_feed ∈ TB := inTB 985 (by decide +kernel) rfl
theorem wc_X7_feed : Cond.code yX7_feed cX7_feed 4 (some .int) ∈ TB := inTB 986 (by decide +kernel) rfl
theorem ml_RL_116 : Cond.methodLink RL 116 yX7_wipe ∈ TB := inTB 987 (by decide +kernel) rfl
theorem wm_X7_wipe : Cond.instanceMethod yX7_wipe ∈ TB := inTB 988 (by decide +kernel) rfl
theorem ws_X7_wipe : Cond.selects RX7 yX7_wipe yX7_wipe ∈ TB := inTB 989 (by decide +kernel) rfl
theorem wc_X7_wipe : Cond.code yX7_wipe cX7_wipe 2 (some .int) ∈ TB := inTB 990 (by decide +kernel) rfl
theorem ml_RL_120 : Cond.methodLink RL 120 yX7_text ∈ TB := inTB 991 (by decide +kernel) rfl
theorem wm_X7_text : Cond.instanceMethod yX7_text ∈ TB := inTB 992 (by decide +kernel) rfl
theorem ws_X7_text : Cond.selects RX7 yX7_text yX7_text ∈ TB := inTB 993 (by decide +kernel) rfl
theorem wc_X7_text : Cond.code yX7_text cX7_text 3 (some .int) ∈ TB := inTB 994 (by decide +kernel) rfl
theorem ml_RX7_186 : Cond.methodLink RX7 186 yX7_advance ∈ TB := inTB 995 (by decide +kernel) rfl
theorem wm_X7_advance : Cond.instanceMethod yX7_advance ∈ TB := inTB 997 (by decide +kernel) rfl
theorem wc_X7_advance : Cond.code yX7_advance cX7_advance 2 none ∈ TB := inTB 998 (by decide +kernel) rfl
theorem ml_RX7_141 : Cond.methodLink RX7 141 yX7_byteAt ∈ TB := inTB 999 (by decide +kernel) rfl
theorem wm_X7_byteAt : Cond.instanceMethod yX7_byteAt ∈ TB := inTB 1001 (by decide +kernel) rfl
theorem wc_X7_byteAt : Cond.code yX7_byteAt cX7_byteAt 2 (some .int) ∈ TB := inTB 1002 (by decide +kernel) rfl
theorem ml_RX7_144 : Cond.methodLink RX7 144 yX7_isLetter ∈ TB := inTB 1003 (by decide +kernel) rfl
theorem wt_X7_isLetter : Cond.static yX7_isLetter ∈ TB := inTB 1004 (by decide +kernel) rfl
theorem wc_X7_isLetter : Cond.code yX7_isLetter cX7_isLetter 1 (some .boolean) ∈ TB := inTB 1005 (by decide +kernel) rfl
theorem ml_RX7_147 : Cond.methodLink RX7 147 yX7_isDigit ∈ TB := inTB 1006 (by decide +kernel) rfl
theorem wt_X7_isDigit : Cond.static yX7_isDigit ∈ TB := inTB 1007 (by decide +kernel) rfl
theorem wc_X7_isDigit : Cond.code yX7_isDigit cX7_isDigit 1 (some .boolean) ∈ TB := inTB 1008 (by decide +kernel) rfl
theorem cl_RX7_160 : Cond.constantLong RX7 160 (27) ∈ TB := inTB 1009 (by decide +kernel) rfl
theorem cl_RX7_162 : Cond.constantLong RX7 162 (96) ∈ TB := inTB 1010 (by decide +kernel) rfl
theorem cl_RX7_164 : Cond.constantLong RX7 164 (-1) ∈ TB := inTB 1011 (by decide +kernel) rfl
theorem ml_RX7_212 : Cond.methodLink RX7 212 yX7_wantItem ∈ TB := inTB 1012 (by decide +kernel) rfl
theorem wm_X7_wantItem : Cond.instanceMethod yX7_wantItem ∈ TB := inTB 1014 (by decide +kernel) rfl
theorem wc_X7_wantItem : Cond.code yX7_wantItem cX7_wantItem 3 none ∈ TB := inTB 1015 (by decide +kernel) rfl
theorem ml_RX7_194 : Cond.methodLink RX7 194 yX7_kindHere ∈ TB := inTB 1016 (by decide +kernel) rfl
theorem wm_X7_kindHere : Cond.instanceMethod yX7_kindHere ∈ TB := inTB 1018 (by decide +kernel) rfl
theorem wc_X7_kindHere : Cond.code yX7_kindHere cX7_kindHere 1 (some .int) ∈ TB := inTB 1019 (by decide +kernel) rfl
theorem cl_RX7_166 : Cond.constantLong RX7 166 (315851) ∈ TB := inTB 1020 (by decide +kernel) rfl
theorem ml_RX7_168 : Cond.methodLink RX7 168 yX7_isWord ∈ TB := inTB 1021 (by decide +kernel) rfl
theorem wm_X7_isWord : Cond.instanceMethod yX7_isWord ∈ TB := inTB 1023 (by decide +kernel) rfl
theorem wc_X7_isWord : Cond.code yX7_isWord cX7_isWord 3 (some .boolean) ∈ TB := inTB 1024 (by decide +kernel) rfl
theorem cl_RX7_172 : Cond.constantLong RX7 172 (82516) ∈ TB := inTB 1025 (by decide +kernel) rfl
theorem cl_RX7_174 : Cond.constantLong RX7 174 (175252482) ∈ TB := inTB 1026 (by decide +kernel) rfl
theorem cl_RX7_176 : Cond.constantLong RX7 176 (296643787) ∈ TB := inTB 1027 (by decide +kernel) rfl
theorem cl_RX7_178 : Cond.constantLong RX7 178 (459606) ∈ TB := inTB 1028 (by decide +kernel) rfl
theorem cl_RX7_180 : Cond.constantLong RX7 180 (11803757) ∈ TB := inTB 1029 (by decide +kernel) rfl
theorem ml_RX7_197 : Cond.methodLink RX7 197 yX7_wantOne ∈ TB := inTB 1030 (by decide +kernel) rfl
theorem wm_X7_wantOne : Cond.instanceMethod yX7_wantOne ∈ TB := inTB 1032 (by decide +kernel) rfl
theorem wc_X7_wantOne : Cond.code yX7_wantOne cX7_wantOne 4 none ∈ TB := inTB 1033 (by decide +kernel) rfl
theorem ml_RX7_189 : Cond.methodLink RX7 189 yX7_wantNumber ∈ TB := inTB 1034 (by decide +kernel) rfl
theorem wm_X7_wantNumber : Cond.instanceMethod yX7_wantNumber ∈ TB := inTB 1036 (by decide +kernel) rfl
theorem wc_X7_wantNumber : Cond.code yX7_wantNumber cX7_wantNumber 4 (some .int) ∈ TB := inTB 1037 (by decide +kernel) rfl
theorem cl_RX7_192 : Cond.constantLong RX7 192 (14432) ∈ TB := inTB 1038 (by decide +kernel) rfl
theorem cl_RX7_200 : Cond.constantLong RX7 200 (6950) ∈ TB := inTB 1039 (by decide +kernel) rfl
theorem ml_RX7_202 : Cond.methodLink RX7 202 yX7_wantJar ∈ TB := inTB 1040 (by decide +kernel) rfl
theorem wm_X7_wantJar : Cond.instanceMethod yX7_wantJar ∈ TB := inTB 1042 (by decide +kernel) rfl
theorem wc_X7_wantJar : Cond.code yX7_wantJar cX7_wantJar 4 none ∈ TB := inTB 1043 (by decide +kernel) rfl
theorem cl_RX7_206 : Cond.constantLong RX7 206 (28120299247) ∈ TB := inTB 1044 (by decide +kernel) rfl
theorem cl_RX7_208 : Cond.constantLong RX7 208 (237292) ∈ TB := inTB 1045 (by decide +kernel) rfl
theorem cl_RX7_210 : Cond.constantLong RX7 210 (79958) ∈ TB := inTB 1046 (by decide +kernel) rfl
theorem ml_RL_124 : Cond.methodLink RL 124 yX7_sheet ∈ TB := inTB 1047 (by decide +kernel) rfl
theorem wm_X7_sheet : Cond.instanceMethod yX7_sheet ∈ TB := inTB 1048 (by decide +kernel) rfl
theorem ws_X7_sheet : Cond.selects RX7 yX7_sheet yX7_sheet ∈ TB := inTB 1049 (by decide +kernel) rfl
theorem wc_X7_sheet : Cond.code yX7_sheet cX7_sheet 5 (some .int) ∈ TB := inTB 1050 (by decide +kernel) rfl
theorem ml_RX7_215 : Cond.methodLink RX7 215 yX7_isSheet ∈ TB := inTB 1051 (by decide +kernel) rfl
theorem wt_X7_isSheet : Cond.static yX7_isSheet ∈ TB := inTB 1052 (by decide +kernel) rfl
theorem wc_X7_isSheet : Cond.code yX7_isSheet cX7_isSheet 1 (some .boolean) ∈ TB := inTB 1053 (by decide +kernel) rfl
theorem ct_RX7_218 : Cond.constant RX7 218 (-1000000007) ∈ TB := inTB 1054 (by decide +kernel) rfl
theorem ml_RL_131 : Cond.methodLink RL 131 yX7_write ∈ TB := inTB 1055 (by decide +kernel) rfl
theorem wm_X7_write : Cond.instanceMethod yX7_write ∈ TB := inTB 1056 (by decide +kernel) rfl
theorem ws_X7_write : Cond.selects RX7 yX7_write yX7_write ∈ TB := inTB 1057 (by decide +kernel) rfl
theorem wc_X7_write : Cond.code yX7_write cX7_write 7 (some .long) ∈ TB := inTB 1058 (by decide +kernel) rfl
theorem ct_RX7_219 : Cond.constant RX7 219 (-1000000006) ∈ TB := inTB 1059 (by decide +kernel) rfl
theorem ml_RX7_220 : Cond.methodLink RX7 220 yX7_narrow ∈ TB := inTB 1060 (by decide +kernel) rfl
theorem wt_X7_narrow : Cond.static yX7_narrow ∈ TB := inTB 1061 (by decide +kernel) rfl
theorem wc_X7_narrow : Cond.code yX7_narrow cX7_narrow 3 (some .long) ∈ TB := inTB 1062 (by decide +kernel) rfl
theorem ml_RL_136 : Cond.methodLink RL 136 yX7_copy ∈ TB := inTB 1063 (by decide +kernel) rfl
theorem wm_X7_copy : Cond.instanceMethod yX7_copy ∈ TB := inTB 1064 (by decide +kernel) rfl
theorem ws_X7_copy : Cond.selects RX7 yX7_copy yX7_copy ∈ TB := inTB 1065 (by decide +kernel) rfl
theorem wc_X7_copy : Cond.code yX7_copy cX7_copy 7 (some .int) ∈ TB := inTB 1066 (by decide +kernel) rfl
theorem ml_RX7_224 : Cond.methodLink RX7 224 yX7_isPart_ ∈ TB := inTB 1067 (by decide +kernel) rfl
theorem wm_X7_isPart_ : Cond.instanceMethod yX7_isPart_ ∈ TB := inTB 1069 (by decide +kernel) rfl
theorem wc_X7_isPart_ : Cond.code yX7_isPart_ cX7_isPart_ 4 (some .boolean) ∈ TB := inTB 1070 (by decide +kernel) rfl
theorem ml_RL_140 : Cond.methodLink RL 140 yX7_lays ∈ TB := inTB 1071 (by decide +kernel) rfl
theorem wm_X7_lays : Cond.instanceMethod yX7_lays ∈ TB := inTB 1072 (by decide +kernel) rfl
theorem ws_X7_lays : Cond.selects RX7 yX7_lays yX7_lays ∈ TB := inTB 1073 (by decide +kernel) rfl
theorem wc_X7_lays : Cond.code yX7_lays cX7_lays 7 (some .int) ∈ TB := inTB 1074 (by decide +kernel) rfl
theorem ml_RX7_226 : Cond.methodLink RX7 226 yX7_badSheet ∈ TB := inTB 1075 (by decide +kernel) rfl
theorem wm_X7_badSheet : Cond.instanceMethod yX7_badSheet ∈ TB := inTB 1077 (by decide +kernel) rfl
theorem wc_X7_badSheet : Cond.code yX7_badSheet cX7_badSheet 2 (some .int) ∈ TB := inTB 1078 (by decide +kernel) rfl
theorem cl_RX7_229 : Cond.constantLong RX7 229 (99) ∈ TB := inTB 1079 (by decide +kernel) rfl
theorem ml_RL_144 : Cond.methodLink RL 144 yX7_book ∈ TB := inTB 1080 (by decide +kernel) rfl
theorem wm_X7_book : Cond.instanceMethod yX7_book ∈ TB := inTB 1081 (by decide +kernel) rfl
theorem ws_X7_book : Cond.selects RX7 yX7_book yX7_book ∈ TB := inTB 1082 (by decide +kernel) rfl
theorem wc_X7_book : Cond.code yX7_book cX7_book 5 (some .int) ∈ TB := inTB 1083 (by decide +kernel) rfl
theorem ml_RL_148 : Cond.methodLink RL 148 yX7_read ∈ TB := inTB 1084 (by decide +kernel) rfl
theorem wm_X7_read : Cond.instanceMethod yX7_read ∈ TB := inTB 1085 (by decide +kernel) rfl
theorem ws_X7_read : Cond.selects RX7 yX7_read yX7_read ∈ TB := inTB 1086 (by decide +kernel) rfl
theorem wc_X7_read : Cond.code yX7_read cX7_read 6 (some .int) ∈ TB := inTB 1087 (by decide +kernel) rfl
theorem ml_RX7_231 : Cond.methodLink RX7 231 yX7_isSo ∈ TB := inTB 1088 (by decide +kernel) rfl
theorem wm_X7_isSo : Cond.instanceMethod yX7_isSo ∈ TB := inTB 1090 (by decide +kernel) rfl
theorem wc_X7_isSo : Cond.code yX7_isSo cX7_isSo 5 (some .boolean) ∈ TB := inTB 1091 (by decide +kernel) rfl
theorem ml_RL_152 : Cond.methodLink RL 152 yX7_image ∈ TB := inTB 1092 (by decide +kernel) rfl
theorem wm_X7_image : Cond.instanceMethod yX7_image ∈ TB := inTB 1093 (by decide +kernel) rfl
theorem ws_X7_image : Cond.selects RX7 yX7_image yX7_image ∈ TB := inTB 1094 (by decide +kernel) rfl
theorem wc_X7_image : Cond.code yX7_image cX7_image 1 (some .int) ∈ TB := inTB 1095 (by decide +kernel) rfl
theorem ml_RL_156 : Cond.methodLink RL 156 yX7_undo ∈ TB := inTB 1096 (by decide +kernel) rfl
theorem wm_X7_undo : Cond.instanceMethod yX7_undo ∈ TB := inTB 1097 (by decide +kernel) rfl
theorem ws_X7_undo : Cond.selects RX7 yX7_undo yX7_undo ∈ TB := inTB 1098 (by decide +kernel) rfl
theorem wc_X7_undo : Cond.code yX7_undo cX7_undo 1 (some .int) ∈ TB := inTB 1099 (by decide +kernel) rfl
theorem ml_RL_160 : Cond.methodLink RL 160 yX7_tear ∈ TB := inTB 1100 (by decide +kernel) rfl
theorem wm_X7_tear : Cond.instanceMethod yX7_tear ∈ TB := inTB 1101 (by decide +kernel) rfl
theorem ws_X7_tear : Cond.selects RX7 yX7_tear yX7_tear ∈ TB := inTB 1102 (by decide +kernel) rfl
theorem wc_X7_tear : Cond.code yX7_tear cX7_tear 2 (some .int) ∈ TB := inTB 1103 (by decide +kernel) rfl
theorem ml_RL_164 : Cond.methodLink RL 164 yX7_count ∈ TB := inTB 1104 (by decide +kernel) rfl
theorem wm_X7_count : Cond.instanceMethod yX7_count ∈ TB := inTB 1105 (by decide +kernel) rfl
theorem ws_X7_count : Cond.selects RX7 yX7_count yX7_count ∈ TB := inTB 1106 (by decide +kernel) rfl
theorem wc_X7_count : Cond.code yX7_count cX7_count 2 (some .int) ∈ TB := inTB 1107 (by decide +kernel) rfl
theorem ml_RX7_237 : Cond.methodLink RX7 237 yX7_sumOf ∈ TB := inTB 1108 (by decide +kernel) rfl
theorem wm_X7_sumOf : Cond.instanceMethod yX7_sumOf ∈ TB := inTB 1110 (by decide +kernel) rfl
theorem wc_X7_sumOf : Cond.code yX7_sumOf cX7_sumOf 4 (some .int) ∈ TB := inTB 1111 (by decide +kernel) rfl
theorem ml_RL_168 : Cond.methodLink RL 168 yX7_status ∈ TB := inTB 1112 (by decide +kernel) rfl
theorem wm_X7_status : Cond.instanceMethod yX7_status ∈ TB := inTB 1113 (by decide +kernel) rfl
theorem ws_X7_status : Cond.selects RX7 yX7_status yX7_status ∈ TB := inTB 1114 (by decide +kernel) rfl
theorem wc_X7_status : Cond.code yX7_status cX7_status 4 (some .int) ∈ TB := inTB 1115 (by decide +kernel) rfl
theorem cl_RL_125 : Cond.constantLong RL 125 (4294967295) ∈ TB := inTB 1116 (by decide +kernel) rfl
theorem fl_RJ0_9 : Cond.fieldLink RJ0 9 RJ0 "value" "[B" ∈ TB := inTB 1117 (by decide +kernel) rfl
theorem fl_RJ0_15 : Cond.fieldLink RJ0 15 RJ0 "coder" "B" ∈ TB := inTB 1118 (by decide +kernel) rfl
theorem ws_X6_found : Cond.selects RX6 yX6_found yX6_found ∈ TB := inTB 0 (by decide +kernel) rfl
theorem ws_X2_darkTogether : Cond.selects RX2 yX2_darkTogether yX2_darkTogether ∈ TB := inTB 1 (by decide +kernel) rfl
theorem ws_X2_inkWith : Cond.selects RX2 yX2_inkWith yX2_inkWith ∈ TB := inTB 2 (by decide +kernel) rfl
theorem ws_X6_orNone : Cond.selects RX6 yX6_orNone yX6_orNone ∈ TB := inTB 3 (by decide +kernel) rfl
theorem ws_X2_measureSun : Cond.selects RX2 yX2_measureSun yX2_measureSun ∈ TB := inTB 4 (by decide +kernel) rfl
theorem ws_X2_takenBySun : Cond.selects RX2 yX2_takenBySun yX2_takenBySun ∈ TB := inTB 5 (by decide +kernel) rfl
theorem ws_X4_passLetters : Cond.selects RX4 yX4_passLetters yX4_passLetters ∈ TB := inTB 6 (by decide +kernel) rfl
theorem ws_X4_passDigits : Cond.selects RX4 yX4_passDigits yX4_passDigits ∈ TB := inTB 7 (by decide +kernel) rfl
theorem ws_X7_becomes : Cond.selects RX7 yX7_becomes yX7_becomes ∈ TB := inTB 8 (by decide +kernel) rfl
theorem ws_X7_finds : Cond.selects RX7 yX7_finds yX7_finds ∈ TB := inTB 9 (by decide +kernel) rfl
theorem ws_X7_darkNow : Cond.selects RX7 yX7_darkNow yX7_darkNow ∈ TB := inTB 10 (by decide +kernel) rfl
theorem ws_X7_notWhite : Cond.selects RX7 yX7_notWhite yX7_notWhite ∈ TB := inTB 11 (by decide +kernel) rfl
theorem ws_X7_its : Cond.selects RX7 yX7_its yX7_its ∈ TB := inTB 12 (by decide +kernel) rfl
theorem ws_X7_allBelieved : Cond.selects RX7 yX7_allBelieved yX7_allBelieved ∈ TB := inTB 13 (by decide +kernel) rfl
theorem ws_X7_believed : Cond.selects RX7 yX7_believed yX7_believed ∈ TB := inTB 14 (by decide +kernel) rfl
theorem ws_X7_adds : Cond.selects RX7 yX7_adds yX7_adds ∈ TB := inTB 15 (by decide +kernel) rfl
theorem ws_X7_puts : Cond.selects RX7 yX7_puts yX7_puts ∈ TB := inTB 16 (by decide +kernel) rfl
theorem ws_X7_isOne : Cond.selects RX7 yX7_isOne yX7_isOne ∈ TB := inTB 17 (by decide +kernel) rfl
theorem ws_X7_fades : Cond.selects RX7 yX7_fades yX7_fades ∈ TB := inTB 18 (by decide +kernel) rfl
theorem ws_X7_passes : Cond.selects RX7 yX7_passes yX7_passes ∈ TB := inTB 19 (by decide +kernel) rfl
theorem ws_X7_oneNight : Cond.selects RX7 yX7_oneNight yX7_oneNight ∈ TB := inTB 20 (by decide +kernel) rfl
theorem ws_X7_moveAll : Cond.selects RX7 yX7_moveAll yX7_moveAll ∈ TB := inTB 21 (by decide +kernel) rfl
theorem ws_X7_behind : Cond.selects RX7 yX7_behind yX7_behind ∈ TB := inTB 22 (by decide +kernel) rfl
theorem ws_X7_wordsOf : Cond.selects RX7 yX7_wordsOf yX7_wordsOf ∈ TB := inTB 23 (by decide +kernel) rfl
theorem ws_X7_advance : Cond.selects RX7 yX7_advance yX7_advance ∈ TB := inTB 24 (by decide +kernel) rfl
theorem ws_X7_byteAt : Cond.selects RX7 yX7_byteAt yX7_byteAt ∈ TB := inTB 25 (by decide +kernel) rfl
theorem ws_X7_wantItem : Cond.selects RX7 yX7_wantItem yX7_wantItem ∈ TB := inTB 26 (by decide +kernel) rfl
theorem ws_X7_kindHere : Cond.selects RX7 yX7_kindHere yX7_kindHere ∈ TB := inTB 27 (by decide +kernel) rfl
theorem ws_X7_isWord : Cond.selects RX7 yX7_isWord yX7_isWord ∈ TB := inTB 28 (by decide +kernel) rfl
theorem ws_X7_wantOne : Cond.selects RX7 yX7_wantOne yX7_wantOne ∈ TB := inTB 29 (by decide +kernel) rfl
theorem ws_X7_wantNumber : Cond.selects RX7 yX7_wantNumber yX7_wantNumber ∈ TB := inTB 30 (by decide +kernel) rfl
theorem ws_X7_wantJar : Cond.selects RX7 yX7_wantJar yX7_wantJar ∈ TB := inTB 31 (by decide +kernel) rfl
theorem ws_X7_isPart_ : Cond.selects RX7 yX7_isPart_ yX7_isPart_ ∈ TB := inTB 32 (by decide +kernel) rfl
theorem ws_X7_badSheet : Cond.selects RX7 yX7_badSheet yX7_badSheet ∈ TB := inTB 33 (by decide +kernel) rfl
theorem ws_X7_isSo : Cond.selects RX7 yX7_isSo yX7_isSo ∈ TB := inTB 34 (by decide +kernel) rfl
theorem ws_X7_sumOf : Cond.selects RX7 yX7_sumOf yX7_sumOf ∈ TB := inTB 35 (by decide +kernel) rfl
theorem iw_X1 : ∀ w ∈ u_ws RX1 TX1 5, w ∈ TB := fun w hw => (show ∀ w ∈ [u_lay RX1 TX1 0, u_lay RX1 TX1 1, u_lay RX1 TX1 2, u_lay RX1 TX1 3, u_lay RX1 TX1 4], w ∈ TB from List.forall_mem_cons.mpr ⟨wl_RX1_kind, List.forall_mem_cons.mpr ⟨wl_RX1_words, List.forall_mem_cons.mpr ⟨wl_RX1_black, List.forall_mem_cons.mpr ⟨wl_RX1_sun, List.forall_mem_cons.mpr ⟨wl_RX1_read, fun _ h => absurd h List.not_mem_nil⟩⟩⟩⟩⟩) w hw
theorem iw_X2 : ∀ w ∈ u_ws RX2 TX2 9, w ∈ TB := fun w hw => (show ∀ w ∈ [u_lay RX2 TX2 0, u_lay RX2 TX2 1, u_lay RX2 TX2 2, u_lay RX2 TX2 3, u_lay RX2 TX2 4, u_lay RX2 TX2 5, u_lay RX2 TX2 6, u_lay RX2 TX2 7, u_lay RX2 TX2 8], w ∈ TB from List.forall_mem_cons.mpr ⟨wl_RX2_night, List.forall_mem_cons.mpr ⟨wl_RX2_brothers, List.forall_mem_cons.mpr ⟨wl_RX2_buckets, List.forall_mem_cons.mpr ⟨wl_RX2_ink, List.forall_mem_cons.mpr ⟨wl_RX2_lamp, List.forall_mem_cons.mpr ⟨wl_RX2_pageCount, List.forall_mem_cons.mpr ⟨wl_RX2_dark, List.forall_mem_cons.mpr ⟨wl_RX2_pages, List.forall_mem_cons.mpr ⟨wl_RX2_sunTakes, fun _ h => absurd h List.not_mem_nil⟩⟩⟩⟩⟩⟩⟩⟩⟩) w hw
theorem iw_X3 : ∀ w ∈ u_ws RX3 TX3 3, w ∈ TB := fun w hw => (show ∀ w ∈ [u_lay RX3 TX3 0, u_lay RX3 TX3 1, u_lay RX3 TX3 2], w ∈ TB from List.forall_mem_cons.mpr ⟨wl_RX3_bits, List.forall_mem_cons.mpr ⟨wl_RX3_length, List.forall_mem_cons.mpr ⟨wl_RX3_numbers, fun _ h => absurd h List.not_mem_nil⟩⟩⟩) w hw
theorem iw_X4 : ∀ w ∈ u_ws RX4 TX4 6, w ∈ TB := fun w hw => (show ∀ w ∈ [u_lay RX4 TX4 0, u_lay RX4 TX4 1, u_lay RX4 TX4 2, u_lay RX4 TX4 3, u_lay RX4 TX4 4, u_lay RX4 TX4 5], w ∈ TB from List.forall_mem_cons.mpr ⟨wl_RX4_length, List.forall_mem_cons.mpr ⟨wl_RX4_token, List.forall_mem_cons.mpr ⟨wl_RX4_start, List.forall_mem_cons.mpr ⟨wl_RX4_next, List.forall_mem_cons.mpr ⟨wl_RX4_value, List.forall_mem_cons.mpr ⟨wl_RX4_bytes, fun _ h => absurd h List.not_mem_nil⟩⟩⟩⟩⟩⟩) w hw
theorem iw_X6 : ∀ w ∈ u_ws RX6 TX6 7, w ∈ TB := fun w hw => (show ∀ w ∈ [u_lay RX6 TX6 0, u_lay RX6 TX6 1, u_lay RX6 TX6 2, u_lay RX6 TX6 3, u_lay RX6 TX6 4, u_lay RX6 TX6 5, u_lay RX6 TX6 6], w ∈ TB from List.forall_mem_cons.mpr ⟨wl_RX6_findings, List.forall_mem_cons.mpr ⟨wl_RX6_here, List.forall_mem_cons.mpr ⟨wl_RX6_kept, List.forall_mem_cons.mpr ⟨wl_RX6_draft, List.forall_mem_cons.mpr ⟨wl_RX6_tape, List.forall_mem_cons.mpr ⟨wl_RX6_sheets, List.forall_mem_cons.mpr ⟨wl_RX6_isKept, fun _ h => absurd h List.not_mem_nil⟩⟩⟩⟩⟩⟩⟩) w hw
theorem iw_X7 : ∀ w ∈ u_ws RX7 TX7 19, w ∈ TB := fun w hw => (show ∀ w ∈ [u_lay RX7 TX7 0, u_lay RX7 TX7 1, u_lay RX7 TX7 2, u_lay RX7 TX7 3, u_lay RX7 TX7 4, u_lay RX7 TX7 5, u_lay RX7 TX7 6, u_lay RX7 TX7 7, u_lay RX7 TX7 8, u_lay RX7 TX7 9, u_lay RX7 TX7 10, u_lay RX7 TX7 11, u_lay RX7 TX7 12, u_lay RX7 TX7 13, u_lay RX7 TX7 14, u_lay RX7 TX7 15, u_lay RX7 TX7 16, u_lay RX7 TX7 17, u_lay RX7 TX7 18], w ∈ TB from List.forall_mem_cons.mpr ⟨wl_RX7_row, List.forall_mem_cons.mpr ⟨wl_RX7_found, List.forall_mem_cons.mpr ⟨wl_RX7_tried, List.forall_mem_cons.mpr ⟨wl_RX7_before1, List.forall_mem_cons.mpr ⟨wl_RX7_tape, List.forall_mem_cons.mpr ⟨wl_RX7_tapeMany, List.forall_mem_cons.mpr ⟨wl_RX7_sort, List.forall_mem_cons.mpr ⟨wl_RX7_begins, List.forall_mem_cons.mpr ⟨wl_RX7_tokenEnds, List.forall_mem_cons.mpr ⟨wl_RX7_word, List.forall_mem_cons.mpr ⟨wl_RX7_value, List.forall_mem_cons.mpr ⟨wl_RX7_good, List.forall_mem_cons.mpr ⟨wl_RX7_bitsOf, List.forall_mem_cons.mpr ⟨wl_RX7_sizeOf, List.forall_mem_cons.mpr ⟨wl_RX7_sheets, List.forall_mem_cons.mpr ⟨wl_RX7_lent, List.forall_mem_cons.mpr ⟨wl_RX7_image, List.forall_mem_cons.mpr ⟨wl_RX7_before, List.forall_mem_cons.mpr ⟨wl_RX7_isKept, fun _ h => absurd h List.not_mem_nil⟩⟩⟩⟩⟩⟩⟩⟩⟩⟩⟩⟩⟩⟩⟩⟩⟩⟩⟩) w hw
end
section
/-! numbers: an int of the machine is J of an integer -/
def J (x : Int) : Int32 := Int32.ofInt x
def JL (x : Int) : Int64 := Int64.ofInt x
theorem J_add (x y : Int) : J x + J y = J (x + y) := (Int32.ofInt_add x y).symm
theorem J_sub (x y : Int) : J x - J y = J (x - y) := (Int32.ofInt_sub x y).symm
theorem J_mul (x y : Int) : J x * J y = J (x * y) := (Int32.ofInt_mul x y).symm
theorem J_t {x : Int} (h : -2147483648 ≤ x ∧ x ≤ 2147483647) : (J x).toInt = x := Int32.toInt_ofInt_of_le (by omega) (by omega)
theorem J_of (v : Int32) : v = J v.toInt := (Int32.ofInt_toInt v).symm
theorem J_rg (v : Int32) : -2147483648 ≤ v.toInt ∧ v.toInt ≤ 2147483647 := by
  have h1 := v.toInt_lt
  have h2 := v.le_toInt
  omega
theorem J_lt {x y : Int} (hx : -2147483648 ≤ x ∧ x ≤ 2147483647) (hy : -2147483648 ≤ y ∧ y ≤ 2147483647) : J x < J y ↔ x < y := by
  rw [Int32.lt_iff_toInt_lt, J_t hx, J_t hy]
theorem J_le {x y : Int} (hx : -2147483648 ≤ x ∧ x ≤ 2147483647) (hy : -2147483648 ≤ y ∧ y ≤ 2147483647) : J x ≤ J y ↔ x ≤ y := by
  rw [Int32.le_iff_toInt_le, J_t hx, J_t hy]
theorem J_eq {x y : Int} (hx : -2147483648 ≤ x ∧ x ≤ 2147483647) (hy : -2147483648 ≤ y ∧ y ≤ 2147483647) : J x = J y ↔ x = y := by
  rw [← Int32.toInt_inj, J_t hx, J_t hy]
theorem J_0 : J 0 = 0 := rfl
theorem J_cl {x : Int} {i : Nat} (hi : x = (i : Int)) (h : i < 2147483648) : (J x).toNatClampNeg = i := by
  subst hi
  rw [← Int32.toNat_toInt, J_t (by omega)]
  omega
theorem J_in {x : Int} {i n : Nat} (hi : x = (i : Int)) (h : i < n) (hn : n < 2147483648) : vp_in (J x) n := by
  subst hi
  refine vp_in_iff.mpr ?_
  rw [J_t (by omega)]
  omega
theorem J_div {x y : Int} (hx : 0 ≤ x ∧ x ≤ 2147483647) (hy : 0 < y ∧ y ≤ 2147483647) : J x / J y = J (x / y) := by
  have h0 : 0 ≤ x / y := Int.ediv_nonneg hx.1 (by omega)
  have h1 : x / y ≤ x := Int.ediv_le_self y hx.1
  apply Int32.toInt_inj.mp
  rw [Int32.toInt_div_of_ne_right _ _ (fun h => ?_), J_t (by omega), J_t (by omega), J_t (by omega), Int.tdiv_eq_ediv_of_nonneg hx.1]
  have := congrArg Int32.toInt h
  rw [J_t (by omega)] at this
  have h2 : (-1 : Int32).toInt = -1 := by decide
  omega
theorem J_rem {x y : Int} (hx : 0 ≤ x ∧ x ≤ 2147483647) (hy : 0 < y ∧ y ≤ 2147483647) : J x - J x / J y * J y = J (x % y) := by
  rw [J_div hx hy, J_mul, J_sub, Int.emod_def, Int.mul_comm]
theorem J_ne0 {y : Int} (hy : 0 < y ∧ y ≤ 2147483647) : ¬ J y = 0 := by
  intro h
  have := (J_eq (x := y) (y := 0) (by omega) (by omega)).mp h
  omega
/-- a truth as a number -/
def bI (P : Prop) [Decidable P] : Int := if P then 1 else 0
theorem bI_t {P : Prop} [Decidable P] (h : P) : bI P = 1 := if_pos h
theorem bI_f {P : Prop} [Decidable P] (h : ¬ P) : bI P = 0 := if_neg h
theorem bI_rg {P : Prop} [Decidable P] : bI P = 1 ∧ P ∨ bI P = 0 ∧ ¬ P := by
  by_cases h : P
  · exact Or.inl ⟨if_pos h, h⟩
  · exact Or.inr ⟨if_neg h, h⟩
/-! the state: blocks of integers -/
abbrev St : Type := Nat → Nat → Int
def upR (R : Nat → Int) (j : Nat) (v : Int) : Nat → Int := fun q => if q = j then v else R q
def setB (S : St) (b : Nat) (R : Nat → Int) : St := fun q => if q = b then R else S q
def up (S : St) (b j : Nat) (v : Int) : St := setB S b (upR (S b) j v)
theorem setB_at (S : St) (b : Nat) (R : Nat → Int) : setB S b R b = R := if_pos rfl
theorem setB_ne (S : St) {b c : Nat} (R : Nat → Int) (h : c ≠ b) : setB S b R c = S c := if_neg h
theorem setB_setB (S : St) (b : Nat) (R R' : Nat → Int) : setB (setB S b R) b R' = setB S b R' := by
  funext q
  by_cases h : q = b <;> simp [setB, h]
theorem setB_self (S : St) (b : Nat) : setB S b (S b) = S := by
  funext q
  by_cases h : q = b <;> simp [setB, h]
theorem upR_at (R : Nat → Int) (j : Nat) (v : Int) : upR R j v j = v := if_pos rfl
theorem upR_ne (R : Nat → Int) {j q : Nat} (v : Int) (h : q ≠ j) : upR R j v q = R q := if_neg h
theorem up_at (S : St) (b j : Nat) (v : Int) : up S b j v b j = v := by simp [up, setB, upR]
theorem up_nb (S : St) {b j c : Nat} (v : Int) (h : c ≠ b) : up S b j v c = S c := by simp [up, setB, h]
theorem up_b (S : St) (b j : Nat) (v : Int) : up S b j v b = upR (S b) j v := by simp [up, setB]
theorem up_nj (S : St) {b j c i : Nat} (v : Int) (h : i ≠ j) : up S b j v c i = S c i := by
  by_cases hc : c = b <;> simp [up, setB, upR, hc, h]
theorem up_up (S : St) (b j : Nat) (v w : Int) : up (up S b j v) b j w = up S b j w := by
  funext c i
  by_cases hc : c = b <;> by_cases hi : i = j <;> simp [up, setB, upR, hc, hi]
/-! the cells -/
abbrev XT : Type := va_G × (ClassId × ClassId × ClassId × ClassId) × (Nat → Nat) × (Nat → Nat)
def bd (n : Nat) (f : Nat → Int) : Nat → Int32 := fun j => J (if j < n then f j else 0)
def bdL (n : Nat) (f : Nat → Int) : Nat → Int64 := fun j => JL (if j < n then f j else 0)
abbrev arI (X : XT) (n : Nat) (f : Nat → Int) : va_E := .inl (X.2.1.1, n, .inl (bd n f))
abbrev arL (X : XT) (n : Nat) (f : Nat → Int) : va_E := .inl (X.2.1.2.1, n, .inr (.inl (bdL n f)))
abbrev arP (X : XT) (n : Nat) (f : Nat → Nat) : va_E := .inl (X.2.1.2.2.1, n, .inr (.inr (.inr (.inr (fun j => some (f j))))))
abbrev arS (X : XT) (n : Nat) (f : Nat → Nat) : va_E := .inl (X.2.1.2.2.2, n, .inr (.inr (.inr (.inr (fun j => some (f j))))))
abbrev tyX (X : XT) : List (ClassId × FieldType) := [(X.2.1.1, .int), (X.2.1.2.1, .long), (X.2.1.2.2.1, .object RX1), (X.2.1.2.2.2, .object RX3)]
abbrev pgF (S : St) (k i : Nat) : List Value := [.int (J (S k (18 + 5 * i))), .int (J (S k (19 + 5 * i))), .int (J (S k (20 + 5 * i))), .int (J (S k (21 + 5 * i))), .int (J (S k (22 + 5 * i)))]
abbrev scF (a : Nat → Nat) (S : St) (k : Nat) : List Value := [.int (J (S k 0)), .int (J (S k 1)), .int (J (S k 2)), .int (J (S k 3)), .int (J (S k 4)), .int (J (S k 5)), .ref (a (8 + k)), .ref (a (11 + k)), .ref (a (14 + k))]
abbrev shF (a : Nat → Nat) (S : St) (i : Nat) : List Value := [.int (J (S 6 i)), .int (J (S 7 i)), .ref (a (21 + i))]
abbrev taF (a : Nat → Nat) (S : St) : List Value := [.int (J (S 5 0)), .int (J (S 5 1)), .int (J (S 5 2)), .int (J (S 5 3)), .int (J (S 5 4)), .ref (a 7)]
abbrev inF (a : Nat → Nat) (S : St) : List Value := [.ref (a 1), .ref (a 2), .ref (a 3), .ref (a 4), .ref (a 5), .ref (a 6), .int (J (S 11 0))]
abbrev moF (a : Nat → Nat) (S : St) : List Value := [.ref (a 50), .ref (a 51), .ref (a 52), .ref (a 53), .ref (a 54), .int (J (S 25 0)), .int (J (S 25 1)), .int (J (S 25 2)), .int (J (S 25 3)), .long (JL (S 32 0)), .int (J (S 25 4)), .int (J (S 25 5)), .ref (a 55), .ref (a 56), .ref (a 57), .ref (a 58), .ref (a 59), .ref (a 60), .int (J (S 25 6))]
def cellAt (X : XT) (a : Nat → Nat) (S : St) (c : Nat) : va_E :=
  if c < 25 then
    (if c < 8 then (if c = 0 then .inr (4, inF a S) else if c = 1 then arI X 7 (S 3) else if c < 5 then .inr (1, scF a S (c - 2)) else if c = 5 then .inr (3, taF a S) else if c = 6 then arS X 4 (fun i => a (17 + i)) else arI X 120 (S 4))
     else if c < 17 then (if c < 11 then arI X 12 (fun j => S (c - 8) (6 + j)) else if c < 14 then arP X 8 (fun i => a (25 + 8 * (c - 11) + i)) else arI X 8 (S (c - 6)))
     else if c < 21 then .inr (2, shF a S (c - 17)) else arL X 40 (S (c - 9)))
  else if c < 49 then .inr (0, pgF S ((c - 25) / 8) ((c - 25) % 8))
  else if c < 55 then (if c = 49 then .inr (5, moF a S) else if c = 50 then arI X 58 (S 20) else if c = 51 then arI X 7 (S 21) else if c = 52 then arI X 58 (S 22) else if c = 53 then arI X 58 (S 23) else arI X 120 (S 24))
  else (if c = 55 then arI X 4 (S 26) else if c = 56 then arI X 4 (S 27) else if c = 57 then arL X 160 (S 30) else if c = 58 then arL X 40 (S 31) else if c = 59 then arI X 58 (S 28) else arI X 58 (S 29))
def ws (X : XT) (a : Nat → Nat) (S : St) : va_W := (List.range 61).map (fun c => (a c, cellAt X a S c))
theorem ws_at {X : XT} {a : Nat → Nat} {S : St} {c : Nat} {E : va_E} (h : c < 61) (e : cellAt X a S c = E) : (ws X a S)[c]? = some (a c, E) := by
  subst e
  simp [ws, List.getElem?_map, List.getElem?_range h]
theorem ce_sc (X : XT) (a : Nat → Nat) (S : St) {k : Nat} (hk : k < 3) : cellAt X a S (2 + k) = .inr (1, scF a S k) := by
  rcases (show k = 0 ∨ k = 1 ∨ k = 2 by omega) with rfl | rfl | rfl <;> rfl
theorem ce_dk (X : XT) (a : Nat → Nat) (S : St) {k : Nat} (hk : k < 3) : cellAt X a S (8 + k) = arI X 12 (fun j => S k (6 + j)) := by
  rcases (show k = 0 ∨ k = 1 ∨ k = 2 by omega) with rfl | rfl | rfl <;> rfl
theorem ce_pa (X : XT) (a : Nat → Nat) (S : St) {k : Nat} (hk : k < 3) : cellAt X a S (11 + k) = arP X 8 (fun i => a (25 + 8 * k + i)) := by
  rcases (show k = 0 ∨ k = 1 ∨ k = 2 by omega) with rfl | rfl | rfl <;> rfl
theorem ce_su (X : XT) (a : Nat → Nat) (S : St) {k : Nat} (hk : k < 3) : cellAt X a S (14 + k) = arI X 8 (S (8 + k)) := by
  rcases (show k = 0 ∨ k = 1 ∨ k = 2 by omega) with rfl | rfl | rfl <;> rfl
theorem ce_sh (X : XT) (a : Nat → Nat) (S : St) {i : Nat} (hi : i < 4) : cellAt X a S (17 + i) = .inr (2, shF a S i) := by
  rcases (show i = 0 ∨ i = 1 ∨ i = 2 ∨ i = 3 by omega) with rfl | rfl | rfl | rfl <;> rfl
theorem ce_nu (X : XT) (a : Nat → Nat) (S : St) {i : Nat} (hi : i < 4) : cellAt X a S (21 + i) = arL X 40 (S (12 + i)) := by
  rcases (show i = 0 ∨ i = 1 ∨ i = 2 ∨ i = 3 by omega) with rfl | rfl | rfl | rfl <;> rfl
theorem ce_pg (X : XT) (a : Nat → Nat) (S : St) {k i : Nat} (hk : k < 3) (hi : i < 8) : cellAt X a S (25 + 8 * k + i) = .inr (0, pgF S k i) := by
  unfold cellAt
  rw [if_neg (by omega), if_pos (by omega), show (25 + 8 * k + i - 25) / 8 = k by omega, show (25 + 8 * k + i - 25) % 8 = i by omega]
/-- which cell shows a place of the state, and how many places a block has -/
def own (b j : Nat) : Nat :=
  if b < 3 then (if j < 6 then 2 + b else if j < 18 then 8 + b else 25 + 8 * b + (j - 18) / 5)
  else if b = 3 then 1 else if b = 4 then 7 else if b = 5 then 5 else if b < 8 then 17 + j else if b < 11 then 6 + b else if b = 11 then 0 else if b < 16 then 9 + b
  else if b = 20 then 50 else if b = 21 then 51 else if b = 22 then 52 else if b = 23 then 53 else if b = 24 then 54 else if b = 25 then 49 else if b = 26 then 55 else if b = 27 then 56
  else if b = 28 then 59 else if b = 29 then 60 else if b = 30 then 57 else if b = 31 then 58 else if b = 32 then 49 else 61
def lim (b : Nat) : Nat :=
  if b < 3 then 58 else if b = 3 then 7 else if b = 4 then 120 else if b = 5 then 5 else if b < 8 then 4 else if b < 11 then 8 else if b = 11 then 1 else if b < 16 then 40
  else if b = 20 then 58 else if b = 21 then 7 else if b = 22 then 58 else if b = 23 then 58 else if b = 24 then 120 else if b = 25 then 7 else if b = 26 then 4 else if b = 27 then 4
  else if b = 28 then 58 else if b = 29 then 58 else if b = 30 then 160 else if b = 31 then 40 else if b = 32 then 1 else 0
theorem bd_cg {n : Nat} {f g : Nat → Int} (h : ∀ j, j < n → f j = g j) : bd n f = bd n g := by
  funext j
  by_cases hj : j < n
  · simp only [bd, if_pos hj, h j hj]
  · simp only [bd, if_neg hj]
theorem bdL_cg {n : Nat} {f g : Nat → Int} (h : ∀ j, j < n → f j = g j) : bdL n f = bdL n g := by
  funext j
  by_cases hj : j < n
  · simp only [bdL, if_pos hj, h j hj]
  · simp only [bdL, if_neg hj]
theorem arI_cg {X : XT} {n : Nat} {f g : Nat → Int} (h : ∀ j, j < n → f j = g j) : arI X n f = arI X n g := by
  show (Sum.inl _ : va_E) = _
  rw [bd_cg h]
theorem arL_cg {X : XT} {n : Nat} {f g : Nat → Int} (h : ∀ j, j < n → f j = g j) : arL X n f = arL X n g := by
  show (Sum.inl _ : va_E) = _
  rw [bdL_cg h]
theorem ow_sc {k j : Nat} (hk : k < 3) (hj : j < 6) : own k j = 2 + k := by unfold own; rw [if_pos hk, if_pos hj]
theorem ow_dk {k j : Nat} (hk : k < 3) (hj : j < 12) : own k (6 + j) = 8 + k := by unfold own; rw [if_pos hk, if_neg (by omega), if_pos (by omega)]
theorem ow_pg {k i j : Nat} (hk : k < 3) (h1 : 18 + 5 * i ≤ j) (h2 : j < 23 + 5 * i) : own k j = 25 + 8 * k + i := by unfold own; rw [if_pos hk, if_neg (by omega), if_neg (by omega)]; omega
theorem ow_su {k j : Nat} (hk : k < 3) : own (8 + k) j = 14 + k := by
  rcases (show k = 0 ∨ k = 1 ∨ k = 2 by omega) with rfl | rfl | rfl <;> rfl
theorem ow_nu {k j : Nat} (hk : k < 4) : own (12 + k) j = 21 + k := by
  rcases (show k = 0 ∨ k = 1 ∨ k = 2 ∨ k = 3 by omega) with rfl | rfl | rfl | rfl <;> rfl
theorem li_sc {k : Nat} (hk : k < 3) : lim k = 58 := by unfold lim; rw [if_pos hk]
theorem li_su {k : Nat} (hk : k < 3) : lim (8 + k) = 8 := by
  rcases (show k = 0 ∨ k = 1 ∨ k = 2 by omega) with rfl | rfl | rfl <;> rfl
theorem li_nu {k : Nat} (hk : k < 4) : lim (12 + k) = 40 := by
  rcases (show k = 0 ∨ k = 1 ∨ k = 2 ∨ k = 3 by omega) with rfl | rfl | rfl | rfl <;> rfl
theorem ce_cs {P : Nat → Prop} (h0 : P 0) (h1 : P 1) (h2 : ∀ k, k < 3 → P (2 + k)) (h5 : P 5) (h6 : P 6) (h7 : P 7) (h8 : ∀ k, k < 3 → P (8 + k)) (h11 : ∀ k, k < 3 → P (11 + k)) (h14 : ∀ k, k < 3 → P (14 + k)) (h17 : ∀ k, k < 4 → P (17 + k)) (h21 : ∀ k, k < 4 → P (21 + k)) (h25 : ∀ k i, k < 3 → i < 8 → P (25 + 8 * k + i)) (h49 : ∀ k, k < 12 → P (49 + k)) {c : Nat} (hc : c < 61) : P c := by
  by_cases q : c < 25
  · rcases (show c = 0 ∨ c = 1 ∨ c = 2 + (c - 2) ∧ c - 2 < 3 ∨ c = 5 ∨ c = 6 ∨ c = 7 ∨ c = 8 + (c - 8) ∧ 8 ≤ c ∧ c < 11 ∨ c = 11 + (c - 11) ∧ 11 ≤ c ∧ c < 14 ∨ c = 14 + (c - 14) ∧ 14 ≤ c ∧ c < 17 ∨ c = 17 + (c - 17) ∧ 17 ≤ c ∧ c < 21 ∨ c = 21 + (c - 21) ∧ 21 ≤ c by omega) with rfl | rfl | ⟨e, z⟩ | rfl | rfl | rfl | ⟨e, z, z2⟩ | ⟨e, z, z2⟩ | ⟨e, z, z2⟩ | ⟨e, z, z2⟩ | ⟨e, z⟩
    · exact h0
    · exact h1
    · rw [e]; exact h2 _ z
    · exact h5
    · exact h6
    · exact h7
    · rw [e]; exact h8 _ (by omega)
    · rw [e]; exact h11 _ (by omega)
    · rw [e]; exact h14 _ (by omega)
    · rw [e]; exact h17 _ (by omega)
    · rw [e]; exact h21 _ (by omega)
  · by_cases q2 : c < 49
    · have e : c = 25 + 8 * ((c - 25) / 8) + (c - 25) % 8 := by omega
      rw [e]; exact h25 _ _ (by omega) (by omega)
    · have e : c = 49 + (c - 49) := by omega
      rw [e]; exact h49 _ (by omega)
theorem lt12 {P : Nat → Prop} (h0 : P 0) (h1 : P 1) (h2 : P 2) (h3 : P 3) (h4 : P 4) (h5 : P 5) (h6 : P 6) (h7 : P 7) (h8 : P 8) (h9 : P 9) (h10 : P 10) (h11 : P 11) {k : Nat} (hk : k < 12) : P k := by
  rcases (show k = 0 ∨ k = 1 ∨ k = 2 ∨ k = 3 ∨ k = 4 ∨ k = 5 ∨ k = 6 ∨ k = 7 ∨ k = 8 ∨ k = 9 ∨ k = 10 ∨ k = 11 by omega) with rfl | rfl | rfl | rfl | rfl | rfl | rfl | rfl | rfl | rfl | rfl | rfl <;> assumption
theorem cell_cg {X : XT} {a : Nat → Nat} {S S' : St} {c : Nat} (hc : c < 61) (h : ∀ b j, j < lim b → own b j = c → S b j = S' b j) : cellAt X a S c = cellAt X a S' c := by
  revert h
  refine ce_cs (P := fun c => (∀ b j, j < lim b → own b j = c → S b j = S' b j) → cellAt X a S c = cellAt X a S' c) ?_ ?_ ?_ ?_ ?_ ?_ ?_ ?_ ?_ ?_ ?_ ?_ ?_ hc
  · intro h
    show (.inr (4, inF a S) : va_E) = .inr (4, inF a S')
    rw [inF, inF, h 11 0 (by decide) rfl]
  · intro h
    exact arI_cg (f := S 3) (g := S' 3) (fun j hj => h 3 j hj rfl)
  · intro k hk h
    rw [ce_sc X a S hk, ce_sc X a S' hk]
    have hh : ∀ j, j < 6 → S k j = S' k j := fun j hj => h k j (by rw [li_sc hk]; omega) (ow_sc hk hj)
    rw [scF, scF, hh 0 (by decide), hh 1 (by decide), hh 2 (by decide), hh 3 (by decide), hh 4 (by decide), hh 5 (by decide)]
  · intro h
    show (.inr (3, taF a S) : va_E) = .inr (3, taF a S')
    rw [taF, taF, h 5 0 (by decide) rfl, h 5 1 (by decide) rfl, h 5 2 (by decide) rfl, h 5 3 (by decide) rfl, h 5 4 (by decide) rfl]
  · intro h; rfl
  · intro h
    exact arI_cg (f := S 4) (g := S' 4) (fun j hj => h 4 j hj rfl)
  · intro k hk h
    rw [ce_dk X a S hk, ce_dk X a S' hk]
    exact arI_cg (fun j hj => h k (6 + j) (by rw [li_sc hk]; omega) (ow_dk hk hj))
  · intro k hk h
    rw [ce_pa X a S hk, ce_pa X a S' hk]
  · intro k hk h
    rw [ce_su X a S hk, ce_su X a S' hk]
    exact arI_cg (fun j hj => h _ j (by rw [li_su hk]; exact hj) (ow_su hk))
  · intro k hk h
    rw [ce_sh X a S hk, ce_sh X a S' hk]
    rw [shF, shF, h 6 k hk rfl, h 7 k hk rfl]
  · intro k hk h
    rw [ce_nu X a S hk, ce_nu X a S' hk]
    exact arL_cg (fun j hj => h _ j (by rw [li_nu hk]; exact hj) (ow_nu hk))
  · intro k i hk hi h
    rw [ce_pg X a S hk hi, ce_pg X a S' hk hi]
    have hh : ∀ j, 18 + 5 * i ≤ j → j < 23 + 5 * i → S k j = S' k j := fun j h1 h2 => h k j (by rw [li_sc hk]; omega) (ow_pg hk h1 h2)
    rw [pgF, pgF, hh (18 + 5 * i) (by omega) (by omega), hh (19 + 5 * i) (by omega) (by omega), hh (20 + 5 * i) (by omega) (by omega), hh (21 + 5 * i) (by omega) (by omega), hh (22 + 5 * i) (by omega) (by omega)]
  · intro k hk
    refine lt12 (P := fun k => (∀ b j, j < lim b → own b j = 49 + k → S b j = S' b j) → cellAt X a S (49 + k) = cellAt X a S' (49 + k)) ?_ ?_ ?_ ?_ ?_ ?_ ?_ ?_ ?_ ?_ ?_ ?_ hk
    · intro h
      show (.inr (5, moF a S) : va_E) = .inr (5, moF a S')
      rw [moF, moF, h 25 0 (by decide) rfl, h 25 1 (by decide) rfl, h 25 2 (by decide) rfl, h 25 3 (by decide) rfl, h 25 4 (by decide) rfl, h 25 5 (by decide) rfl, h 25 6 (by decide) rfl, h 32 0 (by decide) rfl]
    · intro h; exact arI_cg (f := S 20) (g := S' 20) (fun j hj => h 20 j hj rfl)
    · intro h; exact arI_cg (f := S 21) (g := S' 21) (fun j hj => h 21 j hj rfl)
    · intro h; exact arI_cg (f := S 22) (g := S' 22) (fun j hj => h 22 j hj rfl)
    · intro h; exact arI_cg (f := S 23) (g := S' 23) (fun j hj => h 23 j hj rfl)
    · intro h; exact arI_cg (f := S 24) (g := S' 24) (fun j hj => h 24 j hj rfl)
    · intro h; exact arI_cg (f := S 26) (g := S' 26) (fun j hj => h 26 j hj rfl)
    · intro h; exact arI_cg (f := S 27) (g := S' 27) (fun j hj => h 27 j hj rfl)
    · intro h; exact arL_cg (f := S 30) (g := S' 30) (fun j hj => h 30 j hj rfl)
    · intro h; exact arL_cg (f := S 31) (g := S' 31) (fun j hj => h 31 j hj rfl)
    · intro h; exact arI_cg (f := S 28) (g := S' 28) (fun j hj => h 28 j hj rfl)
    · intro h; exact arI_cg (f := S 29) (g := S' 29) (fun j hj => h 29 j hj rfl)
theorem ws_cg {X : XT} {a : Nat → Nat} {S S' : St} (h : ∀ b j, j < lim b → S b j = S' b j) : ws X a S = ws X a S' := by
  refine List.map_congr_left (fun c hc => ?_)
  rw [cell_cg (List.mem_range.mp hc) (fun b j hj _ => h b j hj)]
theorem ws_up {X : XT} {a : Nat → Nat} {S : St} {c b j : Nat} {v : Int} {E : va_E} (hc : c < 61) (ho : own b j = c) (hE : cellAt X a (up S b j v) c = E) : (ws X a S).set c (a c, E) = ws X a (up S b j v) := by
  refine List.ext_getElem? (fun i => ?_)
  rw [List.getElem?_set]
  by_cases hi : i < 61
  · by_cases e : c = i
    · subst e
      rw [if_pos rfl, if_pos (by simp [ws]; omega), ws_at hc hE]
    · rw [if_neg e, ws_at hi rfl, ws_at hi rfl, cell_cg (S := S) (S' := up S b j v) hi (fun b' j' _ h => ?_)]
      by_cases hb : b' = b
      · subst hb
        rw [up_nj S v (fun z => e (by rw [← ho, ← z, h]))]
      · rw [up_nb S v hb]
  · have h1 : (ws X a S)[i]? = none := by simp [ws]; omega
    have h2 : (ws X a (up S b j v))[i]? = none := by simp [ws]; omega
    rw [if_neg (by omega), h1, h2]
theorem ws_cp {X : XT} {a : Nat → Nat} {S S' : St} {c : Nat} {E : va_E} (hc : c < 61) (ho : ∀ b j, j < lim b → own b j ≠ c → S' b j = S b j) (hE : cellAt X a S' c = E) : (ws X a S).set c (a c, E) = ws X a S' := by
  refine List.ext_getElem? (fun i => ?_)
  rw [List.getElem?_set]
  by_cases hi : i < 61
  · by_cases e : c = i
    · subst e
      rw [if_pos rfl, if_pos (by simp [ws]; omega), ws_at hc hE]
    · rw [if_neg e, ws_at hi rfl, ws_at hi rfl, cell_cg (S := S) (S' := S') hi (fun b' j' hl h => (ho b' j' hl (fun z => e (by rw [← z, h]))).symm)]
  · have h1 : (ws X a S)[i]? = none := by simp [ws]; omega
    have h2 : (ws X a S')[i]? = none := by simp [ws]; omega
    rw [if_neg (by omega), h1, h2]
end
section
def sKey : List (String × Nat × String) := [(RX0, 25, "page"), (RX0, 15, "deed"), (RX0, 17, "letter"), (RX0, 19, "treaty"), (RX0, 21, "will"), (RX0, 23, "verse"), (RX5, 42, "dark"), (RX5, 47, "brothers"), (RX5, 52, "ink"), (RX5, 54, "lamp"), (RX5, 75, "sun")]
def sLen : List Nat := [4, 4, 6, 6, 4, 5, 4, 8, 3, 4, 3]
def sByt : List (List Int32) := [[112, 97, 103, 101], [100, 101, 101, 100], [108, 101, 116, 116, 101, 114], [116, 114, 101, 97, 116, 121], [119, 105, 108, 108], [118, 101, 114, 115, 101], [100, 97, 114, 107], [98, 114, 111, 116, 104, 101, 114, 115], [105, 110, 107], [108, 97, 109, 112], [115, 117, 110]]
/-- what stays: of the machine's tables -/
def KV (X : XT) (U : State) : Prop := va_K X.1 vwCl (tyX X) U ∧ va_Nw (.methodLinkNest RX0 9 yX6_isWithin RX6) U ∧ va_Nw (.methodLinkNest RX4 60 yX6_isWithin RX6) U ∧ ∀ (i : Nat) (q : String × Nat × String), sKey[i]? = some q → vk_R q.1 q.2.1 q.2.2 (X.2.2.1 i) U
/-- what stays: of old cells -/
def KH (X : XT) (B : Nat) (U : State) (H : Heap) : Prop := vk_S 11 sLen sByt X.2.2.1 X.2.2.2 (fun q => B ≤ q) U H ∧ va_Z RJ0 "COMPACT_STRINGS" "Z" (.int 1) (fun q => B ≤ q) U H ∧ va_Zq RJ3 "SIOOBE_FORMATTER" "Ljava/util/function/BiFunction;" (fun q => B ≤ q) U H
theorem KV.warm {X : XT} {s U : State} (hW : s.WarmedH U.vm) (h : KV X s) : KV X U := ⟨va_K.moved hW.alike h.1, va_Nw.warmM hW h.2.1, va_Nw.warmM hW h.2.2.1, fun i q hq => vk_R.warm hW (h.2.2.2 i q hq)⟩
theorem KV.same {X : XT} {u U : State} (hv : U.vm = u.vm) (h : KV X u) : KV X U := ⟨va_K.moved (u := u) (U := U) (by rw [hv]; exact Vm.Alike.refl u.vm) h.1, va_Nw.same rfl hv.symm h.2.1, va_Nw.same rfl hv.symm h.2.2.1, fun i q hq => vk_R.same hv (h.2.2.2 i q hq)⟩
theorem KH.go {X : XT} {B : Nat} {s U : State} {H0 H : Heap} (hvm : s.vm.Alike U.vm) (hq : ∀ q : Nat, q < H0.size → ¬ B ≤ q → H[q]? = H0[q]?) (h : KH X B s H0) : KH X B U H := ⟨(vk_S.moved hvm h.1).kept hq, (va_Z.moved hvm h.2.1).kept hq, (va_Zq.moved hvm h.2.2).kept hq⟩
def IW (X : XT) (a : Nat → Nat) (B : Nat) (S : St) (U : State) : Prop := va_P X.1 vwCl (ws X a S) U.heap ∧ va_D (fun q => B ≤ q) (ws X a S) ∧ KV X U ∧ KH X B U U.heap
def IS (X : XT) (a : Nat → Nat) (B : Nat) (s : State) (S : St) (H : Heap) (locs : List Loc) : Prop := va_P X.1 vwCl (ws X a S) H ∧ va_D (fun q => B ≤ q) (ws X a S) ∧ va_S (fun q => B ≤ q) s.heap H locs
theorem IS.cg {X : XT} {a : Nat → Nat} {B : Nat} {s : State} {S S' : St} {H : Heap} {locs : List Loc} (h : IS X a B s S H locs) (e : ∀ b j, j < lim b → S b j = S' b j) : IS X a B s S' H locs := by
  unfold IS at h ⊢
  rw [← ws_cg e]
  exact h
def Cx (p : Program) (c : Code) (cc : ByteArray) (nL : Nat) (s : State) (m : MethodId) (args : Array Value) (own : String) (X : XT) (B : Nat) : Prop := p.tables.exec = Jvm.exec ∧ c.code = cc ∧ c.maxLocals = nL ∧ s.vm.findClass own = some m.cls ∧ (∀ w ∈ TB, w.before args s = true) ∧ KV X s ∧ KH X B s s.heap
abbrev wsOf (y : MethodName) (cc : ByteArray) (n : Nat) (ret : Option FieldType) : List Cond := Cond.code y cc n ret :: TB
def rmD (d : Nat) : Room := { frames := d, cells := 0, slots := 0, locals := 30 * d }
def Qi (X : XT) (a : Nat → Nat) (B : Nat) (r : Int) (S' : St) : Array Value → State → Outcome → State → Prop := va_Qi (fun (r' : Int32) (_ : Unit) => r' = J r) (fun _ t => IW X a B S' t) (fun q => B ≤ q)
def Ql (X : XT) (a : Nat → Nat) (B : Nat) (r : Int) (S' : St) : Array Value → State → Outcome → State → Prop := va_Ql (fun (r' : Int64) (_ : Unit) => r' = JL r) (fun _ t => IW X a B S' t) (fun q => B ≤ q)
def Qv (X : XT) (a : Nat → Nat) (B : Nat) (S' : St) : Array Value → State → Outcome → State → Prop := va_Qv (fun (_ : Unit) => True) (fun _ t => IW X a B S' t) (fun q => B ≤ q)
def Qr (X : XT) (a : Nat → Nat) (B : Nat) (r : Nat) (S' : St) : Array Value → State → Outcome → State → Prop := va_Qr (fun (_ : Unit) => True) (fun _ ra t => ra = r ∧ IW X a B S' t) (fun q => B ≤ q)
/-- a method's contract, from the state S -/
def CT (l : Launch) (X : XT) (a : Nat → Nat) (B d : Nat) (y : MethodName) (cc : ByteArray) (n : Nat) (ret : Option FieldType) (av : List Value) (S : St) (Qc : Array Value → State → Outcome → State → Prop) : Prop := Met l y (wsOf y cc n ret) (rmD d) (va_Pc av (IW X a B S)) Qc 0 0 (fun q => B ≤ q)
theorem IW.blind {X : XT} {a : Nat → Nat} {B : Nat} {S : St} {av : List Value} : FrameBlind (va_Pc av (IW X a B S)) := fun a' U g mk h => ⟨h.1, h.2.1, h.2.2.1, KV.same (u := U) rfl h.2.2.2.1, KH.go (s := U) (U := U.calling g mk a') (Vm.Alike.refl U.vm) (fun _ _ _ => rfl) h.2.2.2.2⟩
theorem CT.of {l : Launch} {X : XT} {a : Nat → Nat} {B d : Nat} {y : MethodName} {cc : ByteArray} {n : Nat} {ret : Option FieldType} {av : List Value} {S : St} {Qc : Array Value → State → Outcome → State → Prop} (hy : plainFor y = true) (hn : (lg_sl av).length ≤ n)
    (body : ∀ (p : Program) (e : Env) (s : State) (m : MethodId) (below : List Frame) (meth : Method) (c : Code) (ls : Array Slot), Cx p c cc n s m av.toArray y.cls X B → meth.sig.returnType = ret → meth.locks = false → IS X a B s S s.heap [] → lv_has ls n (lv_args 0 av) → W p l e (rmD d) s m av.toArray below meth c s.heap [] 0 0 (MQ below Qc av.toArray s 0 0 (fun q => B ≤ q)) (F0 m 0 ls [])) : CT l X a B d y cc n ret av S Qc := by
  refine va_MetF (cc := cc) (maxL := n) (ret := ret) hy rfl ?_
  intro p e s m args below meth c s₁ Bd hml hv
  obtain ⟨rfl, hP, hD, hKV, hKH⟩ := hv
  have hts := atoms_spec (ws := wsOf y cc n ret) Bd.pre
  have hl := lv_entry av hn
  rw [lg_entry_eq]
  exact body p e s m below meth c _ ⟨Bd.exec, Bd.bytes, hml, findClass_of_methodNamed Bd.named, fun w hw => hts w (List.mem_cons_of_mem _ hw), hKV, hKH⟩ Bd.returns Bd.notSynchronized ⟨hP, hD, va_S.rf⟩ hl
theorem gTB {y : MethodName} {cy : ByteArray} {ny : Nat} {rety : Option FieldType} (h : Cond.code y cy ny rety ∈ TB) : GoodIn TB (wsOf y cy ny rety) := fun w hw => by
  rcases List.mem_cons.mp hw with rfl | hw
  · exact ⟨h, good_of_word (tb_good h)⟩
  · exact ⟨hw, good_of_word (tb_good hw)⟩
/-- what the tables say of a method that is called: of an object, of a class -/
def EV (y : MethodName) (C : String) (cy : ByteArray) (ny : Nat) (rety : Option FieldType) (n : Nat) : Prop := Cond.instanceMethod y ∈ TB ∧ Cond.selects C y y ∈ TB ∧ Cond.initialized y.cls ∈ TB ∧ Cond.code y cy ny rety ∈ TB ∧ (y.cls ≠ "java/lang/invoke/MethodHandle" ∧ y.cls ≠ "java/lang/invoke/VarHandle" ∧ (parseMethodDescriptor y.desc).map (fun d => d.parameters.length) = some n)
def ES (y : MethodName) (cy : ByteArray) (ny : Nat) (rety : Option FieldType) (n : Nat) : Prop := Cond.static y ∈ TB ∧ Cond.initialized y.cls ∈ TB ∧ Cond.code y cy ny rety ∈ TB ∧ (y.cls ≠ "java/lang/invoke/MethodHandle" ∧ y.cls ≠ "java/lang/invoke/VarHandle" ∧ (parseMethodDescriptor y.desc).map (fun d => d.parameters.length) = some n)
def ownC (b j : Nat) : Nat := own b j
section RW
variable {p : Program} {l : Launch} {e : Env} {R : Room} {s : State} {m : MethodId} {args : Array Value} {below : List Frame} {meth : Method} {c : Code} {H : Heap} {locs : List Loc} {cells slots : Nat} {Q : State → Prop}
variable {cc : ByteArray} {nL pc : Nat} {own : String} {ls : Array Slot} {rest st : List Value} {X : XT} {a : Nat → Nat} {B : Nat} {S S' : St} {lv : List (Nat × Value)}
theorem IS.iw (hC : Cx p c cc nL s m args own X B) (hI : IS X a B s S H locs) {U : State} (hU : U.heap = H) (hW : s.WarmedH U.vm) : IW X a B S U := by
  obtain ⟨hP, hD, hS⟩ := hI
  exact ⟨by rw [hU]; exact hP, hD, KV.warm hW hC.2.2.2.2.2.1, KH.go hW.alike (fun q h1 h2 => by rw [hU]; exact hS.2.1 q h1 h2) hC.2.2.2.2.2.2⟩
theorem r_iret (hC : Cx p c cc nL s m args own X B) (hr : meth.sig.returnType = some .int) (hlk : meth.locks = false) (hI : IS X a B s S H locs) {x r : Int} (er : x = r) (eS : S = S') (hdg : decode cc pc = .ok (.ireturn, 1)) : W p l e R s m args below meth c H locs cells slots (MQ below (Qi X a B r S') args s cells slots (fun q => B ≤ q)) (F0 m pc ls [.int (J x)]) := by
  subst er; subst eS
  exact W.iret (v := J x) hC.1 hC.2.1 hr (fun t ht hW => ⟨⟨J x, (), rfl, rfl, hI.iw hC ht hW⟩, hI.2.2.F ht⟩) hI.2.2.2.2 hdg hlk
theorem r_zret (hC : Cx p c cc nL s m args own X B) (hr : meth.sig.returnType = some .boolean) (hlk : meth.locks = false) (hI : IS X a B s S H locs) {x r : Int} (hx : x = 0 ∨ x = 1) (er : x = r) (eS : S = S') (hdg : decode cc pc = .ok (.ireturn, 1)) : W p l e R s m args below meth c H locs cells slots (MQ below (Qi X a B r S') args s cells slots (fun q => B ≤ q)) (F0 m pc ls [.int (J x)]) := by
  subst er; subst eS
  exact W.zret (v := J x) hC.1 hC.2.1 hr (by rcases hx with rfl | rfl <;> rfl) (fun t ht hW => ⟨⟨J x, (), rfl, rfl, hI.iw hC ht hW⟩, hI.2.2.F ht⟩) hI.2.2.2.2 hdg hlk
theorem r_vret (hC : Cx p c cc nL s m args own X B) (hr : meth.sig.returnType = none) (hlk : meth.locks = false) (hI : IS X a B s S H locs) (eS : S = S') (hdg : decode cc pc = .ok (.return_, 1)) : W p l e R s m args below meth c H locs cells slots (MQ below (Qv X a B S') args s cells slots (fun q => B ≤ q)) (F0 m pc ls []) := by
  subst eS
  exact W.vret hC.1 hC.2.1 hr (fun t ht hW => ⟨⟨(), rfl, trivial, hI.iw hC ht hW⟩, hI.2.2.F ht⟩) hI.2.2.2.2 hdg hlk
theorem r_lret (hC : Cx p c cc nL s m args own X B) (hr : meth.sig.returnType = some .long) (hlk : meth.locks = false) (hI : IS X a B s S H locs) {x r : Int} (er : x = r) (eS : S = S') (hdg : decode cc pc = .ok (.lreturn, 1)) : W p l e R s m args below meth c H locs cells slots (MQ below (Ql X a B r S') args s cells slots (fun q => B ≤ q)) (F0 m pc ls [.long (JL x)]) := by
  subst er; subst eS
  exact W.lret (v := JL x) hC.1 hC.2.1 hr (fun t ht hW => ⟨⟨JL x, (), rfl, rfl, hI.iw hC ht hW⟩, hI.2.2.F ht⟩) hI.2.2.2.2 hdg hlk
theorem r_iconst (hC : Cx p c cc nL s m args own X B) {n : Int} (hdg : decode cc pc = .ok (.iconst n, 1)) (k : W p l e R s m args below meth c H locs cells slots Q (F0 m (pc + 1) ls (.int (J n) :: rest))) : W p l e R s m args below meth c H locs cells slots Q (F0 m pc ls rest) := lv_iconst hC.1 hC.2.1 hdg rfl k
theorem r_bipush (hC : Cx p c cc nL s m args own X B) {n : Int} (hv : (Int8.ofInt n).toInt32 = J n) (hdg : decode cc pc = .ok (.bipush n, 2)) (k : W p l e R s m args below meth c H locs cells slots Q (F0 m (pc + 2) ls (.int (J n) :: rest))) : W p l e R s m args below meth c H locs cells slots Q (F0 m pc ls rest) := lv_bipush hC.1 hC.2.1 hdg hv k
theorem r_sipush (hC : Cx p c cc nL s m args own X B) {n : Int} (hv : (Int16.ofInt n).toInt32 = J n) (hdg : decode cc pc = .ok (.sipush n, 3)) (k : W p l e R s m args below meth c H locs cells slots Q (F0 m (pc + 3) ls (.int (J n) :: rest))) : W p l e R s m args below meth c H locs cells slots Q (F0 m pc ls rest) := lv_sipush hC.1 hC.2.1 hdg hv k
theorem r_lconst (hC : Cx p c cc nL s m args own X B) {n : Fin 2} {x : Int} (hv : Int64.ofNat (n : Nat) = JL x) (hdg : decode cc pc = .ok (.lconst n, 1)) (k : W p l e R s m args below meth c H locs cells slots Q (F0 m (pc + 1) ls (.long (JL x) :: rest))) : W p l e R s m args below meth c H locs cells slots Q (F0 m pc ls rest) := lv_lconst hC.1 hC.2.1 hdg hv k
theorem r_ldc (hC : Cx p c cc nL s m args own X B) {index : Nat} {v : Int32} (hw : Cond.constant own index v ∈ TB) {x : Int} (hv : v = J x) (hdg : decode cc pc = .ok (.ldc index, 2)) (k : W p l e R s m args below meth c H locs cells slots Q (F0 m (pc + 2) ls (.int (J x) :: rest))) : W p l e R s m args below meth c H locs cells slots Q (F0 m pc ls rest) := by subst hv; exact lv_ldc hC.1 hC.2.1 hC.2.2.2.1 (hC.2.2.2.2.1 _ hw) hdg k
theorem r_ldc2 (hC : Cx p c cc nL s m args own X B) {index : Nat} {v : Int64} (hw : Cond.constantLong own index v ∈ TB) {x : Int} (hv : v = JL x) (hdg : decode cc pc = .ok (.ldc2_w index, 3)) (k : W p l e R s m args below meth c H locs cells slots Q (F0 m (pc + 3) ls (.long (JL x) :: rest))) : W p l e R s m args below meth c H locs cells slots Q (F0 m pc ls rest) := by subst hv; exact lv_ldc2 hC.1 hC.2.1 hC.2.2.2.1 (hC.2.2.2.2.1 _ hw) hdg k
theorem r_iload_n (hC : Cx p c cc nL s m args own X B) {q : Fin 4} {x : Int32} (hl : lv_has ls nL lv) (hdg : decode cc pc = .ok (.iload_n q, 1)) (i : Nat) (hi : lv[i]? = some ((q : Nat), .int x)) (k : W p l e R s m args below meth c H locs cells slots Q (F0 m (pc + 1) ls (.int x :: rest))) : W p l e R s m args below meth c H locs cells slots Q (F0 m pc ls rest) := lv_iload_n hC.1 hC.2.1 hdg rfl (lv_at hl i hi) k
theorem r_iload (hC : Cx p c cc nL s m args own X B) {q : Nat} {x : Int32} (hl : lv_has ls nL lv) (hdg : decode cc pc = .ok (.iload q, 2)) (i : Nat) (hi : lv[i]? = some (q, .int x)) (k : W p l e R s m args below meth c H locs cells slots Q (F0 m (pc + 2) ls (.int x :: rest))) : W p l e R s m args below meth c H locs cells slots Q (F0 m pc ls rest) := lv_iload hC.1 hC.2.1 hdg (lv_at hl i hi) k
theorem r_lload_n (hC : Cx p c cc nL s m args own X B) {q : Fin 4} {x : Int64} (hl : lv_has ls nL lv) (hdg : decode cc pc = .ok (.lload_n q, 1)) (i : Nat) (hi : lv[i]? = some ((q : Nat), .long x)) (k : W p l e R s m args below meth c H locs cells slots Q (F0 m (pc + 1) ls (.long x :: rest))) : W p l e R s m args below meth c H locs cells slots Q (F0 m pc ls rest) := lv_lload_n hC.1 hC.2.1 hdg rfl (lv_at hl i hi) k
theorem r_lload (hC : Cx p c cc nL s m args own X B) {q : Nat} {x : Int64} (hl : lv_has ls nL lv) (hdg : decode cc pc = .ok (.lload q, 2)) (i : Nat) (hi : lv[i]? = some (q, .long x)) (k : W p l e R s m args below meth c H locs cells slots Q (F0 m (pc + 2) ls (.long x :: rest))) : W p l e R s m args below meth c H locs cells slots Q (F0 m pc ls rest) := lv_lload hC.1 hC.2.1 hdg (lv_at hl i hi) k
theorem r_aload_n (hC : Cx p c cc nL s m args own X B) {q : Fin 4} {x : Nat} (hl : lv_has ls nL lv) (hdg : decode cc pc = .ok (.aload_n q, 1)) (i : Nat) (hi : lv[i]? = some ((q : Nat), .ref x)) (k : W p l e R s m args below meth c H locs cells slots Q (F0 m (pc + 1) ls (.ref x :: rest))) : W p l e R s m args below meth c H locs cells slots Q (F0 m pc ls rest) := lv_aload_n hC.1 hC.2.1 hdg rfl (lv_at hl i hi) k
theorem r_aload (hC : Cx p c cc nL s m args own X B) {q : Nat} {x : Nat} (hl : lv_has ls nL lv) (hdg : decode cc pc = .ok (.aload q, 2)) (i : Nat) (hi : lv[i]? = some (q, .ref x)) (k : W p l e R s m args below meth c H locs cells slots Q (F0 m (pc + 2) ls (.ref x :: rest))) : W p l e R s m args below meth c H locs cells slots Q (F0 m pc ls rest) := lv_aload hC.1 hC.2.1 hdg (lv_at hl i hi) k
theorem r_istore_n (hC : Cx p c cc nL s m args own X B) {q : Fin 4} {x : Int32} {lv1 : List (Nat × Value)} (hl : lv_has ls nL lv) (hdg : decode cc pc = .ok (.istore_n q, 1)) (i : Nat) (hi : (q : Nat) = i) (hn : i < nL) (hf : (i, Value.int x) :: lv.filter (fun q => !(q.1 == i) && !(q.1 + 1 == i && q.2.category == 2)) = lv1) (k : ∀ ls1 : Array Slot, lv_has ls1 nL lv1 → W p l e R s m args below meth c H locs cells slots Q (F0 m (pc + 1) ls1 rest)) : W p l e R s m args below meth c H locs cells slots Q (F0 m pc ls (.int x :: rest)) := lv_istore_n hC.1 hC.2.1 hdg hi hl hn hf k
theorem r_istore (hC : Cx p c cc nL s m args own X B) {x : Int32} {lv1 : List (Nat × Value)} {i : Nat} (hl : lv_has ls nL lv) (hdg : decode cc pc = .ok (.istore i, 2)) (hn : i < nL) (hf : (i, Value.int x) :: lv.filter (fun q => !(q.1 == i) && !(q.1 + 1 == i && q.2.category == 2)) = lv1) (k : ∀ ls1 : Array Slot, lv_has ls1 nL lv1 → W p l e R s m args below meth c H locs cells slots Q (F0 m (pc + 2) ls1 rest)) : W p l e R s m args below meth c H locs cells slots Q (F0 m pc ls (.int x :: rest)) := lv_istore hC.1 hC.2.1 hdg hl hn hf k
theorem r_astore_n (hC : Cx p c cc nL s m args own X B) {q : Fin 4} {x : Nat} {lv1 : List (Nat × Value)} (hl : lv_has ls nL lv) (hdg : decode cc pc = .ok (.astore_n q, 1)) (i : Nat) (hi : (q : Nat) = i) (hn : i < nL) (hf : (i, Value.ref x) :: lv.filter (fun q => !(q.1 == i) && !(q.1 + 1 == i && q.2.category == 2)) = lv1) (k : ∀ ls1 : Array Slot, lv_has ls1 nL lv1 → W p l e R s m args below meth c H locs cells slots Q (F0 m (pc + 1) ls1 rest)) : W p l e R s m args below meth c H locs cells slots Q (F0 m pc ls (.ref x :: rest)) := lv_astore_n hC.1 hC.2.1 hdg hi hl hn hf k
theorem r_astore (hC : Cx p c cc nL s m args own X B) {x : Nat} {lv1 : List (Nat × Value)} {i : Nat} (hl : lv_has ls nL lv) (hdg : decode cc pc = .ok (.astore i, 2)) (hn : i < nL) (hf : (i, Value.ref x) :: lv.filter (fun q => !(q.1 == i) && !(q.1 + 1 == i && q.2.category == 2)) = lv1) (k : ∀ ls1 : Array Slot, lv_has ls1 nL lv1 → W p l e R s m args below meth c H locs cells slots Q (F0 m (pc + 2) ls1 rest)) : W p l e R s m args below meth c H locs cells slots Q (F0 m pc ls (.ref x :: rest)) := lv_astore hC.1 hC.2.1 hdg hl hn hf k
theorem r_lstore_n (hC : Cx p c cc nL s m args own X B) {q : Fin 4} {x : Int64} {lv1 : List (Nat × Value)} (hl : lv_has ls nL lv) (hdg : decode cc pc = .ok (.lstore_n q, 1)) (i : Nat) (hi : (q : Nat) = i) (hn : i + 1 < nL) (hf : (i, Value.long x) :: lv.filter (fun q => !(q.1 == i) && (!(q.1 == i + 1) && !(q.1 + 1 == i && q.2.category == 2))) = lv1) (k : ∀ ls1 : Array Slot, lv_has ls1 nL lv1 → W p l e R s m args below meth c H locs cells slots Q (F0 m (pc + 1) ls1 rest)) : W p l e R s m args below meth c H locs cells slots Q (F0 m pc ls (.long x :: rest)) := lv_lstore_n hC.1 hC.2.1 hdg hi hl hn hf k
theorem r_lstore (hC : Cx p c cc nL s m args own X B) {x : Int64} {lv1 : List (Nat × Value)} {i : Nat} (hl : lv_has ls nL lv) (hdg : decode cc pc = .ok (.lstore i, 2)) (hn : i + 1 < nL) (hf : (i, Value.long x) :: lv.filter (fun q => !(q.1 == i) && (!(q.1 == i + 1) && !(q.1 + 1 == i && q.2.category == 2))) = lv1) (k : ∀ ls1 : Array Slot, lv_has ls1 nL lv1 → W p l e R s m args below meth c H locs cells slots Q (F0 m (pc + 2) ls1 rest)) : W p l e R s m args below meth c H locs cells slots Q (F0 m pc ls (.long x :: rest)) := lv_lstore hC.1 hC.2.1 hdg hl hn hf k
theorem r_iinc (hC : Cx p c cc nL s m args own X B) {n x : Int} {lv1 : List (Nat × Value)} {i : Nat} (hl : lv_has ls nL lv) (hdg : decode cc pc = .ok (.iinc i n, 3)) (j : Nat) (hj : lv[j]? = some (i, .int (J x))) (hn : i < nL) (hf : (i, Value.int (J (x + n))) :: lv.filter (fun q => !(q.1 == i) && !(q.1 + 1 == i && q.2.category == 2)) = lv1) (k : ∀ ls1 : Array Slot, lv_has ls1 nL lv1 → W p l e R s m args below meth c H locs cells slots Q (F0 m (pc + 3) ls1 rest)) : W p l e R s m args below meth c H locs cells slots Q (F0 m pc ls rest) := lv_iinc hC.1 hC.2.1 hdg hl hj (J_add x n) hn hf k
theorem r_iadd (hC : Cx p c cc nL s m args own X B) {x y : Int} (hdg : decode cc pc = .ok (.iadd, 1)) (k : W p l e R s m args below meth c H locs cells slots Q (F0 m (pc + 1) ls (.int (J (x + y)) :: rest))) : W p l e R s m args below meth c H locs cells slots Q (F0 m pc ls (.int (J y) :: .int (J x) :: rest)) := lv_iadd hC.1 hC.2.1 hdg (by rw [J_add]; exact k)
theorem r_isub (hC : Cx p c cc nL s m args own X B) {x y : Int} (hdg : decode cc pc = .ok (.isub, 1)) (k : W p l e R s m args below meth c H locs cells slots Q (F0 m (pc + 1) ls (.int (J (x - y)) :: rest))) : W p l e R s m args below meth c H locs cells slots Q (F0 m pc ls (.int (J y) :: .int (J x) :: rest)) := lv_isub hC.1 hC.2.1 hdg (by rw [J_sub]; exact k)
theorem r_imul (hC : Cx p c cc nL s m args own X B) {x y : Int} (hdg : decode cc pc = .ok (.imul, 1)) (k : W p l e R s m args below meth c H locs cells slots Q (F0 m (pc + 1) ls (.int (J (x * y)) :: rest))) : W p l e R s m args below meth c H locs cells slots Q (F0 m pc ls (.int (J y) :: .int (J x) :: rest)) := lv_imul hC.1 hC.2.1 hdg (by rw [J_mul]; exact k)
theorem r_idiv (hC : Cx p c cc nL s m args own X B) {x y : Int} (hx : 0 ≤ x ∧ x ≤ 2147483647) (hy : 0 < y ∧ y ≤ 2147483647) (hdg : decode cc pc = .ok (.idiv, 1)) (k : W p l e R s m args below meth c H locs cells slots Q (F0 m (pc + 1) ls (.int (J (x / y)) :: rest))) : W p l e R s m args below meth c H locs cells slots Q (F0 m pc ls (.int (J y) :: .int (J x) :: rest)) := lv_idiv hC.1 hC.2.1 hdg (J_ne0 hy) (by rw [J_div hx hy]; exact k)
theorem r_irem (hC : Cx p c cc nL s m args own X B) {x y : Int} (hx : 0 ≤ x ∧ x ≤ 2147483647) (hy : 0 < y ∧ y ≤ 2147483647) (hdg : decode cc pc = .ok (.irem, 1)) (k : W p l e R s m args below meth c H locs cells slots Q (F0 m (pc + 1) ls (.int (J (x % y)) :: rest))) : W p l e R s m args below meth c H locs cells slots Q (F0 m pc ls (.int (J y) :: .int (J x) :: rest)) := lv_irem hC.1 hC.2.1 hdg (J_ne0 hy) (by rw [J_rem hx hy]; exact k)
theorem r_as (hC : Cx p c cc nL s m args own X B) {x y : Int} (hxy : x = y) (k : W p l e R s m args below meth c H locs cells slots Q (F0 m pc ls (.int (J y) :: rest))) : W p l e R s m args below meth c H locs cells slots Q (F0 m pc ls (.int (J x) :: rest)) := by subst hxy; exact k
theorem r_pop (hC : Cx p c cc nL s m args own X B) {v : Value} (hv : v.category = 1) (hdg : decode cc pc = .ok (.pop, 1)) (k : W p l e R s m args below meth c H locs cells slots Q (F0 m (pc + 1) ls rest)) : W p l e R s m args below meth c H locs cells slots Q (F0 m pc ls (v :: rest)) := lv_pop hC.1 hC.2.1 hdg hv k
theorem r_dup (hC : Cx p c cc nL s m args own X B) {v : Value} (hv : v.category = 1) (hdg : decode cc pc = .ok (.dup, 1)) (k : W p l e R s m args below meth c H locs cells slots Q (F0 m (pc + 1) ls (v :: v :: rest))) : W p l e R s m args below meth c H locs cells slots Q (F0 m pc ls (v :: rest)) := lv_dup hC.1 hC.2.1 hdg hv k
theorem r_dup2 (hC : Cx p c cc nL s m args own X B) {u v : Value} (hu : u.category = 1) (hv : v.category = 1) (hdg : decode cc pc = .ok (.dup2, 1)) (k : W p l e R s m args below meth c H locs cells slots Q (F0 m (pc + 1) ls (v :: u :: v :: u :: rest))) : W p l e R s m args below meth c H locs cells slots Q (F0 m pc ls (v :: u :: rest)) := lv_dup2_11 hC.1 hC.2.1 hdg hv hu k
theorem r_goto (hC : Cx p c cc nL s m args own X B) {off : Int} {tgt : Nat} (hdg : decode cc pc = .ok (.goto off, 3)) (ht : (pc : Int) + off = (tgt : Int)) (k : W p l e R s m args below meth c H locs cells slots Q (F0 m tgt ls rest)) : W p l e R s m args below meth c H locs cells slots Q (F0 m pc ls rest) := lv_goto hC.1 hC.2.1 hdg ht k
theorem r_icmp_eq (hC : Cx p c cc nL s m args own X B) {x y off : Int} {tgt : Nat} (hx : -2147483648 ≤ x ∧ x ≤ 2147483647) (hy : -2147483648 ≤ y ∧ y ≤ 2147483647) (hdg : decode cc pc = .ok (.if_icmp .eq off, 3)) (ht : (pc : Int) + off = (tgt : Int)) (kt : x = y → W p l e R s m args below meth c H locs cells slots Q (F0 m tgt ls rest)) (kf : x ≠ y → W p l e R s m args below meth c H locs cells slots Q (F0 m (pc + 3) ls rest)) : W p l e R s m args below meth c H locs cells slots Q (F0 m pc ls (.int (J y) :: .int (J x) :: rest)) := lv_icmp_eq hC.1 hC.2.1 hdg ht (fun h => kt (by simp only [ge_iff_le, gt_iff_lt, ne_eq, J_eq hx hy, J_lt hx hy, J_le hx hy, J_lt hy hx, J_le hy hx] at h ⊢; omega)) (fun h => kf (by simp only [ge_iff_le, gt_iff_lt, ne_eq, J_eq hx hy, J_lt hx hy, J_le hx hy, J_lt hy hx, J_le hy hx] at h ⊢; omega))
theorem r_icmp_ne (hC : Cx p c cc nL s m args own X B) {x y off : Int} {tgt : Nat} (hx : -2147483648 ≤ x ∧ x ≤ 2147483647) (hy : -2147483648 ≤ y ∧ y ≤ 2147483647) (hdg : decode cc pc = .ok (.if_icmp .ne off, 3)) (ht : (pc : Int) + off = (tgt : Int)) (kt : x ≠ y → W p l e R s m args below meth c H locs cells slots Q (F0 m tgt ls rest)) (kf : x = y → W p l e R s m args below meth c H locs cells slots Q (F0 m (pc + 3) ls rest)) : W p l e R s m args below meth c H locs cells slots Q (F0 m pc ls (.int (J y) :: .int (J x) :: rest)) := lv_icmp_ne hC.1 hC.2.1 hdg ht (fun h => kt (by simp only [ge_iff_le, gt_iff_lt, ne_eq, J_eq hx hy, J_lt hx hy, J_le hx hy, J_lt hy hx, J_le hy hx] at h ⊢; omega)) (fun h => kf (by simp only [ge_iff_le, gt_iff_lt, ne_eq, J_eq hx hy, J_lt hx hy, J_le hx hy, J_lt hy hx, J_le hy hx] at h ⊢; omega))
theorem r_icmp_lt (hC : Cx p c cc nL s m args own X B) {x y off : Int} {tgt : Nat} (hx : -2147483648 ≤ x ∧ x ≤ 2147483647) (hy : -2147483648 ≤ y ∧ y ≤ 2147483647) (hdg : decode cc pc = .ok (.if_icmp .lt off, 3)) (ht : (pc : Int) + off = (tgt : Int)) (kt : x < y → W p l e R s m args below meth c H locs cells slots Q (F0 m tgt ls rest)) (kf : y ≤ x → W p l e R s m args below meth c H locs cells slots Q (F0 m (pc + 3) ls rest)) : W p l e R s m args below meth c H locs cells slots Q (F0 m pc ls (.int (J y) :: .int (J x) :: rest)) := lv_icmp_lt hC.1 hC.2.1 hdg ht (fun h => kt (by simp only [ge_iff_le, gt_iff_lt, ne_eq, J_eq hx hy, J_lt hx hy, J_le hx hy, J_lt hy hx, J_le hy hx] at h ⊢; omega)) (fun h => kf (by simp only [ge_iff_le, gt_iff_lt, ne_eq, J_eq hx hy, J_lt hx hy, J_le hx hy, J_lt hy hx, J_le hy hx] at h ⊢; omega))
theorem r_icmp_ge (hC : Cx p c cc nL s m args own X B) {x y off : Int} {tgt : Nat} (hx : -2147483648 ≤ x ∧ x ≤ 2147483647) (hy : -2147483648 ≤ y ∧ y ≤ 2147483647) (hdg : decode cc pc = .ok (.if_icmp .ge off, 3)) (ht : (pc : Int) + off = (tgt : Int)) (kt : y ≤ x → W p l e R s m args below meth c H locs cells slots Q (F0 m tgt ls rest)) (kf : x < y → W p l e R s m args below meth c H locs cells slots Q (F0 m (pc + 3) ls rest)) : W p l e R s m args below meth c H locs cells slots Q (F0 m pc ls (.int (J y) :: .int (J x) :: rest)) := lv_icmp_ge hC.1 hC.2.1 hdg ht (fun h => kt (by simp only [ge_iff_le, gt_iff_lt, ne_eq, J_eq hx hy, J_lt hx hy, J_le hx hy, J_lt hy hx, J_le hy hx] at h ⊢; omega)) (fun h => kf (by simp only [ge_iff_le, gt_iff_lt, ne_eq, J_eq hx hy, J_lt hx hy, J_le hx hy, J_lt hy hx, J_le hy hx] at h ⊢; omega))
theorem r_icmp_gt (hC : Cx p c cc nL s m args own X B) {x y off : Int} {tgt : Nat} (hx : -2147483648 ≤ x ∧ x ≤ 2147483647) (hy : -2147483648 ≤ y ∧ y ≤ 2147483647) (hdg : decode cc pc = .ok (.if_icmp .gt off, 3)) (ht : (pc : Int) + off = (tgt : Int)) (kt : y < x → W p l e R s m args below meth c H locs cells slots Q (F0 m tgt ls rest)) (kf : x ≤ y → W p l e R s m args below meth c H locs cells slots Q (F0 m (pc + 3) ls rest)) : W p l e R s m args below meth c H locs cells slots Q (F0 m pc ls (.int (J y) :: .int (J x) :: rest)) := lv_icmp_gt hC.1 hC.2.1 hdg ht (fun h => kt (by simp only [ge_iff_le, gt_iff_lt, ne_eq, J_eq hx hy, J_lt hx hy, J_le hx hy, J_lt hy hx, J_le hy hx] at h ⊢; omega)) (fun h => kf (by simp only [ge_iff_le, gt_iff_lt, ne_eq, J_eq hx hy, J_lt hx hy, J_le hx hy, J_lt hy hx, J_le hy hx] at h ⊢; omega))
theorem r_icmp_le (hC : Cx p c cc nL s m args own X B) {x y off : Int} {tgt : Nat} (hx : -2147483648 ≤ x ∧ x ≤ 2147483647) (hy : -2147483648 ≤ y ∧ y ≤ 2147483647) (hdg : decode cc pc = .ok (.if_icmp .le off, 3)) (ht : (pc : Int) + off = (tgt : Int)) (kt : x ≤ y → W p l e R s m args below meth c H locs cells slots Q (F0 m tgt ls rest)) (kf : y < x → W p l e R s m args below meth c H locs cells slots Q (F0 m (pc + 3) ls rest)) : W p l e R s m args below meth c H locs cells slots Q (F0 m pc ls (.int (J y) :: .int (J x) :: rest)) := lv_icmp_le hC.1 hC.2.1 hdg ht (fun h => kt (by simp only [ge_iff_le, gt_iff_lt, ne_eq, J_eq hx hy, J_lt hx hy, J_le hx hy, J_lt hy hx, J_le hy hx] at h ⊢; omega)) (fun h => kf (by simp only [ge_iff_le, gt_iff_lt, ne_eq, J_eq hx hy, J_lt hx hy, J_le hx hy, J_lt hy hx, J_le hy hx] at h ⊢; omega))
theorem r_if_eq (hC : Cx p c cc nL s m args own X B) {x off : Int} {tgt : Nat} (hx : -2147483648 ≤ x ∧ x ≤ 2147483647) (hdg : decode cc pc = .ok (.ifCond .eq off, 3)) (ht : (pc : Int) + off = (tgt : Int)) (kt : x = 0 → W p l e R s m args below meth c H locs cells slots Q (F0 m tgt ls rest)) (kf : x ≠ 0 → W p l e R s m args below meth c H locs cells slots Q (F0 m (pc + 3) ls rest)) : W p l e R s m args below meth c H locs cells slots Q (F0 m pc ls (.int (J x) :: rest)) := by
  have hy : -2147483648 ≤ (0 : Int) ∧ (0 : Int) ≤ 2147483647 := by omega
  exact lv_if_eq hC.1 hC.2.1 hdg ht (fun h => kt (by rw [← J_0] at h; simp only [ge_iff_le, gt_iff_lt, ne_eq, J_eq hx hy, J_lt hx hy, J_le hx hy, J_lt hy hx, J_le hy hx] at h ⊢; omega)) (fun h => kf (by rw [← J_0] at h; simp only [ge_iff_le, gt_iff_lt, ne_eq, J_eq hx hy, J_lt hx hy, J_le hx hy, J_lt hy hx, J_le hy hx] at h ⊢; omega))
theorem r_if_ne (hC : Cx p c cc nL s m args own X B) {x off : Int} {tgt : Nat} (hx : -2147483648 ≤ x ∧ x ≤ 2147483647) (hdg : decode cc pc = .ok (.ifCond .ne off, 3)) (ht : (pc : Int) + off = (tgt : Int)) (kt : x ≠ 0 → W p l e R s m args below meth c H locs cells slots Q (F0 m tgt ls rest)) (kf : x = 0 → W p l e R s m args below meth c H locs cells slots Q (F0 m (pc + 3) ls rest)) : W p l e R s m args below meth c H locs cells slots Q (F0 m pc ls (.int (J x) :: rest)) := by
  have hy : -2147483648 ≤ (0 : Int) ∧ (0 : Int) ≤ 2147483647 := by omega
  exact lv_if_ne hC.1 hC.2.1 hdg ht (fun h => kt (by rw [← J_0] at h; simp only [ge_iff_le, gt_iff_lt, ne_eq, J_eq hx hy, J_lt hx hy, J_le hx hy, J_lt hy hx, J_le hy hx] at h ⊢; omega)) (fun h => kf (by rw [← J_0] at h; simp only [ge_iff_le, gt_iff_lt, ne_eq, J_eq hx hy, J_lt hx hy, J_le hx hy, J_lt hy hx, J_le hy hx] at h ⊢; omega))
theorem r_if_lt (hC : Cx p c cc nL s m args own X B) {x off : Int} {tgt : Nat} (hx : -2147483648 ≤ x ∧ x ≤ 2147483647) (hdg : decode cc pc = .ok (.ifCond .lt off, 3)) (ht : (pc : Int) + off = (tgt : Int)) (kt : x < 0 → W p l e R s m args below meth c H locs cells slots Q (F0 m tgt ls rest)) (kf : 0 ≤ x → W p l e R s m args below meth c H locs cells slots Q (F0 m (pc + 3) ls rest)) : W p l e R s m args below meth c H locs cells slots Q (F0 m pc ls (.int (J x) :: rest)) := by
  have hy : -2147483648 ≤ (0 : Int) ∧ (0 : Int) ≤ 2147483647 := by omega
  exact lv_if_lt hC.1 hC.2.1 hdg ht (fun h => kt (by rw [← J_0] at h; simp only [ge_iff_le, gt_iff_lt, ne_eq, J_eq hx hy, J_lt hx hy, J_le hx hy, J_lt hy hx, J_le hy hx] at h ⊢; omega)) (fun h => kf (by rw [← J_0] at h; simp only [ge_iff_le, gt_iff_lt, ne_eq, J_eq hx hy, J_lt hx hy, J_le hx hy, J_lt hy hx, J_le hy hx] at h ⊢; omega))
theorem r_if_ge (hC : Cx p c cc nL s m args own X B) {x off : Int} {tgt : Nat} (hx : -2147483648 ≤ x ∧ x ≤ 2147483647) (hdg : decode cc pc = .ok (.ifCond .ge off, 3)) (ht : (pc : Int) + off = (tgt : Int)) (kt : 0 ≤ x → W p l e R s m args below meth c H locs cells slots Q (F0 m tgt ls rest)) (kf : x < 0 → W p l e R s m args below meth c H locs cells slots Q (F0 m (pc + 3) ls rest)) : W p l e R s m args below meth c H locs cells slots Q (F0 m pc ls (.int (J x) :: rest)) := by
  have hy : -2147483648 ≤ (0 : Int) ∧ (0 : Int) ≤ 2147483647 := by omega
  exact lv_if_ge hC.1 hC.2.1 hdg ht (fun h => kt (by rw [← J_0] at h; simp only [ge_iff_le, gt_iff_lt, ne_eq, J_eq hx hy, J_lt hx hy, J_le hx hy, J_lt hy hx, J_le hy hx] at h ⊢; omega)) (fun h => kf (by rw [← J_0] at h; simp only [ge_iff_le, gt_iff_lt, ne_eq, J_eq hx hy, J_lt hx hy, J_le hx hy, J_lt hy hx, J_le hy hx] at h ⊢; omega))
theorem r_if_gt (hC : Cx p c cc nL s m args own X B) {x off : Int} {tgt : Nat} (hx : -2147483648 ≤ x ∧ x ≤ 2147483647) (hdg : decode cc pc = .ok (.ifCond .gt off, 3)) (ht : (pc : Int) + off = (tgt : Int)) (kt : 0 < x → W p l e R s m args below meth c H locs cells slots Q (F0 m tgt ls rest)) (kf : x ≤ 0 → W p l e R s m args below meth c H locs cells slots Q (F0 m (pc + 3) ls rest)) : W p l e R s m args below meth c H locs cells slots Q (F0 m pc ls (.int (J x) :: rest)) := by
  have hy : -2147483648 ≤ (0 : Int) ∧ (0 : Int) ≤ 2147483647 := by omega
  exact lv_if_gt hC.1 hC.2.1 hdg ht (fun h => kt (by rw [← J_0] at h; simp only [ge_iff_le, gt_iff_lt, ne_eq, J_eq hx hy, J_lt hx hy, J_le hx hy, J_lt hy hx, J_le hy hx] at h ⊢; omega)) (fun h => kf (by rw [← J_0] at h; simp only [ge_iff_le, gt_iff_lt, ne_eq, J_eq hx hy, J_lt hx hy, J_le hx hy, J_lt hy hx, J_le hy hx] at h ⊢; omega))
theorem r_if_le (hC : Cx p c cc nL s m args own X B) {x off : Int} {tgt : Nat} (hx : -2147483648 ≤ x ∧ x ≤ 2147483647) (hdg : decode cc pc = .ok (.ifCond .le off, 3)) (ht : (pc : Int) + off = (tgt : Int)) (kt : x ≤ 0 → W p l e R s m args below meth c H locs cells slots Q (F0 m tgt ls rest)) (kf : 0 < x → W p l e R s m args below meth c H locs cells slots Q (F0 m (pc + 3) ls rest)) : W p l e R s m args below meth c H locs cells slots Q (F0 m pc ls (.int (J x) :: rest)) := by
  have hy : -2147483648 ≤ (0 : Int) ∧ (0 : Int) ≤ 2147483647 := by omega
  exact lv_if_le hC.1 hC.2.1 hdg ht (fun h => kt (by rw [← J_0] at h; simp only [ge_iff_le, gt_iff_lt, ne_eq, J_eq hx hy, J_lt hx hy, J_le hx hy, J_lt hy hx, J_le hy hx] at h ⊢; omega)) (fun h => kf (by rw [← J_0] at h; simp only [ge_iff_le, gt_iff_lt, ne_eq, J_eq hx hy, J_lt hx hy, J_le hx hy, J_lt hy hx, J_le hy hx] at h ⊢; omega))
theorem r_b_eq (hC : Cx p c cc nL s m args own X B) {P : Prop} [Decidable P] {off : Int} {tgt : Nat} (hdg : decode cc pc = .ok (.ifCond .eq off, 3)) (ht : (pc : Int) + off = (tgt : Int)) (kt : ¬ P → W p l e R s m args below meth c H locs cells slots Q (F0 m tgt ls rest)) (kf : P → W p l e R s m args below meth c H locs cells slots Q (F0 m (pc + 3) ls rest)) : W p l e R s m args below meth c H locs cells slots Q (F0 m pc ls (.int (J (bI P)) :: rest)) := r_if_eq hC (by rcases bI_rg (P := P) with h | h <;> omega) hdg ht (fun h => kt (fun q => by rw [bI_t q] at h; omega)) (fun h => kf (by rcases bI_rg (P := P) with q | q; exact q.2; exact absurd q.1 h))
theorem r_b_ne (hC : Cx p c cc nL s m args own X B) {P : Prop} [Decidable P] {off : Int} {tgt : Nat} (hdg : decode cc pc = .ok (.ifCond .ne off, 3)) (ht : (pc : Int) + off = (tgt : Int)) (kt : P → W p l e R s m args below meth c H locs cells slots Q (F0 m tgt ls rest)) (kf : ¬ P → W p l e R s m args below meth c H locs cells slots Q (F0 m (pc + 3) ls rest)) : W p l e R s m args below meth c H locs cells slots Q (F0 m pc ls (.int (J (bI P)) :: rest)) := r_if_ne hC (by rcases bI_rg (P := P) with h | h <;> omega) hdg ht (fun h => kt (by rcases bI_rg (P := P) with q | q; exact q.2; exact absurd q.1 h)) (fun h => kf (fun q => by rw [bI_t q] at h; omega))
theorem r_tout (hC : Cx p c cc nL s m args own X B) {dflt lo hi : Int} {offs : Array Int} {len : Nat} {x : Int} {tgt : Nat} (hx : -2147483648 ≤ x ∧ x ≤ 2147483647) (hdg : decode cc pc = .ok (.tableswitch dflt lo hi offs, len)) (h : x < lo ∨ hi < x) (ht : (pc : Int) + dflt = (tgt : Int)) (k : W p l e R s m args below meth c H locs cells slots Q (F0 m tgt ls rest)) : W p l e R s m args below meth c H locs cells slots Q (F0 m pc ls (.int (J x) :: rest)) := lv_tableOut hC.1 hC.2.1 hdg (by rw [J_t hx]; exact h) ht k
theorem r_tin (hC : Cx p c cc nL s m args own X B) {dflt lo hi : Int} {offs : Array Int} {len : Nat} {x off : Int} {tgt : Nat} (v : Int) (hv : x = v) (hr : -2147483648 ≤ v ∧ v ≤ 2147483647) (hdg : decode cc pc = .ok (.tableswitch dflt lo hi offs, len)) (h1 : ¬ v < lo) (h2 : ¬ hi < v) (ho : offs[(v - lo).toNat]? = some off) (ht : (pc : Int) + off = (tgt : Int)) (k : W p l e R s m args below meth c H locs cells slots Q (F0 m tgt ls rest)) : W p l e R s m args below meth c H locs cells slots Q (F0 m pc ls (.int (J x) :: rest)) := by
  subst hv
  exact lv_tableIn hC.1 hC.2.1 hdg (by rw [J_t hr]; exact h1) (by rw [J_t hr]; exact h2) (by rw [J_t hr]; exact ho) ht k
theorem r_look (hC : Cx p c cc nL s m args own X B) {dflt : Int} {ps : Array (Int × Int)} {len : Nat} {x off : Int} {tgt : Nat} (hx : -2147483648 ≤ x ∧ x ≤ 2147483647) (hdg : decode cc pc = .ok (.lookupswitch dflt ps, len)) (hp : (ps.toList.zip (ps.toList.drop 1)).all (fun (a, next) => a.1 < next.1) = true) (ho : Op.lookupswitch.offset ps.toList dflt x = off) (ht : (pc : Int) + off = (tgt : Int)) (k : W p l e R s m args below meth c H locs cells slots Q (F0 m tgt ls rest)) : W p l e R s m args below meth c H locs cells slots Q (F0 m pc ls (.int (J x) :: rest)) := lv_lookup hC.1 hC.2.1 hdg hp (by rw [J_t hx]; exact ho) ht k
theorem r_rec (hC : Cx p c cc nL s m args own X B) (hI : IS X a B s S H locs) {cx ci : Nat} {fs : List Value} {q : vw_C} (h : cx < 61) (e : cellAt X a S cx = .inr (ci, fs)) (hq : vwCl[ci]? = some q) : ∃ cell : Cell, H[a cx]? = some cell ∧ cell.vm.isStatics = false ∧ s.vm.findClass q.1 = some cell.cls := va_recv hC.2.2.2.2.2.1.1 hI.1 hq (ws_at h e)
theorem r_get (hC : Cx p c cc nL s m args own X B) (hI : IS X a B s S H locs) {cx ci N index : Nat} {C : String} {T : u_T} {fs : List Value} (hin : ∀ w ∈ u_ws C T N, w ∈ TB) (hcl : vwCl[ci]? = some (C, T, N)) (hc : cx < 61) (hcell : cellAt X a S cx = .inr (ci, fs)) (f : Nat) (hf : f < N) (hlk : Cond.fieldLink own index C (T f).2.1 (T f).2.2.1 ∈ TB) (hdc : (T f).1 = C) {v : Value} (hv : fs[f]? = some v) (hdg : decode cc pc = .ok (.getfield index, 3)) (k : W p l e R s m args below meth c H locs cells slots Q (F0 m (pc + 3) ls (v :: rest))) : W p l e R s m args below meth c H locs cells slots Q (F0 m pc ls (.ref (a cx) :: rest)) := va_get hC.1 hC.2.1 hC.2.2.2.2.1 hin hC.2.2.2.1 hC.2.2.2.2.2.1.1 hI.1 cx (ws_at hc hcell) hcl f hf (hC.2.2.2.2.1 _ hlk) (fun x hx => by rw [hdc] at hx; exact hx) hv hdg k
theorem r_put (hC : Cx p c cc nL s m args own X B) (hI : IS X a B s S H locs) {cx ci N index : Nat} {C : String} {T : u_T} {fs : List Value} (hin : ∀ w ∈ u_ws C T N, w ∈ TB) {ty0 : Nat → FieldType} (hty : ∀ k, k < N → parseFieldDescriptor (T k).2.2.1 = some (ty0 k)) (hnm : ∀ a, a < N → ∀ b, b < N → a ≠ b → (T a).2.1 ≠ (T b).2.1) (hcl : vwCl[ci]? = some (C, T, N)) (hc : cx < 61) (hcell : cellAt X a S cx = .inr (ci, fs)) (f : Nat) (hf : f < N) (hlk : Cond.fieldLink own index C (T f).2.1 (T f).2.2.1 ∈ TB) (hdc : (T f).1 = C) (hfin : (T f).2.2.2 = false) {ty : FieldType} {v : Value} (hd : parseFieldDescriptor (T f).2.2.1 = some ty) (hn : narrow ty v = v) (hfit : fits ty v = true) (hlen : f < fs.length) {b j : Nat} {z : Int} (ho : ownC b j = cx) (hE : cellAt X a (up S b j z) cx = .inr (ci, fs.set f v)) (hdg : decode cc pc = .ok (.putfield index, 3)) (k : ∀ (H1 : Heap) (locs1 : List Loc), IS X a B s (up S b j z) H1 locs1 → W p l e R s m args below meth c H1 locs1 cells slots Q (F0 m (pc + 3) ls rest)) : W p l e R s m args below meth c H locs cells slots Q (F0 m pc ls (v :: .ref (a cx) :: rest)) := va_put hC.1 hC.2.1 hC.2.2.2.2.1 hin ty0 hty hnm hC.2.2.2.1 hC.2.2.2.2.2.1.1 hI.1 hI.2.1 hI.2.2 cx (ws_at hc hcell) hcl f hf (hC.2.2.2.2.1 _ hlk) (fun x hx => by rw [hdc] at hx; exact hx) hfin hd hn hfit hlen hdg (fun H1 locs1 hP hD hS => k H1 locs1 (by rw [ws_up hc ho hE] at hP hD; exact ⟨hP, hD, hS⟩))
theorem r_iald (hC : Cx p c cc nL s m args own X B) (hI : IS X a B s S H locs) {cx n : Nat} {f : Nat → Int} (hc : cx < 61) (hcell : cellAt X a S cx = arI X n f) (hn : n < 2147483648) {x v : Int} (i : Nat) (hi : x = (i : Int)) (hlt : i < n) (hv : f i = v) (hdg : decode cc pc = .ok (.iaload, 1)) (k : W p l e R s m args below meth c H locs cells slots Q (F0 m (pc + 1) ls (.int (J v) :: rest))) : W p l e R s m args below meth c H locs cells slots Q (F0 m pc ls (.int (J x) :: .ref (a cx) :: rest)) := va_iald hC.1 hC.2.1 hC.2.2.2.2.2.1.1 hI.1 cx 0 (ws_at hc hcell) rfl (J_in hi hlt hn) hdg (by rw [J_cl hi (by omega)]; simp only [bd, if_pos hlt, hv]; exact k)
theorem r_lald (hC : Cx p c cc nL s m args own X B) (hI : IS X a B s S H locs) {cx n : Nat} {f : Nat → Int} (hc : cx < 61) (hcell : cellAt X a S cx = arL X n f) (hn : n < 2147483648) {x v : Int} (i : Nat) (hi : x = (i : Int)) (hlt : i < n) (hv : f i = v) (hdg : decode cc pc = .ok (.laload, 1)) (k : W p l e R s m args below meth c H locs cells slots Q (F0 m (pc + 1) ls (.long (JL v) :: rest))) : W p l e R s m args below meth c H locs cells slots Q (F0 m pc ls (.int (J x) :: .ref (a cx) :: rest)) := va_lald hC.1 hC.2.1 hC.2.2.2.2.2.1.1 hI.1 cx 1 (ws_at hc hcell) rfl (J_in hi hlt hn) hdg (by rw [J_cl hi (by omega)]; simp only [bdL, if_pos hlt, hv]; exact k)
theorem r_pald (hC : Cx p c cc nL s m args own X B) (hI : IS X a B s S H locs) {cx n : Nat} {f : Nat → Nat} (hc : cx < 61) (hcell : cellAt X a S cx = arP X n f) (hn : n < 2147483648) {x : Int} (i : Nat) (hi : x = (i : Int)) (hlt : i < n) (hdg : decode cc pc = .ok (.aaload, 1)) (k : W p l e R s m args below meth c H locs cells slots Q (F0 m (pc + 1) ls (.ref (f i) :: rest))) : W p l e R s m args below meth c H locs cells slots Q (F0 m pc ls (.int (J x) :: .ref (a cx) :: rest)) := va_aldq hC.1 hC.2.1 hC.2.2.2.2.2.1.1 hI.1 cx 2 (ws_at hc hcell) rfl (J_in hi hlt hn) hdg (by rw [J_cl hi (by omega)]; exact k)
theorem r_sald (hC : Cx p c cc nL s m args own X B) (hI : IS X a B s S H locs) {cx n : Nat} {f : Nat → Nat} (hc : cx < 61) (hcell : cellAt X a S cx = arS X n f) (hn : n < 2147483648) {x : Int} (i : Nat) (hi : x = (i : Int)) (hlt : i < n) (hdg : decode cc pc = .ok (.aaload, 1)) (k : W p l e R s m args below meth c H locs cells slots Q (F0 m (pc + 1) ls (.ref (f i) :: rest))) : W p l e R s m args below meth c H locs cells slots Q (F0 m pc ls (.int (J x) :: .ref (a cx) :: rest)) := va_aldq hC.1 hC.2.1 hC.2.2.2.2.2.1.1 hI.1 cx 3 (ws_at hc hcell) rfl (J_in hi hlt hn) hdg (by rw [J_cl hi (by omega)]; exact k)
theorem r_iast (hC : Cx p c cc nL s m args own X B) (hI : IS X a B s S H locs) {cx n : Nat} {F : St → Nat → Int} (hc : cx < 61) (hcell : ∀ S, cellAt X a S cx = arI X n (F S)) (hn : n < 2147483648) {x v : Int} (i : Nat) (hi : x = (i : Int)) (hlt : i < n) {b j : Nat} (ho : ownC b j = cx) (hF : ∀ q, F (up S b j v) q = upR (F S) i v q) (hdg : decode cc pc = .ok (.iastore, 1)) (k : ∀ (H1 : Heap) (locs1 : List Loc), IS X a B s (up S b j v) H1 locs1 → W p l e R s m args below meth c H1 locs1 cells slots Q (F0 m (pc + 1) ls rest)) : W p l e R s m args below meth c H locs cells slots Q (F0 m pc ls (.int (J v) :: .int (J x) :: .ref (a cx) :: rest)) := va_iast hC.1 hC.2.1 hC.2.2.2.2.2.1.1 hI.1 hI.2.1 hI.2.2 cx 0 (ws_at hc (hcell S)) rfl (J_in hi hlt hn) hdg (fun H1 locs1 hP hD hS => k H1 locs1 (by
  have hE : cellAt X a (up S b j v) cx = .inl (X.2.1.1, n, .inl (upd (bd n (F S)) (J x).toNatClampNeg (J v))) := by
    rw [hcell, J_cl hi (by omega)]
    show (Sum.inl _ : va_E) = _
    congr 3
    congr 1
    funext q
    simp only [bd, upd, hF, upR]
    by_cases hq : q = i
    · subst hq; simp [hlt]
    · simp [hq]
  rw [ws_up hc ho hE] at hP hD
  exact ⟨hP, hD, hS⟩))
theorem r_last (hC : Cx p c cc nL s m args own X B) (hI : IS X a B s S H locs) {cx n : Nat} {F : St → Nat → Int} (hc : cx < 61) (hcell : ∀ S, cellAt X a S cx = arL X n (F S)) (hn : n < 2147483648) {x v : Int} (i : Nat) (hi : x = (i : Int)) (hlt : i < n) {b j : Nat} (ho : ownC b j = cx) (hF : ∀ q, F (up S b j v) q = upR (F S) i v q) (hdg : decode cc pc = .ok (.lastore, 1)) (k : ∀ (H1 : Heap) (locs1 : List Loc), IS X a B s (up S b j v) H1 locs1 → W p l e R s m args below meth c H1 locs1 cells slots Q (F0 m (pc + 1) ls rest)) : W p l e R s m args below meth c H locs cells slots Q (F0 m pc ls (.long (JL v) :: .int (J x) :: .ref (a cx) :: rest)) := va_last hC.1 hC.2.1 hC.2.2.2.2.2.1.1 hI.1 hI.2.1 hI.2.2 cx 1 (ws_at hc (hcell S)) rfl (J_in hi hlt hn) hdg (fun H1 locs1 hP hD hS => k H1 locs1 (by
  have hE : cellAt X a (up S b j v) cx = .inl (X.2.1.2.1, n, .inr (.inl (vp_updL (bdL n (F S)) (J x).toNatClampNeg (JL v)))) := by
    rw [hcell, J_cl hi (by omega)]
    show (Sum.inl _ : va_E) = _
    congr 3
    congr 2
    funext q
    simp only [bdL, vp_updL, hF, upR]
    by_cases hq : q = i
    · subst hq; simp [hlt]
    · simp [hq]
  rw [ws_up hc ho hE] at hP hD
  exact ⟨hP, hD, hS⟩))
theorem r_cVi (hC : Cx p c cc nL s m args own X B) (hI : IS X a B s S H locs) (hl : lv_has ls nL lv) {y : MethodName} {cy : ByteArray} {ny d index : Nat} {rety : Option FieldType} {C : String} {b : Nat} {r : Int} {S1 : St} (As : List Value) (rest : List Value) (hM : CT l X a B d y cy ny rety (.ref b :: As) S (Qi X a B r S1)) (hlk : Cond.methodLink own index y ∈ TB) (hE : EV y C cy ny rety As.length) (hrec : ∃ cell : Cell, H[b]? = some cell ∧ cell.vm.isStatics = false ∧ s.vm.findClass C = some cell.cls) (hR : d + 1 ≤ R.frames ∧ 8 + (ny + 11) + 30 * d ≤ R.locals) (hcs : cells ≤ R.cells ∧ slots ≤ R.slots) (hst : (rest.map fun v => v.category).sum ≤ 8) (hstk : st = As.reverse ++ .ref b :: rest) (hdg : decode cc pc = .ok (.invokevirtual index, 3)) (k : ∀ (H1 : Heap) (locs1 : List Loc), IS X a B s (S1) H1 locs1 → W p l e R s m args below meth c H1 locs1 cells slots Q (F0 m (pc + 3) ls (.int (J r) :: rest))) : W p l e R s m args below meth c H locs cells slots Q (F0 m pc ls st) := va_calli (va_runV (As := As) (rest := rest) (Ts := TB) ⟨hC.1, hC.2.1, hC.2.2.1, hC.2.2.2.1, hC.2.2.2.2.1⟩ hM ⟨callB_of As.length hC.2.2.2.2.1 (gTB hE.2.2.2.1) rfl rfl rfl (hC.2.2.2.2.1 _ hE.2.2.1) (hC.2.2.2.2.1 _ hlk) hE.2.2.2.2 hR, hC.2.2.2.2.1 _ hE.1, hC.2.2.2.2.1 _ hE.2.1⟩ ⟨IW.blind, hrec, fun U hU hW => ⟨rfl, hI.iw hC hU hW⟩⟩ rfl rfl hl.1 hstk (lv_room hst) hdg hcs) hI.2.2 (fun _ _ h => h) (fun _ h => h) (fun r1 _ t H1 locs1 ht hvm hp hB hz hk hS => by
  subst hp
  exact k H1 locs1 ⟨by rw [← ht]; exact hB.1, hB.2.1, hS⟩)
theorem r_cVl (hC : Cx p c cc nL s m args own X B) (hI : IS X a B s S H locs) (hl : lv_has ls nL lv) {y : MethodName} {cy : ByteArray} {ny d index : Nat} {rety : Option FieldType} {C : String} {b : Nat} {r : Int} {S1 : St} (As : List Value) (rest : List Value) (hM : CT l X a B d y cy ny rety (.ref b :: As) S (Ql X a B r S1)) (hlk : Cond.methodLink own index y ∈ TB) (hE : EV y C cy ny rety As.length) (hrec : ∃ cell : Cell, H[b]? = some cell ∧ cell.vm.isStatics = false ∧ s.vm.findClass C = some cell.cls) (hR : d + 1 ≤ R.frames ∧ 8 + (ny + 11) + 30 * d ≤ R.locals) (hcs : cells ≤ R.cells ∧ slots ≤ R.slots) (hst : (rest.map fun v => v.category).sum ≤ 8) (hstk : st = As.reverse ++ .ref b :: rest) (hdg : decode cc pc = .ok (.invokevirtual index, 3)) (k : ∀ (H1 : Heap) (locs1 : List Loc), IS X a B s (S1) H1 locs1 → W p l e R s m args below meth c H1 locs1 cells slots Q (F0 m (pc + 3) ls (.long (JL r) :: rest))) : W p l e R s m args below meth c H locs cells slots Q (F0 m pc ls st) := va_calll (va_runV (As := As) (rest := rest) (Ts := TB) ⟨hC.1, hC.2.1, hC.2.2.1, hC.2.2.2.1, hC.2.2.2.2.1⟩ hM ⟨callB_of As.length hC.2.2.2.2.1 (gTB hE.2.2.2.1) rfl rfl rfl (hC.2.2.2.2.1 _ hE.2.2.1) (hC.2.2.2.2.1 _ hlk) hE.2.2.2.2 hR, hC.2.2.2.2.1 _ hE.1, hC.2.2.2.2.1 _ hE.2.1⟩ ⟨IW.blind, hrec, fun U hU hW => ⟨rfl, hI.iw hC hU hW⟩⟩ rfl rfl hl.1 hstk (lv_room hst) hdg hcs) hI.2.2 (fun _ _ h => h) (fun _ h => h) (fun r1 _ t H1 locs1 ht hvm hp hB hz hk hS => by
  subst hp
  exact k H1 locs1 ⟨by rw [← ht]; exact hB.1, hB.2.1, hS⟩)
theorem r_cVv (hC : Cx p c cc nL s m args own X B) (hI : IS X a B s S H locs) (hl : lv_has ls nL lv) {y : MethodName} {cy : ByteArray} {ny d index : Nat} {rety : Option FieldType} {C : String} {b : Nat}  {S1 : St} (As : List Value) (rest : List Value) (hM : CT l X a B d y cy ny rety (.ref b :: As) S (Qv X a B S1)) (hlk : Cond.methodLink own index y ∈ TB) (hE : EV y C cy ny rety As.length) (hrec : ∃ cell : Cell, H[b]? = some cell ∧ cell.vm.isStatics = false ∧ s.vm.findClass C = some cell.cls) (hR : d + 1 ≤ R.frames ∧ 8 + (ny + 11) + 30 * d ≤ R.locals) (hcs : cells ≤ R.cells ∧ slots ≤ R.slots) (hst : (rest.map fun v => v.category).sum ≤ 8) (hstk : st = As.reverse ++ .ref b :: rest) (hdg : decode cc pc = .ok (.invokevirtual index, 3)) (k : ∀ (H1 : Heap) (locs1 : List Loc), IS X a B s (S1) H1 locs1 → W p l e R s m args below meth c H1 locs1 cells slots Q (F0 m (pc + 3) ls (rest))) : W p l e R s m args below meth c H locs cells slots Q (F0 m pc ls st) := va_callv (va_runV (As := As) (rest := rest) (Ts := TB) ⟨hC.1, hC.2.1, hC.2.2.1, hC.2.2.2.1, hC.2.2.2.2.1⟩ hM ⟨callB_of As.length hC.2.2.2.2.1 (gTB hE.2.2.2.1) rfl rfl rfl (hC.2.2.2.2.1 _ hE.2.2.1) (hC.2.2.2.2.1 _ hlk) hE.2.2.2.2 hR, hC.2.2.2.2.1 _ hE.1, hC.2.2.2.2.1 _ hE.2.1⟩ ⟨IW.blind, hrec, fun U hU hW => ⟨rfl, hI.iw hC hU hW⟩⟩ rfl rfl hl.1 hstk (lv_room hst) hdg hcs) hI.2.2 (fun _ _ h => h) (fun _ h => h) (fun _ t H1 locs1 ht hvm hp hB hz hk hS => k H1 locs1 ⟨by rw [← ht]; exact hB.1, hB.2.1, hS⟩)
theorem r_cVr (hC : Cx p c cc nL s m args own X B) (hI : IS X a B s S H locs) (hl : lv_has ls nL lv) {y : MethodName} {cy : ByteArray} {ny d index : Nat} {rety : Option FieldType} {C : String} {b : Nat} {r : Nat} {S1 : St} (As : List Value) (rest : List Value) (hM : CT l X a B d y cy ny rety (.ref b :: As) S (Qr X a B r S1)) (hlk : Cond.methodLink own index y ∈ TB) (hE : EV y C cy ny rety As.length) (hrec : ∃ cell : Cell, H[b]? = some cell ∧ cell.vm.isStatics = false ∧ s.vm.findClass C = some cell.cls) (hR : d + 1 ≤ R.frames ∧ 8 + (ny + 11) + 30 * d ≤ R.locals) (hcs : cells ≤ R.cells ∧ slots ≤ R.slots) (hst : (rest.map fun v => v.category).sum ≤ 8) (hstk : st = As.reverse ++ .ref b :: rest) (hdg : decode cc pc = .ok (.invokevirtual index, 3)) (k : ∀ (H1 : Heap) (locs1 : List Loc), IS X a B s (S1) H1 locs1 → W p l e R s m args below meth c H1 locs1 cells slots Q (F0 m (pc + 3) ls (.ref r :: rest))) : W p l e R s m args below meth c H locs cells slots Q (F0 m pc ls st) := va_callr (va_runV (As := As) (rest := rest) (Ts := TB) ⟨hC.1, hC.2.1, hC.2.2.1, hC.2.2.2.1, hC.2.2.2.2.1⟩ hM ⟨callB_of As.length hC.2.2.2.2.1 (gTB hE.2.2.2.1) rfl rfl rfl (hC.2.2.2.2.1 _ hE.2.2.1) (hC.2.2.2.2.1 _ hlk) hE.2.2.2.2 hR, hC.2.2.2.2.1 _ hE.1, hC.2.2.2.2.1 _ hE.2.1⟩ ⟨IW.blind, hrec, fun U hU hW => ⟨rfl, hI.iw hC hU hW⟩⟩ rfl rfl hl.1 hstk (lv_room hst) hdg hcs) hI.2.2 (fun _ _ h => h) (fun _ h => h) (fun _ ra t H1 locs1 ht hvm hp hB hz hk hS => by
  obtain ⟨rfl, hB⟩ := hB
  exact k H1 locs1 ⟨by rw [← ht]; exact hB.1, hB.2.1, hS⟩)
theorem r_cSi (hC : Cx p c cc nL s m args own X B) (hI : IS X a B s S H locs) (hl : lv_has ls nL lv) {y : MethodName} {cy : ByteArray} {ny d index : Nat} {rety : Option FieldType} {r : Int} {S1 : St} (As : List Value) (rest : List Value) (hM : CT l X a B d y cy ny rety As S (Qi X a B r S1)) (hlk : Cond.methodLink own index y ∈ TB) (hE : ES y cy ny rety As.length) (hR : d + 1 ≤ R.frames ∧ 8 + (ny + 11) + 30 * d ≤ R.locals) (hcs : cells ≤ R.cells ∧ slots ≤ R.slots) (hst : (rest.map fun v => v.category).sum ≤ 8) (hstk : st = As.reverse ++ rest) (hdg : decode cc pc = .ok (.invokestatic index, 3)) (k : ∀ (H1 : Heap) (locs1 : List Loc), IS X a B s (S1) H1 locs1 → W p l e R s m args below meth c H1 locs1 cells slots Q (F0 m (pc + 3) ls (.int (J r) :: rest))) : W p l e R s m args below meth c H locs cells slots Q (F0 m pc ls st) := va_calli (va_runS (As := As) (rest := rest) (Ts := TB) ⟨hC.1, hC.2.1, hC.2.2.1, hC.2.2.2.1, hC.2.2.2.2.1⟩ hM ⟨callB_of As.length hC.2.2.2.2.1 (gTB hE.2.2.1) rfl rfl rfl (hC.2.2.2.2.1 _ hE.2.1) (hC.2.2.2.2.1 _ hlk) hE.2.2.2 hR, hC.2.2.2.2.1 _ hE.1⟩ ⟨IW.blind, fun U hU hW => ⟨rfl, hI.iw hC hU hW⟩⟩ rfl rfl hl.1 hstk (lv_room hst) hdg hcs) hI.2.2 (fun _ _ h => h) (fun _ h => h) (fun r1 _ t H1 locs1 ht hvm hp hB hz hk hS => by
  subst hp
  exact k H1 locs1 ⟨by rw [← ht]; exact hB.1, hB.2.1, hS⟩)
theorem r_cSl (hC : Cx p c cc nL s m args own X B) (hI : IS X a B s S H locs) (hl : lv_has ls nL lv) {y : MethodName} {cy : ByteArray} {ny d index : Nat} {rety : Option FieldType} {r : Int} {S1 : St} (As : List Value) (rest : List Value) (hM : CT l X a B d y cy ny rety As S (Ql X a B r S1)) (hlk : Cond.methodLink own index y ∈ TB) (hE : ES y cy ny rety As.length) (hR : d + 1 ≤ R.frames ∧ 8 + (ny + 11) + 30 * d ≤ R.locals) (hcs : cells ≤ R.cells ∧ slots ≤ R.slots) (hst : (rest.map fun v => v.category).sum ≤ 8) (hstk : st = As.reverse ++ rest) (hdg : decode cc pc = .ok (.invokestatic index, 3)) (k : ∀ (H1 : Heap) (locs1 : List Loc), IS X a B s (S1) H1 locs1 → W p l e R s m args below meth c H1 locs1 cells slots Q (F0 m (pc + 3) ls (.long (JL r) :: rest))) : W p l e R s m args below meth c H locs cells slots Q (F0 m pc ls st) := va_calll (va_runS (As := As) (rest := rest) (Ts := TB) ⟨hC.1, hC.2.1, hC.2.2.1, hC.2.2.2.1, hC.2.2.2.2.1⟩ hM ⟨callB_of As.length hC.2.2.2.2.1 (gTB hE.2.2.1) rfl rfl rfl (hC.2.2.2.2.1 _ hE.2.1) (hC.2.2.2.2.1 _ hlk) hE.2.2.2 hR, hC.2.2.2.2.1 _ hE.1⟩ ⟨IW.blind, fun U hU hW => ⟨rfl, hI.iw hC hU hW⟩⟩ rfl rfl hl.1 hstk (lv_room hst) hdg hcs) hI.2.2 (fun _ _ h => h) (fun _ h => h) (fun r1 _ t H1 locs1 ht hvm hp hB hz hk hS => by
  subst hp
  exact k H1 locs1 ⟨by rw [← ht]; exact hB.1, hB.2.1, hS⟩)
theorem r_cSv (hC : Cx p c cc nL s m args own X B) (hI : IS X a B s S H locs) (hl : lv_has ls nL lv) {y : MethodName} {cy : ByteArray} {ny d index : Nat} {rety : Option FieldType}  {S1 : St} (As : List Value) (rest : List Value) (hM : CT l X a B d y cy ny rety As S (Qv X a B S1)) (hlk : Cond.methodLink own index y ∈ TB) (hE : ES y cy ny rety As.length) (hR : d + 1 ≤ R.frames ∧ 8 + (ny + 11) + 30 * d ≤ R.locals) (hcs : cells ≤ R.cells ∧ slots ≤ R.slots) (hst : (rest.map fun v => v.category).sum ≤ 8) (hstk : st = As.reverse ++ rest) (hdg : decode cc pc = .ok (.invokestatic index, 3)) (k : ∀ (H1 : Heap) (locs1 : List Loc), IS X a B s (S1) H1 locs1 → W p l e R s m args below meth c H1 locs1 cells slots Q (F0 m (pc + 3) ls (rest))) : W p l e R s m args below meth c H locs cells slots Q (F0 m pc ls st) := va_callv (va_runS (As := As) (rest := rest) (Ts := TB) ⟨hC.1, hC.2.1, hC.2.2.1, hC.2.2.2.1, hC.2.2.2.2.1⟩ hM ⟨callB_of As.length hC.2.2.2.2.1 (gTB hE.2.2.1) rfl rfl rfl (hC.2.2.2.2.1 _ hE.2.1) (hC.2.2.2.2.1 _ hlk) hE.2.2.2 hR, hC.2.2.2.2.1 _ hE.1⟩ ⟨IW.blind, fun U hU hW => ⟨rfl, hI.iw hC hU hW⟩⟩ rfl rfl hl.1 hstk (lv_room hst) hdg hcs) hI.2.2 (fun _ _ h => h) (fun _ h => h) (fun _ t H1 locs1 ht hvm hp hB hz hk hS => k H1 locs1 ⟨by rw [← ht]; exact hB.1, hB.2.1, hS⟩)
theorem r_cSr (hC : Cx p c cc nL s m args own X B) (hI : IS X a B s S H locs) (hl : lv_has ls nL lv) {y : MethodName} {cy : ByteArray} {ny d index : Nat} {rety : Option FieldType} {r : Nat} {S1 : St} (As : List Value) (rest : List Value) (hM : CT l X a B d y cy ny rety As S (Qr X a B r S1)) (hlk : Cond.methodLink own index y ∈ TB) (hE : ES y cy ny rety As.length) (hR : d + 1 ≤ R.frames ∧ 8 + (ny + 11) + 30 * d ≤ R.locals) (hcs : cells ≤ R.cells ∧ slots ≤ R.slots) (hst : (rest.map fun v => v.category).sum ≤ 8) (hstk : st = As.reverse ++ rest) (hdg : decode cc pc = .ok (.invokestatic index, 3)) (k : ∀ (H1 : Heap) (locs1 : List Loc), IS X a B s (S1) H1 locs1 → W p l e R s m args below meth c H1 locs1 cells slots Q (F0 m (pc + 3) ls (.ref r :: rest))) : W p l e R s m args below meth c H locs cells slots Q (F0 m pc ls st) := va_callr (va_runS (As := As) (rest := rest) (Ts := TB) ⟨hC.1, hC.2.1, hC.2.2.1, hC.2.2.2.1, hC.2.2.2.2.1⟩ hM ⟨callB_of As.length hC.2.2.2.2.1 (gTB hE.2.2.1) rfl rfl rfl (hC.2.2.2.2.1 _ hE.2.1) (hC.2.2.2.2.1 _ hlk) hE.2.2.2 hR, hC.2.2.2.2.1 _ hE.1⟩ ⟨IW.blind, fun U hU hW => ⟨rfl, hI.iw hC hU hW⟩⟩ rfl rfl hl.1 hstk (lv_room hst) hdg hcs) hI.2.2 (fun _ _ h => h) (fun _ h => h) (fun _ ra t H1 locs1 ht hvm hp hB hz hk hS => by
  obtain ⟨rfl, hB⟩ := hB
  exact k H1 locs1 ⟨by rw [← ht]; exact hB.1, hB.2.1, hS⟩)
theorem r_cNi (hC : Cx p c cc nL s m args own X B) (hI : IS X a B s S H locs) (hl : lv_has ls nL lv) {y : MethodName} {host : String} {cy : ByteArray} {ny d index : Nat} {rety : Option FieldType} {r : Int} {S1 : St} (As : List Value) (rest : List Value) (hM : CT l X a B d y cy ny rety As S (Qi X a B r S1)) (hlk : va_Nw (.methodLinkNest own index y host) s) (hE : ES y cy ny rety As.length) (hR : d + 1 ≤ R.frames ∧ 8 + (ny + 11) + 30 * d ≤ R.locals) (hcs : cells ≤ R.cells ∧ slots ≤ R.slots) (hst : (rest.map fun v => v.category).sum ≤ 8) (hstk : st = As.reverse ++ rest) (hdg : decode cc pc = .ok (.invokestatic index, 3)) (k : ∀ (H1 : Heap) (locs1 : List Loc), IS X a B s (S1) H1 locs1 → W p l e R s m args below meth c H1 locs1 cells slots Q (F0 m (pc + 3) ls (.int (J r) :: rest))) : W p l e R s m args below meth c H locs cells slots Q (F0 m pc ls st) := va_calli (va_runSN (As := As) (rest := rest) (Ts := TB) ⟨hC.1, hC.2.1, hC.2.2.1, hC.2.2.2.1, hC.2.2.2.2.1⟩ hM ⟨va_cnB As.length hC.2.2.2.2.1 (gTB hE.2.2.1) rfl rfl rfl hlk (hC.2.2.2.2.1 _ hE.2.1) hE.2.2.2 hR, hC.2.2.2.2.1 _ hE.1, trivial⟩ ⟨IW.blind, fun U hU hW => ⟨rfl, hI.iw hC hU hW⟩⟩ rfl rfl hl.1 hstk (lv_room hst) hdg hcs) hI.2.2 (fun _ _ h => h) (fun _ h => h) (fun r1 _ t H1 locs1 ht hvm hp hB hz hk hS => by
  subst hp
  exact k H1 locs1 ⟨by rw [← ht]; exact hB.1, hB.2.1, hS⟩)
end RW
end
section
section FW
variable {p : Program} {l : Launch} {e : Env} {R : Room} {s : State} {m : MethodId} {args : Array Value} {below : List Frame} {meth : Method} {c : Code} {H : Heap} {locs : List Loc} {cells slots : Nat} {Q : State → Prop}
variable {cc : ByteArray} {nL pc : Nat} {own : String} {ls : Array Slot} {rest st : List Value} {X : XT} {a : Nat → Nat} {B : Nat} {S S' : St} {lv : List (Nat × Value)}
theorem g_pg (hC : Cx p c cc nL s m args own X B) (hI : IS X a B s S H locs) {k1 i : Nat} (hk : k1 < 3) (hi : i < 8) (f : Nat) (hf : f < 5) {index : Nat} (hlk : Cond.fieldLink own index RX1 (TX1 f).2.1 (TX1 f).2.2.1 ∈ TB) (hdc : (TX1 f).1 = RX1) {v : Value} (hv : (pgF S k1 i)[f]? = some v) (hdg : decode cc pc = .ok (.getfield index, 3)) (k : W p l e R s m args below meth c H locs cells slots Q (F0 m (pc + 3) ls (v :: rest))) : W p l e R s m args below meth c H locs cells slots Q (F0 m pc ls (.ref (a (25 + 8 * k1 + i)) :: rest)) := r_get hC hI iw_X1 rfl (by omega) (ce_pg X a S hk hi) f hf hlk hdc hv hdg k
theorem g_sc (hC : Cx p c cc nL s m args own X B) (hI : IS X a B s S H locs) {k1 : Nat} (hk : k1 < 3) (f : Nat) (hf : f < 9) {index : Nat} (hlk : Cond.fieldLink own index RX2 (TX2 f).2.1 (TX2 f).2.2.1 ∈ TB) (hdc : (TX2 f).1 = RX2) {v : Value} (hv : (scF a S k1)[f]? = some v) (hdg : decode cc pc = .ok (.getfield index, 3)) (k : W p l e R s m args below meth c H locs cells slots Q (F0 m (pc + 3) ls (v :: rest))) : W p l e R s m args below meth c H locs cells slots Q (F0 m pc ls (.ref (a (2 + k1)) :: rest)) := r_get hC hI iw_X2 rfl (by omega) (ce_sc X a S hk) f hf hlk hdc hv hdg k
theorem g_sh (hC : Cx p c cc nL s m args own X B) (hI : IS X a B s S H locs) {i : Nat} (hi : i < 4) (f : Nat) (hf : f < 3) {index : Nat} (hlk : Cond.fieldLink own index RX3 (TX3 f).2.1 (TX3 f).2.2.1 ∈ TB) (hdc : (TX3 f).1 = RX3) {v : Value} (hv : (shF a S i)[f]? = some v) (hdg : decode cc pc = .ok (.getfield index, 3)) (k : W p l e R s m args below meth c H locs cells slots Q (F0 m (pc + 3) ls (v :: rest))) : W p l e R s m args below meth c H locs cells slots Q (F0 m pc ls (.ref (a (17 + i)) :: rest)) := r_get hC hI iw_X3 rfl (by omega) (ce_sh X a S hi) f hf hlk hdc hv hdg k
theorem g_ta (hC : Cx p c cc nL s m args own X B) (hI : IS X a B s S H locs) (f : Nat) (hf : f < 6) {index : Nat} (hlk : Cond.fieldLink own index RX4 (TX4 f).2.1 (TX4 f).2.2.1 ∈ TB) (hdc : (TX4 f).1 = RX4) {v : Value} (hv : (taF a S)[f]? = some v) (hdg : decode cc pc = .ok (.getfield index, 3)) (k : W p l e R s m args below meth c H locs cells slots Q (F0 m (pc + 3) ls (v :: rest))) : W p l e R s m args below meth c H locs cells slots Q (F0 m pc ls (.ref (a (5)) :: rest)) := r_get hC hI iw_X4 rfl (by decide) (rfl) f hf hlk hdc hv hdg k
theorem g_in (hC : Cx p c cc nL s m args own X B) (hI : IS X a B s S H locs) (f : Nat) (hf : f < 7) {index : Nat} (hlk : Cond.fieldLink own index RX6 (TX6 f).2.1 (TX6 f).2.2.1 ∈ TB) (hdc : (TX6 f).1 = RX6) {v : Value} (hv : (inF a S)[f]? = some v) (hdg : decode cc pc = .ok (.getfield index, 3)) (k : W p l e R s m args below meth c H locs cells slots Q (F0 m (pc + 3) ls (v :: rest))) : W p l e R s m args below meth c H locs cells slots Q (F0 m pc ls (.ref (a (0)) :: rest)) := r_get hC hI iw_X6 rfl (by decide) (rfl) f hf hlk hdc hv hdg k
theorem g_mo (hC : Cx p c cc nL s m args own X B) (hI : IS X a B s S H locs) (f : Nat) (hf : f < 19) {index : Nat} (hlk : Cond.fieldLink own index RX7 (TX7 f).2.1 (TX7 f).2.2.1 ∈ TB) (hdc : (TX7 f).1 = RX7) {v : Value} (hv : (moF a S)[f]? = some v) (hdg : decode cc pc = .ok (.getfield index, 3)) (k : W p l e R s m args below meth c H locs cells slots Q (F0 m (pc + 3) ls (v :: rest))) : W p l e R s m args below meth c H locs cells slots Q (F0 m pc ls (.ref (a (49)) :: rest)) := r_get hC hI iw_X7 rfl (by decide) (rfl) f hf hlk hdc hv hdg k
theorem p_pg0 (hC : Cx p c cc nL s m args own X B) (hI : IS X a B s S H locs) {k1 i : Nat} (hk : k1 < 3) (hi : i < 8) {z : Int} {index : Nat} (hlk : Cond.fieldLink own index RX1 (TX1 0).2.1 (TX1 0).2.2.1 ∈ TB) (hdg : decode cc pc = .ok (.putfield index, 3)) (k : ∀ (H1 : Heap) (locs1 : List Loc), IS X a B s (up S (k1) (18 + 5 * i) z) H1 locs1 → W p l e R s m args below meth c H1 locs1 cells slots Q (F0 m (pc + 3) ls rest)) : W p l e R s m args below meth c H locs cells slots Q (F0 m pc ls (.int (J z) :: .ref (a (25 + 8 * k1 + i)) :: rest)) := r_put hC hI iw_X1 tyX1_ok nmX1 rfl (by omega) (ce_pg X a S hk hi) 0 (by decide) hlk rfl rfl (ty := .int) (by decide +kernel) rfl rfl (Nat.le_of_ble_eq_true rfl) (b := k1) (j := 18 + 5 * i) (z := z) (ow_pg hk (by omega) (by omega)) (by rw [ce_pg X a _ hk hi]; simp [pgF, up, setB, upR]) hdg k
theorem p_pg1 (hC : Cx p c cc nL s m args own X B) (hI : IS X a B s S H locs) {k1 i : Nat} (hk : k1 < 3) (hi : i < 8) {z : Int} {index : Nat} (hlk : Cond.fieldLink own index RX1 (TX1 1).2.1 (TX1 1).2.2.1 ∈ TB) (hdg : decode cc pc = .ok (.putfield index, 3)) (k : ∀ (H1 : Heap) (locs1 : List Loc), IS X a B s (up S (k1) (19 + 5 * i) z) H1 locs1 → W p l e R s m args below meth c H1 locs1 cells slots Q (F0 m (pc + 3) ls rest)) : W p l e R s m args below meth c H locs cells slots Q (F0 m pc ls (.int (J z) :: .ref (a (25 + 8 * k1 + i)) :: rest)) := r_put hC hI iw_X1 tyX1_ok nmX1 rfl (by omega) (ce_pg X a S hk hi) 1 (by decide) hlk rfl rfl (ty := .int) (by decide +kernel) rfl rfl (Nat.le_of_ble_eq_true rfl) (b := k1) (j := 19 + 5 * i) (z := z) (ow_pg hk (by omega) (by omega)) (by rw [ce_pg X a _ hk hi]; simp [pgF, up, setB, upR]) hdg k
theorem p_pg2 (hC : Cx p c cc nL s m args own X B) (hI : IS X a B s S H locs) {k1 i : Nat} (hk : k1 < 3) (hi : i < 8) {z : Int} {index : Nat} (hlk : Cond.fieldLink own index RX1 (TX1 2).2.1 (TX1 2).2.2.1 ∈ TB) (hdg : decode cc pc = .ok (.putfield index, 3)) (k : ∀ (H1 : Heap) (locs1 : List Loc), IS X a B s (up S (k1) (20 + 5 * i) z) H1 locs1 → W p l e R s m args below meth c H1 locs1 cells slots Q (F0 m (pc + 3) ls rest)) : W p l e R s m args below meth c H locs cells slots Q (F0 m pc ls (.int (J z) :: .ref (a (25 + 8 * k1 + i)) :: rest)) := r_put hC hI iw_X1 tyX1_ok nmX1 rfl (by omega) (ce_pg X a S hk hi) 2 (by decide) hlk rfl rfl (ty := .int) (by decide +kernel) rfl rfl (Nat.le_of_ble_eq_true rfl) (b := k1) (j := 20 + 5 * i) (z := z) (ow_pg hk (by omega) (by omega)) (by rw [ce_pg X a _ hk hi]; simp [pgF, up, setB, upR]) hdg k
theorem p_pg3 (hC : Cx p c cc nL s m args own X B) (hI : IS X a B s S H locs) {k1 i : Nat} (hk : k1 < 3) (hi : i < 8) {z : Int} {index : Nat} (hlk : Cond.fieldLink own index RX1 (TX1 3).2.1 (TX1 3).2.2.1 ∈ TB) (hdg : decode cc pc = .ok (.putfield index, 3)) (k : ∀ (H1 : Heap) (locs1 : List Loc), IS X a B s (up S (k1) (21 + 5 * i) z) H1 locs1 → W p l e R s m args below meth c H1 locs1 cells slots Q (F0 m (pc + 3) ls rest)) : W p l e R s m args below meth c H locs cells slots Q (F0 m pc ls (.int (J z) :: .ref (a (25 + 8 * k1 + i)) :: rest)) := r_put hC hI iw_X1 tyX1_ok nmX1 rfl (by omega) (ce_pg X a S hk hi) 3 (by decide) hlk rfl rfl (ty := .int) (by decide +kernel) rfl rfl (Nat.le_of_ble_eq_true rfl) (b := k1) (j := 21 + 5 * i) (z := z) (ow_pg hk (by omega) (by omega)) (by rw [ce_pg X a _ hk hi]; simp [pgF, up, setB, upR]) hdg k
theorem p_pg4 (hC : Cx p c cc nL s m args own X B) (hI : IS X a B s S H locs) {k1 i : Nat} (hk : k1 < 3) (hi : i < 8) {z : Int} {index : Nat} (hlk : Cond.fieldLink own index RX1 (TX1 4).2.1 (TX1 4).2.2.1 ∈ TB) (hdg : decode cc pc = .ok (.putfield index, 3)) (k : ∀ (H1 : Heap) (locs1 : List Loc), IS X a B s (up S (k1) (22 + 5 * i) z) H1 locs1 → W p l e R s m args below meth c H1 locs1 cells slots Q (F0 m (pc + 3) ls rest)) : W p l e R s m args below meth c H locs cells slots Q (F0 m pc ls (.int (J z) :: .ref (a (25 + 8 * k1 + i)) :: rest)) := r_put hC hI iw_X1 tyX1_ok nmX1 rfl (by omega) (ce_pg X a S hk hi) 4 (by decide) hlk rfl rfl (ty := .int) (by decide +kernel) rfl rfl (Nat.le_of_ble_eq_true rfl) (b := k1) (j := 22 + 5 * i) (z := z) (ow_pg hk (by omega) (by omega)) (by rw [ce_pg X a _ hk hi]; simp [pgF, up, setB, upR]) hdg k
theorem p_sc0 (hC : Cx p c cc nL s m args own X B) (hI : IS X a B s S H locs) {k1 : Nat} (hk : k1 < 3) {z : Int} {index : Nat} (hlk : Cond.fieldLink own index RX2 (TX2 0).2.1 (TX2 0).2.2.1 ∈ TB) (hdg : decode cc pc = .ok (.putfield index, 3)) (k : ∀ (H1 : Heap) (locs1 : List Loc), IS X a B s (up S (k1) (0) z) H1 locs1 → W p l e R s m args below meth c H1 locs1 cells slots Q (F0 m (pc + 3) ls rest)) : W p l e R s m args below meth c H locs cells slots Q (F0 m pc ls (.int (J z) :: .ref (a (2 + k1)) :: rest)) := r_put hC hI iw_X2 tyX2_ok nmX2 rfl (by omega) (ce_sc X a S hk) 0 (by decide) hlk rfl rfl (ty := .int) (by decide +kernel) rfl rfl (Nat.le_of_ble_eq_true rfl) (b := k1) (j := 0) (z := z) (ow_sc hk (by decide)) (by rw [ce_sc X a _ hk]; simp [scF, up, setB, upR]) hdg k
theorem p_sc1 (hC : Cx p c cc nL s m args own X B) (hI : IS X a B s S H locs) {k1 : Nat} (hk : k1 < 3) {z : Int} {index : Nat} (hlk : Cond.fieldLink own index RX2 (TX2 1).2.1 (TX2 1).2.2.1 ∈ TB) (hdg : decode cc pc = .ok (.putfield index, 3)) (k : ∀ (H1 : Heap) (locs1 : List Loc), IS X a B s (up S (k1) (1) z) H1 locs1 → W p l e R s m args below meth c H1 locs1 cells slots Q (F0 m (pc + 3) ls rest)) : W p l e R s m args below meth c H locs cells slots Q (F0 m pc ls (.int (J z) :: .ref (a (2 + k1)) :: rest)) := r_put hC hI iw_X2 tyX2_ok nmX2 rfl (by omega) (ce_sc X a S hk) 1 (by decide) hlk rfl rfl (ty := .int) (by decide +kernel) rfl rfl (Nat.le_of_ble_eq_true rfl) (b := k1) (j := 1) (z := z) (ow_sc hk (by decide)) (by rw [ce_sc X a _ hk]; simp [scF, up, setB, upR]) hdg k
theorem p_sc2 (hC : Cx p c cc nL s m args own X B) (hI : IS X a B s S H locs) {k1 : Nat} (hk : k1 < 3) {z : Int} {index : Nat} (hlk : Cond.fieldLink own index RX2 (TX2 2).2.1 (TX2 2).2.2.1 ∈ TB) (hdg : decode cc pc = .ok (.putfield index, 3)) (k : ∀ (H1 : Heap) (locs1 : List Loc), IS X a B s (up S (k1) (2) z) H1 locs1 → W p l e R s m args below meth c H1 locs1 cells slots Q (F0 m (pc + 3) ls rest)) : W p l e R s m args below meth c H locs cells slots Q (F0 m pc ls (.int (J z) :: .ref (a (2 + k1)) :: rest)) := r_put hC hI iw_X2 tyX2_ok nmX2 rfl (by omega) (ce_sc X a S hk) 2 (by decide) hlk rfl rfl (ty := .int) (by decide +kernel) rfl rfl (Nat.le_of_ble_eq_true rfl) (b := k1) (j := 2) (z := z) (ow_sc hk (by decide)) (by rw [ce_sc X a _ hk]; simp [scF, up, setB, upR]) hdg k
theorem p_sc3 (hC : Cx p c cc nL s m args own X B) (hI : IS X a B s S H locs) {k1 : Nat} (hk : k1 < 3) {z : Int} {index : Nat} (hlk : Cond.fieldLink own index RX2 (TX2 3).2.1 (TX2 3).2.2.1 ∈ TB) (hdg : decode cc pc = .ok (.putfield index, 3)) (k : ∀ (H1 : Heap) (locs1 : List Loc), IS X a B s (up S (k1) (3) z) H1 locs1 → W p l e R s m args below meth c H1 locs1 cells slots Q (F0 m (pc + 3) ls rest)) : W p l e R s m args below meth c H locs cells slots Q (F0 m pc ls (.int (J z) :: .ref (a (2 + k1)) :: rest)) := r_put hC hI iw_X2 tyX2_ok nmX2 rfl (by omega) (ce_sc X a S hk) 3 (by decide) hlk rfl rfl (ty := .int) (by decide +kernel) rfl rfl (Nat.le_of_ble_eq_true rfl) (b := k1) (j := 3) (z := z) (ow_sc hk (by decide)) (by rw [ce_sc X a _ hk]; simp [scF, up, setB, upR]) hdg k
theorem p_sc4 (hC : Cx p c cc nL s m args own X B) (hI : IS X a B s S H locs) {k1 : Nat} (hk : k1 < 3) {z : Int} {index : Nat} (hlk : Cond.fieldLink own index RX2 (TX2 4).2.1 (TX2 4).2.2.1 ∈ TB) (hdg : decode cc pc = .ok (.putfield index, 3)) (k : ∀ (H1 : Heap) (locs1 : List Loc), IS X a B s (up S (k1) (4) z) H1 locs1 → W p l e R s m args below meth c H1 locs1 cells slots Q (F0 m (pc + 3) ls rest)) : W p l e R s m args below meth c H locs cells slots Q (F0 m pc ls (.int (J z) :: .ref (a (2 + k1)) :: rest)) := r_put hC hI iw_X2 tyX2_ok nmX2 rfl (by omega) (ce_sc X a S hk) 4 (by decide) hlk rfl rfl (ty := .int) (by decide +kernel) rfl rfl (Nat.le_of_ble_eq_true rfl) (b := k1) (j := 4) (z := z) (ow_sc hk (by decide)) (by rw [ce_sc X a _ hk]; simp [scF, up, setB, upR]) hdg k
theorem p_sc5 (hC : Cx p c cc nL s m args own X B) (hI : IS X a B s S H locs) {k1 : Nat} (hk : k1 < 3) {z : Int} {index : Nat} (hlk : Cond.fieldLink own index RX2 (TX2 5).2.1 (TX2 5).2.2.1 ∈ TB) (hdg : decode cc pc = .ok (.putfield index, 3)) (k : ∀ (H1 : Heap) (locs1 : List Loc), IS X a B s (up S (k1) (5) z) H1 locs1 → W p l e R s m args below meth c H1 locs1 cells slots Q (F0 m (pc + 3) ls rest)) : W p l e R s m args below meth c H locs cells slots Q (F0 m pc ls (.int (J z) :: .ref (a (2 + k1)) :: rest)) := r_put hC hI iw_X2 tyX2_ok nmX2 rfl (by omega) (ce_sc X a S hk) 5 (by decide) hlk rfl rfl (ty := .int) (by decide +kernel) rfl rfl (Nat.le_of_ble_eq_true rfl) (b := k1) (j := 5) (z := z) (ow_sc hk (by decide)) (by rw [ce_sc X a _ hk]; simp [scF, up, setB, upR]) hdg k
theorem p_sh0 (hC : Cx p c cc nL s m args own X B) (hI : IS X a B s S H locs) {i : Nat} (hi : i < 4) {z : Int} {index : Nat} (hlk : Cond.fieldLink own index RX3 (TX3 0).2.1 (TX3 0).2.2.1 ∈ TB) (hdg : decode cc pc = .ok (.putfield index, 3)) (k : ∀ (H1 : Heap) (locs1 : List Loc), IS X a B s (up S (6) (i) z) H1 locs1 → W p l e R s m args below meth c H1 locs1 cells slots Q (F0 m (pc + 3) ls rest)) : W p l e R s m args below meth c H locs cells slots Q (F0 m pc ls (.int (J z) :: .ref (a (17 + i)) :: rest)) := r_put hC hI iw_X3 tyX3_ok nmX3 rfl (by omega) (ce_sh X a S hi) 0 (by decide) hlk rfl rfl (ty := .int) (by decide +kernel) rfl rfl (Nat.le_of_ble_eq_true rfl) (b := 6) (j := i) (z := z) (rfl) (by rw [ce_sh X a _ hi]; simp [shF, up, setB, upR]) hdg k
theorem p_sh1 (hC : Cx p c cc nL s m args own X B) (hI : IS X a B s S H locs) {i : Nat} (hi : i < 4) {z : Int} {index : Nat} (hlk : Cond.fieldLink own index RX3 (TX3 1).2.1 (TX3 1).2.2.1 ∈ TB) (hdg : decode cc pc = .ok (.putfield index, 3)) (k : ∀ (H1 : Heap) (locs1 : List Loc), IS X a B s (up S (7) (i) z) H1 locs1 → W p l e R s m args below meth c H1 locs1 cells slots Q (F0 m (pc + 3) ls rest)) : W p l e R s m args below meth c H locs cells slots Q (F0 m pc ls (.int (J z) :: .ref (a (17 + i)) :: rest)) := r_put hC hI iw_X3 tyX3_ok nmX3 rfl (by omega) (ce_sh X a S hi) 1 (by decide) hlk rfl rfl (ty := .int) (by decide +kernel) rfl rfl (Nat.le_of_ble_eq_true rfl) (b := 7) (j := i) (z := z) (rfl) (by rw [ce_sh X a _ hi]; simp [shF, up, setB, upR]) hdg k
theorem p_ta0 (hC : Cx p c cc nL s m args own X B) (hI : IS X a B s S H locs) {z : Int} {index : Nat} (hlk : Cond.fieldLink own index RX4 (TX4 0).2.1 (TX4 0).2.2.1 ∈ TB) (hdg : decode cc pc = .ok (.putfield index, 3)) (k : ∀ (H1 : Heap) (locs1 : List Loc), IS X a B s (up S (5) (0) z) H1 locs1 → W p l e R s m args below meth c H1 locs1 cells slots Q (F0 m (pc + 3) ls rest)) : W p l e R s m args below meth c H locs cells slots Q (F0 m pc ls (.int (J z) :: .ref (a (5)) :: rest)) := r_put hC hI iw_X4 tyX4_ok nmX4 rfl (by decide) (rfl) 0 (by decide) hlk rfl rfl (ty := .int) (by decide +kernel) rfl rfl (Nat.le_of_ble_eq_true rfl) (b := 5) (j := 0) (z := z) (rfl) (rfl) hdg k
theorem p_ta1 (hC : Cx p c cc nL s m args own X B) (hI : IS X a B s S H locs) {z : Int} {index : Nat} (hlk : Cond.fieldLink own index RX4 (TX4 1).2.1 (TX4 1).2.2.1 ∈ TB) (hdg : decode cc pc = .ok (.putfield index, 3)) (k : ∀ (H1 : Heap) (locs1 : List Loc), IS X a B s (up S (5) (1) z) H1 locs1 → W p l e R s m args below meth c H1 locs1 cells slots Q (F0 m (pc + 3) ls rest)) : W p l e R s m args below meth c H locs cells slots Q (F0 m pc ls (.int (J z) :: .ref (a (5)) :: rest)) := r_put hC hI iw_X4 tyX4_ok nmX4 rfl (by decide) (rfl) 1 (by decide) hlk rfl rfl (ty := .int) (by decide +kernel) rfl rfl (Nat.le_of_ble_eq_true rfl) (b := 5) (j := 1) (z := z) (rfl) (rfl) hdg k
theorem p_ta2 (hC : Cx p c cc nL s m args own X B) (hI : IS X a B s S H locs) {z : Int} {index : Nat} (hlk : Cond.fieldLink own index RX4 (TX4 2).2.1 (TX4 2).2.2.1 ∈ TB) (hdg : decode cc pc = .ok (.putfield index, 3)) (k : ∀ (H1 : Heap) (locs1 : List Loc), IS X a B s (up S (5) (2) z) H1 locs1 → W p l e R s m args below meth c H1 locs1 cells slots Q (F0 m (pc + 3) ls rest)) : W p l e R s m args below meth c H locs cells slots Q (F0 m pc ls (.int (J z) :: .ref (a (5)) :: rest)) := r_put hC hI iw_X4 tyX4_ok nmX4 rfl (by decide) (rfl) 2 (by decide) hlk rfl rfl (ty := .int) (by decide +kernel) rfl rfl (Nat.le_of_ble_eq_true rfl) (b := 5) (j := 2) (z := z) (rfl) (rfl) hdg k
theorem p_ta3 (hC : Cx p c cc nL s m args own X B) (hI : IS X a B s S H locs) {z : Int} {index : Nat} (hlk : Cond.fieldLink own index RX4 (TX4 3).2.1 (TX4 3).2.2.1 ∈ TB) (hdg : decode cc pc = .ok (.putfield index, 3)) (k : ∀ (H1 : Heap) (locs1 : List Loc), IS X a B s (up S (5) (3) z) H1 locs1 → W p l e R s m args below meth c H1 locs1 cells slots Q (F0 m (pc + 3) ls rest)) : W p l e R s m args below meth c H locs cells slots Q (F0 m pc ls (.int (J z) :: .ref (a (5)) :: rest)) := r_put hC hI iw_X4 tyX4_ok nmX4 rfl (by decide) (rfl) 3 (by decide) hlk rfl rfl (ty := .int) (by decide +kernel) rfl rfl (Nat.le_of_ble_eq_true rfl) (b := 5) (j := 3) (z := z) (rfl) (rfl) hdg k
theorem p_ta4 (hC : Cx p c cc nL s m args own X B) (hI : IS X a B s S H locs) {z : Int} {index : Nat} (hlk : Cond.fieldLink own index RX4 (TX4 4).2.1 (TX4 4).2.2.1 ∈ TB) (hdg : decode cc pc = .ok (.putfield index, 3)) (k : ∀ (H1 : Heap) (locs1 : List Loc), IS X a B s (up S (5) (4) z) H1 locs1 → W p l e R s m args below meth c H1 locs1 cells slots Q (F0 m (pc + 3) ls rest)) : W p l e R s m args below meth c H locs cells slots Q (F0 m pc ls (.int (J z) :: .ref (a (5)) :: rest)) := r_put hC hI iw_X4 tyX4_ok nmX4 rfl (by decide) (rfl) 4 (by decide) hlk rfl rfl (ty := .int) (by decide +kernel) rfl rfl (Nat.le_of_ble_eq_true rfl) (b := 5) (j := 4) (z := z) (rfl) (rfl) hdg k
theorem p_in6 (hC : Cx p c cc nL s m args own X B) (hI : IS X a B s S H locs) {z : Int} (hz : z = 0 ∨ z = 1) {index : Nat} (hlk : Cond.fieldLink own index RX6 (TX6 6).2.1 (TX6 6).2.2.1 ∈ TB) (hdg : decode cc pc = .ok (.putfield index, 3)) (k : ∀ (H1 : Heap) (locs1 : List Loc), IS X a B s (up S (11) (0) z) H1 locs1 → W p l e R s m args below meth c H1 locs1 cells slots Q (F0 m (pc + 3) ls rest)) : W p l e R s m args below meth c H locs cells slots Q (F0 m pc ls (.int (J z) :: .ref (a (0)) :: rest)) := r_put hC hI iw_X6 tyX6_ok nmX6 rfl (by decide) (rfl) 6 (by decide) hlk rfl rfl (ty := .boolean) (by decide +kernel) (by rcases hz with rfl | rfl <;> rfl) (by rcases hz with rfl | rfl <;> rfl) (Nat.le_of_ble_eq_true rfl) (b := 11) (j := 0) (z := z) (rfl) (rfl) hdg k
theorem p_mo5 (hC : Cx p c cc nL s m args own X B) (hI : IS X a B s S H locs) {z : Int} {index : Nat} (hlk : Cond.fieldLink own index RX7 (TX7 5).2.1 (TX7 5).2.2.1 ∈ TB) (hdg : decode cc pc = .ok (.putfield index, 3)) (k : ∀ (H1 : Heap) (locs1 : List Loc), IS X a B s (up S (25) (0) z) H1 locs1 → W p l e R s m args below meth c H1 locs1 cells slots Q (F0 m (pc + 3) ls rest)) : W p l e R s m args below meth c H locs cells slots Q (F0 m pc ls (.int (J z) :: .ref (a (49)) :: rest)) := r_put hC hI iw_X7 tyX7_ok nmX7 rfl (by decide) (rfl) 5 (by decide) hlk rfl rfl (ty := .int) (by decide +kernel) rfl rfl (Nat.le_of_ble_eq_true rfl) (b := 25) (j := 0) (z := z) (rfl) (rfl) hdg k
theorem p_mo6 (hC : Cx p c cc nL s m args own X B) (hI : IS X a B s S H locs) {z : Int} {index : Nat} (hlk : Cond.fieldLink own index RX7 (TX7 6).2.1 (TX7 6).2.2.1 ∈ TB) (hdg : decode cc pc = .ok (.putfield index, 3)) (k : ∀ (H1 : Heap) (locs1 : List Loc), IS X a B s (up S (25) (1) z) H1 locs1 → W p l e R s m args below meth c H1 locs1 cells slots Q (F0 m (pc + 3) ls rest)) : W p l e R s m args below meth c H locs cells slots Q (F0 m pc ls (.int (J z) :: .ref (a (49)) :: rest)) := r_put hC hI iw_X7 tyX7_ok nmX7 rfl (by decide) (rfl) 6 (by decide) hlk rfl rfl (ty := .int) (by decide +kernel) rfl rfl (Nat.le_of_ble_eq_true rfl) (b := 25) (j := 1) (z := z) (rfl) (rfl) hdg k
theorem p_mo7 (hC : Cx p c cc nL s m args own X B) (hI : IS X a B s S H locs) {z : Int} {index : Nat} (hlk : Cond.fieldLink own index RX7 (TX7 7).2.1 (TX7 7).2.2.1 ∈ TB) (hdg : decode cc pc = .ok (.putfield index, 3)) (k : ∀ (H1 : Heap) (locs1 : List Loc), IS X a B s (up S (25) (2) z) H1 locs1 → W p l e R s m args below meth c H1 locs1 cells slots Q (F0 m (pc + 3) ls rest)) : W p l e R s m args below meth c H locs cells slots Q (F0 m pc ls (.int (J z) :: .ref (a (49)) :: rest)) := r_put hC hI iw_X7 tyX7_ok nmX7 rfl (by decide) (rfl) 7 (by decide) hlk rfl rfl (ty := .int) (by decide +kernel) rfl rfl (Nat.le_of_ble_eq_true rfl) (b := 25) (j := 2) (z := z) (rfl) (rfl) hdg k
theorem p_mo8 (hC : Cx p c cc nL s m args own X B) (hI : IS X a B s S H locs) {z : Int} {index : Nat} (hlk : Cond.fieldLink own index RX7 (TX7 8).2.1 (TX7 8).2.2.1 ∈ TB) (hdg : decode cc pc = .ok (.putfield index, 3)) (k : ∀ (H1 : Heap) (locs1 : List Loc), IS X a B s (up S (25) (3) z) H1 locs1 → W p l e R s m args below meth c H1 locs1 cells slots Q (F0 m (pc + 3) ls rest)) : W p l e R s m args below meth c H locs cells slots Q (F0 m pc ls (.int (J z) :: .ref (a (49)) :: rest)) := r_put hC hI iw_X7 tyX7_ok nmX7 rfl (by decide) (rfl) 8 (by decide) hlk rfl rfl (ty := .int) (by decide +kernel) rfl rfl (Nat.le_of_ble_eq_true rfl) (b := 25) (j := 3) (z := z) (rfl) (rfl) hdg k
theorem p_mo10 (hC : Cx p c cc nL s m args own X B) (hI : IS X a B s S H locs) {z : Int} {index : Nat} (hlk : Cond.fieldLink own index RX7 (TX7 10).2.1 (TX7 10).2.2.1 ∈ TB) (hdg : decode cc pc = .ok (.putfield index, 3)) (k : ∀ (H1 : Heap) (locs1 : List Loc), IS X a B s (up S (25) (4) z) H1 locs1 → W p l e R s m args below meth c H1 locs1 cells slots Q (F0 m (pc + 3) ls rest)) : W p l e R s m args below meth c H locs cells slots Q (F0 m pc ls (.int (J z) :: .ref (a (49)) :: rest)) := r_put hC hI iw_X7 tyX7_ok nmX7 rfl (by decide) (rfl) 10 (by decide) hlk rfl rfl (ty := .int) (by decide +kernel) rfl rfl (Nat.le_of_ble_eq_true rfl) (b := 25) (j := 4) (z := z) (rfl) (rfl) hdg k
theorem p_mo9 (hC : Cx p c cc nL s m args own X B) (hI : IS X a B s S H locs) {z : Int} {index : Nat} (hlk : Cond.fieldLink own index RX7 (TX7 9).2.1 (TX7 9).2.2.1 ∈ TB) (hdg : decode cc pc = .ok (.putfield index, 3)) (k : ∀ (H1 : Heap) (locs1 : List Loc), IS X a B s (up S (32) (0) z) H1 locs1 → W p l e R s m args below meth c H1 locs1 cells slots Q (F0 m (pc + 3) ls rest)) : W p l e R s m args below meth c H locs cells slots Q (F0 m pc ls (.long (JL z) :: .ref (a (49)) :: rest)) := r_put hC hI iw_X7 tyX7_ok nmX7 rfl (by decide) (rfl) 9 (by decide) hlk rfl rfl (ty := .long) (by decide +kernel) rfl rfl (Nat.le_of_ble_eq_true rfl) (b := 32) (j := 0) (z := z) (rfl) (rfl) hdg k
theorem p_mo11 (hC : Cx p c cc nL s m args own X B) (hI : IS X a B s S H locs) {z : Int} (hz : z = 0 ∨ z = 1) {index : Nat} (hlk : Cond.fieldLink own index RX7 (TX7 11).2.1 (TX7 11).2.2.1 ∈ TB) (hdg : decode cc pc = .ok (.putfield index, 3)) (k : ∀ (H1 : Heap) (locs1 : List Loc), IS X a B s (up S (25) (5) z) H1 locs1 → W p l e R s m args below meth c H1 locs1 cells slots Q (F0 m (pc + 3) ls rest)) : W p l e R s m args below meth c H locs cells slots Q (F0 m pc ls (.int (J z) :: .ref (a (49)) :: rest)) := r_put hC hI iw_X7 tyX7_ok nmX7 rfl (by decide) (rfl) 11 (by decide) hlk rfl rfl (ty := .boolean) (by decide +kernel) (by rcases hz with rfl | rfl <;> rfl) (by rcases hz with rfl | rfl <;> rfl) (Nat.le_of_ble_eq_true rfl) (b := 25) (j := 5) (z := z) (rfl) (rfl) hdg k
theorem p_mo18 (hC : Cx p c cc nL s m args own X B) (hI : IS X a B s S H locs) {z : Int} (hz : z = 0 ∨ z = 1) {index : Nat} (hlk : Cond.fieldLink own index RX7 (TX7 18).2.1 (TX7 18).2.2.1 ∈ TB) (hdg : decode cc pc = .ok (.putfield index, 3)) (k : ∀ (H1 : Heap) (locs1 : List Loc), IS X a B s (up S (25) (6) z) H1 locs1 → W p l e R s m args below meth c H1 locs1 cells slots Q (F0 m (pc + 3) ls rest)) : W p l e R s m args below meth c H locs cells slots Q (F0 m pc ls (.int (J z) :: .ref (a (49)) :: rest)) := r_put hC hI iw_X7 tyX7_ok nmX7 rfl (by decide) (rfl) 18 (by decide) hlk rfl rfl (ty := .boolean) (by decide +kernel) (by rcases hz with rfl | rfl <;> rfl) (by rcases hz with rfl | rfl <;> rfl) (Nat.le_of_ble_eq_true rfl) (b := 25) (j := 6) (z := z) (rfl) (rfl) hdg k
end FW
section RC
variable {p : Program} {s : State} {m : MethodId} {args : Array Value} {c : Code} {H : Heap} {locs : List Loc} {cc : ByteArray} {nL : Nat} {own : String} {X : XT} {a : Nat → Nat} {B : Nat} {S : St}
theorem rc_pg (hC : Cx p c cc nL s m args own X B) (hI : IS X a B s S H locs) {k i : Nat} (hk : k < 3) (hi : i < 8) : ∃ cell : Cell, H[a (25 + 8 * k + i)]? = some cell ∧ cell.vm.isStatics = false ∧ s.vm.findClass RX1 = some cell.cls := r_rec (cx := 25 + 8 * k + i) (ci := 0) (fs := pgF S k i) (q := (RX1, TX1, 5)) hC hI (by omega) (ce_pg X a S hk hi) rfl
theorem rc_sc (hC : Cx p c cc nL s m args own X B) (hI : IS X a B s S H locs) {k : Nat} (hk : k < 3) : ∃ cell : Cell, H[a (2 + k)]? = some cell ∧ cell.vm.isStatics = false ∧ s.vm.findClass RX2 = some cell.cls := r_rec (cx := 2 + k) (ci := 1) (fs := scF a S k) (q := (RX2, TX2, 9)) hC hI (by omega) (ce_sc X a S hk) rfl
theorem rc_sh (hC : Cx p c cc nL s m args own X B) (hI : IS X a B s S H locs) {i : Nat} (hi : i < 4) : ∃ cell : Cell, H[a (17 + i)]? = some cell ∧ cell.vm.isStatics = false ∧ s.vm.findClass RX3 = some cell.cls := r_rec (cx := 17 + i) (ci := 2) (fs := shF a S i) (q := (RX3, TX3, 3)) hC hI (by omega) (ce_sh X a S hi) rfl
theorem rc_ta (hC : Cx p c cc nL s m args own X B) (hI : IS X a B s S H locs) : ∃ cell : Cell, H[a (5)]? = some cell ∧ cell.vm.isStatics = false ∧ s.vm.findClass RX4 = some cell.cls := r_rec (cx := 5) (ci := 3) (fs := taF a S) (q := (RX4, TX4, 6)) hC hI (by decide) (rfl) rfl
theorem rc_in (hC : Cx p c cc nL s m args own X B) (hI : IS X a B s S H locs) : ∃ cell : Cell, H[a (0)]? = some cell ∧ cell.vm.isStatics = false ∧ s.vm.findClass RX6 = some cell.cls := r_rec (cx := 0) (ci := 4) (fs := inF a S) (q := (RX6, TX6, 7)) hC hI (by decide) (rfl) rfl
theorem rc_mo (hC : Cx p c cc nL s m args own X B) (hI : IS X a B s S H locs) : ∃ cell : Cell, H[a (49)]? = some cell ∧ cell.vm.isStatics = false ∧ s.vm.findClass RX7 = some cell.cls := r_rec (cx := 49) (ci := 5) (fs := moF a S) (q := (RX7, TX7, 19)) hC hI (by decide) (rfl) rfl
end RC
theorem ev_X6_jar : EV yX6_jar RX6 cX6_jar 4 (some .int) 2 := ⟨wm_X6_jar, ws_X6_jar, wi_RX6, wc_X6_jar, by decide +kernel⟩
theorem es_X2_mostInJar : ES yX2_mostInJar cX2_mostInJar 1 (some .int) 1 := ⟨wt_X2_mostInJar, wi_RX2, wc_X2_mostInJar, by decide +kernel⟩
theorem es_X6_isWithin : ES yX6_isWithin cX6_isWithin 3 (some .boolean) 3 := ⟨wt_X6_isWithin, wi_RX6, wc_X6_isWithin, by decide +kernel⟩
theorem ev_X6_found : EV yX6_found RX6 cX6_found 2 (some .int) 1 := ⟨wm_X6_found, ws_X6_found, wi_RX6, wc_X6_found, by decide +kernel⟩
theorem ev_X2_jarHolds : EV yX2_jarHolds RX2 cX2_jarHolds 2 (some .int) 1 := ⟨wm_X2_jarHolds, ws_X2_jarHolds, wi_RX2, wc_X2_jarHolds, by decide +kernel⟩
theorem ev_X2_fillJar : EV yX2_fillJar RX2 cX2_fillJar 3 none 2 := ⟨wm_X2_fillJar, ws_X2_fillJar, wi_RX2, wc_X2_fillJar, by decide +kernel⟩
theorem ev_X6_dark : EV yX6_dark RX6 cX6_dark 4 (some .int) 2 := ⟨wm_X6_dark, ws_X6_dark, wi_RX6, wc_X6_dark, by decide +kernel⟩
theorem ev_X6_now : EV yX6_now RX6 cX6_now 2 (some .int) 1 := ⟨wm_X6_now, ws_X6_now, wi_RX6, wc_X6_now, by decide +kernel⟩
theorem ev_X2_darkOn : EV yX2_darkOn RX2 cX2_darkOn 2 (some .int) 1 := ⟨wm_X2_darkOn, ws_X2_darkOn, wi_RX2, wc_X2_darkOn, by decide +kernel⟩
theorem es_J9_floorMod_7cf53 : ES yJ9_floorMod_7cf53 cJ9_floorMod_7cf53 3 (some .int) 2 := ⟨wt_J9_floorMod_7cf53, wi_RJ9, wc_J9_floorMod_7cf53, by decide +kernel⟩
theorem ev_X2_notWhite : EV yX2_notWhite RX2 cX2_notWhite 3 (some .int) 0 := ⟨wm_X2_notWhite, ws_X2_notWhite, wi_RX2, wc_X2_notWhite, by decide +kernel⟩
theorem ev_X2_believedTogether : EV yX2_believedTogether RX2 cX2_believedTogether 5 (some .int) 2 := ⟨wm_X2_believedTogether, ws_X2_believedTogether, wi_RX2, wc_X2_believedTogether, by decide +kernel⟩
theorem ev_X1_believedOn : EV yX1_believedOn RX1 cX1_believedOn 3 (some .int) 2 := ⟨wm_X1_believedOn, ws_X1_believedOn, wi_RX1, wc_X1_believedOn, by decide +kernel⟩
theorem ev_X1_believedAs : EV yX1_believedAs RX1 cX1_believedAs 6 (some .int) 4 := ⟨wm_X1_believedAs, ws_X1_believedAs, wi_RX1, wc_X1_believedAs, by decide +kernel⟩
theorem es_X0_fades : ES yX0_fades cX0_fades 6 (some .int) 3 := ⟨wt_X0_fades, wi_RX0, wc_X0_fades, by decide +kernel⟩
theorem es_X1_faded : ES yX1_faded cX1_faded 3 (some .int) 3 := ⟨wt_X1_faded, wi_RX1, wc_X1_faded, by decide +kernel⟩
theorem es_J9_max_7cf53 : ES yJ9_max_7cf53 cJ9_max_7cf53 2 (some .int) 2 := ⟨wt_J9_max_7cf53, wi_RJ9, wc_J9_max_7cf53, by decide +kernel⟩
theorem es_X0_believed : ES yX0_believed cX0_believed 7 (some .int) 4 := ⟨wt_X0_believed, wi_RX0, wc_X0_believed, by decide +kernel⟩
theorem ev_X6_scribe : EV yX6_scribe RX6 cX6_scribe 3 (some .int) 2 := ⟨wm_X6_scribe, ws_X6_scribe, wi_RX6, wc_X6_scribe, by decide +kernel⟩
theorem es_X0_isKind : ES yX0_isKind cX0_isKind 1 (some .boolean) 1 := ⟨wt_X0_isKind, wi_RX0, wc_X0_isKind, by decide +kernel⟩
theorem ev_X2_isFull : EV yX2_isFull RX2 cX2_isFull 1 (some .boolean) 0 := ⟨wm_X2_isFull, ws_X2_isFull, wi_RX2, wc_X2_isFull, by decide +kernel⟩
theorem ev_X2_hasInkFor : EV yX2_hasInkFor RX2 cX2_hasInkFor 3 (some .boolean) 2 := ⟨wm_X2_hasInkFor, ws_X2_hasInkFor, wi_RX2, wc_X2_hasInkFor, by decide +kernel⟩
theorem es_X0_costs : ES yX0_costs cX0_costs 5 (some .int) 2 := ⟨wt_X0_costs, wi_RX0, wc_X0_costs, by decide +kernel⟩
theorem ev_X2_addPage : EV yX2_addPage RX2 cX2_addPage 4 (some .int) 2 := ⟨wm_X2_addPage, ws_X2_addPage, wi_RX2, wc_X2_addPage, by decide +kernel⟩
theorem ev_X2_spendInkOn : EV yX2_spendInkOn RX2 cX2_spendInkOn 2 none 1 := ⟨wm_X2_spendInkOn, ws_X2_spendInkOn, wi_RX2, wc_X2_spendInkOn, by decide +kernel⟩
theorem es_X0_takes : ES yX0_takes cX0_takes 3 (some .int) 2 := ⟨wt_X0_takes, wi_RX0, wc_X0_takes, by decide +kernel⟩
theorem es_J9_min_7cf53 : ES yJ9_min_7cf53 cJ9_min_7cf53 2 (some .int) 2 := ⟨wt_J9_min_7cf53, wi_RJ9, wc_J9_min_7cf53, by decide +kernel⟩
theorem ev_X6_of : EV yX6_of RX6 cX6_of 4 (some .int) 2 := ⟨wm_X6_of, ws_X6_of, wi_RX6, wc_X6_of, by decide +kernel⟩
theorem ev_X2_hasPage : EV yX2_hasPage RX2 cX2_hasPage 2 (some .boolean) 1 := ⟨wm_X2_hasPage, ws_X2_hasPage, wi_RX2, wc_X2_hasPage, by decide +kernel⟩
theorem ev_X6_set : EV yX6_set RX6 cX6_set 5 (some .int) 3 := ⟨wm_X6_set, ws_X6_set, wi_RX6, wc_X6_set, by decide +kernel⟩
theorem es_X1_least : ES yX1_least cX1_least 1 (some .int) 1 := ⟨wt_X1_least, wi_RX1, wc_X1_least, by decide +kernel⟩
theorem es_X1_most : ES yX1_most cX1_most 1 (some .int) 1 := ⟨wt_X1_most, wi_RX1, wc_X1_most, by decide +kernel⟩
theorem ev_X1_has : EV yX1_has RX1 cX1_has 2 (some .int) 1 := ⟨wm_X1_has, ws_X1_has, wi_RX1, wc_X1_has, by decide +kernel⟩
theorem ev_X1_put : EV yX1_put RX1 cX1_put 3 none 2 := ⟨wm_X1_put, ws_X1_put, wi_RX1, wc_X1_put, by decide +kernel⟩
theorem ev_X6_turn : EV yX6_turn RX6 cX6_turn 4 (some .int) 2 := ⟨wm_X6_turn, ws_X6_turn, wi_RX6, wc_X6_turn, by decide +kernel⟩
theorem ev_X6_as : EV yX6_as RX6 cX6_as 3 (some .int) 2 := ⟨wm_X6_as, ws_X6_as, wi_RX6, wc_X6_as, by decide +kernel⟩
theorem es_X0_isOneOf : ES yX0_isOneOf cX0_isOneOf 2 (some .boolean) 2 := ⟨wt_X0_isOneOf, wi_RX0, wc_X0_isOneOf, by decide +kernel⟩
theorem ev_X6_looks : EV yX6_looks RX6 cX6_looks 4 (some .int) 1 := ⟨wm_X6_looks, ws_X6_looks, wi_RX6, wc_X6_looks, by decide +kernel⟩
theorem ev_X6_over : EV yX6_over RX6 cX6_over 3 (some .int) 1 := ⟨wm_X6_over, ws_X6_over, wi_RX6, wc_X6_over, by decide +kernel⟩
theorem ev_X6_nights : EV yX6_nights RX6 cX6_nights 2 (some .int) 1 := ⟨wm_X6_nights, ws_X6_nights, wi_RX6, wc_X6_nights, by decide +kernel⟩
theorem ev_X2_letGo : EV yX2_letGo RX2 cX2_letGo 4 none 1 := ⟨wm_X2_letGo, ws_X2_letGo, wi_RX2, wc_X2_letGo, by decide +kernel⟩
theorem ev_X2_darkTogether : EV yX2_darkTogether RX2 cX2_darkTogether 4 (some .int) 1 := ⟨wm_X2_darkTogether, ws_X2_darkTogether, wi_RX2, wc_X2_darkTogether, by decide +kernel⟩
theorem ev_X2_inkWith : EV yX2_inkWith RX2 cX2_inkWith 2 (some .int) 1 := ⟨wm_X2_inkWith, ws_X2_inkWith, wi_RX2, wc_X2_inkWith, by decide +kernel⟩
theorem ev_X1_blackOn : EV yX1_blackOn RX1 cX1_blackOn 2 (some .int) 1 := ⟨wm_X1_blackOn, ws_X1_blackOn, wi_RX1, wc_X1_blackOn, by decide +kernel⟩
theorem ev_X6_ink : EV yX6_ink RX6 cX6_ink 2 (some .int) 1 := ⟨wm_X6_ink, ws_X6_ink, wi_RX6, wc_X6_ink, by decide +kernel⟩
theorem ev_X2_inkOn : EV yX2_inkOn RX2 cX2_inkOn 3 (some .int) 2 := ⟨wm_X2_inkOn, ws_X2_inkOn, wi_RX2, wc_X2_inkOn, by decide +kernel⟩
theorem ev_X6_on : EV yX6_on RX6 cX6_on 5 (some .int) 3 := ⟨wm_X6_on, ws_X6_on, wi_RX6, wc_X6_on, by decide +kernel⟩
theorem ev_X6_all : EV yX6_all RX6 cX6_all 2 (some .int) 1 := ⟨wm_X6_all, ws_X6_all, wi_RX6, wc_X6_all, by decide +kernel⟩
theorem ev_X6_white : EV yX6_white RX6 cX6_white 2 (some .int) 1 := ⟨wm_X6_white, ws_X6_white, wi_RX6, wc_X6_white, by decide +kernel⟩
theorem ev_X1_firstWhite : EV yX1_firstWhite RX1 cX1_firstWhite 3 (some .int) 1 := ⟨wm_X1_firstWhite, ws_X1_firstWhite, wi_RX1, wc_X1_firstWhite, by decide +kernel⟩
theorem ev_X6_orNone : EV yX6_orNone RX6 cX6_orNone 2 (some .int) 1 := ⟨wm_X6_orNone, ws_X6_orNone, wi_RX6, wc_X6_orNone, by decide +kernel⟩
theorem ev_X6_comes : EV yX6_comes RX6 cX6_comes 2 (some .int) 1 := ⟨wm_X6_comes, ws_X6_comes, wi_RX6, wc_X6_comes, by decide +kernel⟩
theorem ev_X2_firstWithInk : EV yX2_firstWithInk RX2 cX2_firstWithInk 5 (some .int) 2 := ⟨wm_X2_firstWithInk, ws_X2_firstWithInk, wi_RX2, wc_X2_firstWithInk, by decide +kernel⟩
theorem ev_X6_when : EV yX6_when RX6 cX6_when 3 (some .int) 2 := ⟨wm_X6_when, ws_X6_when, wi_RX6, wc_X6_when, by decide +kernel⟩
theorem ev_X2_blackestNight : EV yX2_blackestNight RX2 cX2_blackestNight 9 (some .int) 2 := ⟨wm_X2_blackestNight, ws_X2_blackestNight, wi_RX2, wc_X2_blackestNight, by decide +kernel⟩
theorem ev_X6_shade : EV yX6_shade RX6 cX6_shade 2 (some .int) 1 := ⟨wm_X6_shade, ws_X6_shade, wi_RX6, wc_X6_shade, by decide +kernel⟩
theorem ev_X2_bestShaded : EV yX2_bestShaded RX2 cX2_bestShaded 4 (some .int) 1 := ⟨wm_X2_bestShaded, ws_X2_bestShaded, wi_RX2, wc_X2_bestShaded, by decide +kernel⟩
theorem ev_X2_measureSun : EV yX2_measureSun RX2 cX2_measureSun 5 (some .int) 1 := ⟨wm_X2_measureSun, ws_X2_measureSun, wi_RX2, wc_X2_measureSun, by decide +kernel⟩
theorem ev_X6_enough : EV yX6_enough RX6 cX6_enough 3 (some .int) 2 := ⟨wm_X6_enough, ws_X6_enough, wi_RX6, wc_X6_enough, by decide +kernel⟩
theorem ev_X2_fewestBrothers : EV yX2_fewestBrothers RX2 cX2_fewestBrothers 5 (some .int) 2 := ⟨wm_X2_fewestBrothers, ws_X2_fewestBrothers, wi_RX2, wc_X2_fewestBrothers, by decide +kernel⟩
theorem ev_X6_kind : EV yX6_kind RX6 cX6_kind 3 (some .int) 2 := ⟨wm_X6_kind, ws_X6_kind, wi_RX6, wc_X6_kind, by decide +kernel⟩
theorem ev_X1_mostBelievedKind : EV yX1_mostBelievedKind RX1 cX1_mostBelievedKind 7 (some .int) 2 := ⟨wm_X1_mostBelievedKind, ws_X1_mostBelievedKind, wi_RX1, wc_X1_mostBelievedKind, by decide +kernel⟩
theorem ev_X6_lamp : EV yX6_lamp RX6 cX6_lamp 3 (some .int) 2 := ⟨wm_X6_lamp, ws_X6_lamp, wi_RX6, wc_X6_lamp, by decide +kernel⟩
theorem ev_X2_leastLamp : EV yX2_leastLamp RX2 cX2_leastLamp 4 (some .int) 2 := ⟨wm_X2_leastLamp, ws_X2_leastLamp, wi_RX2, wc_X2_leastLamp, by decide +kernel⟩
theorem ev_X6_longest : EV yX6_longest RX6 cX6_longest 2 (some .int) 1 := ⟨wm_X6_longest, ws_X6_longest, wi_RX6, wc_X6_longest, by decide +kernel⟩
theorem ev_X2_mostWords : EV yX2_mostWords RX2 cX2_mostWords 3 (some .int) 1 := ⟨wm_X2_mostWords, ws_X2_mostWords, wi_RX2, wc_X2_mostWords, by decide +kernel⟩
theorem ev_X6_sunny : EV yX6_sunny RX6 cX6_sunny 3 (some .int) 2 := ⟨wm_X6_sunny, ws_X6_sunny, wi_RX6, wc_X6_sunny, by decide +kernel⟩
theorem ev_X2_mostInSun : EV yX2_mostInSun RX2 cX2_mostInSun 7 (some .int) 2 := ⟨wm_X2_mostInSun, ws_X2_mostInSun, wi_RX2, wc_X2_mostInSun, by decide +kernel⟩
theorem es_J6_bitCount_0f7a4 : ES yJ6_bitCount_0f7a4 cJ6_bitCount_0f7a4 1 (some .int) 1 := ⟨wt_J6_bitCount_0f7a4, wi_RJ6, wc_J6_bitCount_0f7a4, by decide +kernel⟩
theorem ev_X2_takenBySun : EV yX2_takenBySun RX2 cX2_takenBySun 4 (some .int) 1 := ⟨wm_X2_takenBySun, ws_X2_takenBySun, wi_RX2, wc_X2_takenBySun, by decide +kernel⟩
theorem ev_X6_feed : EV yX6_feed RX6 cX6_feed 4 (some .int) 2 := ⟨wm_X6_feed, ws_X6_feed, wi_RX6, wc_X6_feed, by decide +kernel⟩
theorem ev_X4_addByte : EV yX4_addByte RX4 cX4_addByte 2 none 1 := ⟨wm_X4_addByte, ws_X4_addByte, wi_RX4, wc_X4_addByte, by decide +kernel⟩
theorem ev_X6_wipe : EV yX6_wipe RX6 cX6_wipe 2 (some .int) 0 := ⟨wm_X6_wipe, ws_X6_wipe, wi_RX6, wc_X6_wipe, by decide +kernel⟩
theorem ev_X6_text : EV yX6_text RX6 cX6_text 2 (some .int) 0 := ⟨wm_X6_text, ws_X6_text, wi_RX6, wc_X6_text, by decide +kernel⟩
theorem ev_X2_become : EV yX2_become RX2 cX2_become 3 none 1 := ⟨wm_X2_become, ws_X2_become, wi_RX2, wc_X2_become, by decide +kernel⟩
theorem ev_X1_become : EV yX1_become RX1 cX1_become 2 none 1 := ⟨wm_X1_become, ws_X1_become, wi_RX1, wc_X1_become, by decide +kernel⟩
theorem es_X5_tell : ES yX5_tell cX5_tell 4 (some .int) 2 := ⟨wt_X5_tell, wi_RX5, wc_X5_tell, by decide +kernel⟩
theorem ev_X4_toFirstToken : EV yX4_toFirstToken RX4 cX4_toFirstToken 1 none 0 := ⟨wm_X4_toFirstToken, ws_X4_toFirstToken, wi_RX4, wc_X4_toFirstToken, by decide +kernel⟩
theorem ev_X4_toNextToken : EV yX4_toNextToken RX4 cX4_toNextToken 1 none 0 := ⟨wm_X4_toNextToken, ws_X4_toNextToken, wi_RX4, wc_X4_toNextToken, by decide +kernel⟩
theorem es_X4_isLetter : ES yX4_isLetter cX4_isLetter 1 (some .boolean) 1 := ⟨wt_X4_isLetter, wi_RX4, wc_X4_isLetter, by decide +kernel⟩
theorem ev_X4_passLetters : EV yX4_passLetters RX4 cX4_passLetters 1 none 0 := ⟨wm_X4_passLetters, ws_X4_passLetters, wi_RX4, wc_X4_passLetters, by decide +kernel⟩
theorem es_X4_isDigit : ES yX4_isDigit cX4_isDigit 1 (some .boolean) 1 := ⟨wt_X4_isDigit, wi_RX4, wc_X4_isDigit, by decide +kernel⟩
theorem ev_X4_passDigits : EV yX4_passDigits RX4 cX4_passDigits 1 none 0 := ⟨wm_X4_passDigits, ws_X4_passDigits, wi_RX4, wc_X4_passDigits, by decide +kernel⟩
theorem es_X5_tellItem : ES yX5_tellItem cX5_tellItem 3 (some .boolean) 2 := ⟨wt_X5_tellItem, wi_RX5, wc_X5_tellItem, by decide +kernel⟩
theorem es_X0_nameOf : ES yX0_nameOf cX0_nameOf 1 (some (.object "java/lang/String")) 1 := ⟨wt_X0_nameOf, wi_RX0, wc_X0_nameOf, by decide +kernel⟩
theorem ev_X4_isWord : EV yX4_isWord RX4 cX4_isWord 3 (some .boolean) 1 := ⟨wm_X4_isWord, ws_X4_isWord, wi_RX4, wc_X4_isWord, by decide +kernel⟩
theorem ev_J0_length_8abf5 : EV yJ0_length_8abf5 RJ0 cJ0_length_8abf5 1 (some .int) 0 := ⟨wm_J0_length_8abf5, ws_J0_length_8abf5, wi_RJ0, wc_J0_length_8abf5, by decide +kernel⟩
theorem ev_J0_coder_7d493 : EV yJ0_coder_7d493 RJ0 cJ0_coder_7d493 1 (some .byte) 0 := ⟨wm_J0_coder_7d493, ws_J0_coder_7d493, wi_RJ0, wc_J0_coder_7d493, by decide +kernel⟩
theorem ev_J0_charAt_5068e : EV yJ0_charAt_5068e RJ0 cJ0_charAt_5068e 2 (some .char) 1 := ⟨wm_J0_charAt_5068e, ws_J0_charAt_5068e, wi_RJ0, wc_J0_charAt_5068e, by decide +kernel⟩
theorem ev_J0_isLatin1_aae02 : EV yJ0_isLatin1_aae02 RJ0 cJ0_isLatin1_aae02 1 (some .boolean) 0 := ⟨wm_J0_isLatin1_aae02, ws_J0_isLatin1_aae02, wi_RJ0, wc_J0_isLatin1_aae02, by decide +kernel⟩
theorem es_J1_charAt_3b067 : ES yJ1_charAt_3b067 cJ1_charAt_3b067 2 (some .char) 2 := ⟨wt_J1_charAt_3b067, wi_RJ1, wc_J1_charAt_3b067, by decide +kernel⟩
theorem es_J0_checkIndex_df160 : ES yJ0_checkIndex_df160 cJ0_checkIndex_df160 2 none 2 := ⟨wt_J0_checkIndex_df160, wi_RJ0, wc_J0_checkIndex_df160, by decide +kernel⟩
theorem es_J3_checkIndex_8e157 : ES yJ3_checkIndex_8e157 cJ3_checkIndex_8e157 3 (some .int) 3 := ⟨wt_J3_checkIndex_8e157, wi_RJ3, wc_J3_checkIndex_8e157, by decide +kernel⟩
theorem es_J2_charAt_3b067 : ES yJ2_charAt_3b067 cJ2_charAt_3b067 2 (some .char) 2 := ⟨wt_J2_charAt_3b067, wi_RJ2, wc_J2_charAt_3b067, by decide +kernel⟩
theorem es_J2_checkIndex_2214a : ES yJ2_checkIndex_2214a cJ2_checkIndex_2214a 2 none 2 := ⟨wt_J2_checkIndex_2214a, wi_RJ2, wc_J2_checkIndex_2214a, by decide +kernel⟩
theorem es_J2_length_9d52b : ES yJ2_length_9d52b cJ2_length_9d52b 1 (some .int) 1 := ⟨wt_J2_length_9d52b, wi_RJ2, wc_J2_length_9d52b, by decide +kernel⟩
theorem es_J2_getChar_3b067 : ES yJ2_getChar_3b067 cJ2_getChar_3b067 2 (some .char) 2 := ⟨wt_J2_getChar_3b067, wi_RJ2, wc_J2_getChar_3b067, by decide +kernel⟩
theorem es_X5_tellPage : ES yX5_tellPage cX5_tellPage 5 (some .boolean) 3 := ⟨wt_X5_tellPage, wi_RX5, wc_X5_tellPage, by decide +kernel⟩
theorem ev_X4_number : EV yX4_number RX4 cX4_number 3 (some .int) 2 := ⟨wm_X4_number, ws_X4_number, wi_RX4, wc_X4_number, by decide +kernel⟩
theorem es_X5_tellDark : ES yX5_tellDark cX5_tellDark 4 (some .boolean) 2 := ⟨wt_X5_tellDark, wi_RX5, wc_X5_tellDark, by decide +kernel⟩
theorem es_X5_tellJar : ES yX5_tellJar cX5_tellJar 4 (some .boolean) 3 := ⟨wt_X5_tellJar, wi_RX5, wc_X5_tellJar, by decide +kernel⟩
theorem ev_X6_sheet : EV yX6_sheet RX6 cX6_sheet 4 (some .int) 3 := ⟨wm_X6_sheet, ws_X6_sheet, wi_RX6, wc_X6_sheet, by decide +kernel⟩
theorem es_X6_isSheet : ES yX6_isSheet cX6_isSheet 1 (some .boolean) 1 := ⟨wt_X6_isSheet, wi_RX6, wc_X6_isSheet, by decide +kernel⟩
theorem es_X3_mayHaveBits : ES yX3_mayHaveBits cX3_mayHaveBits 1 (some .boolean) 1 := ⟨wt_X3_mayHaveBits, wi_RX3, wc_X3_mayHaveBits, by decide +kernel⟩
theorem ev_X3_layOut : EV yX3_layOut RX3 cX3_layOut 3 none 2 := ⟨wm_X3_layOut, ws_X3_layOut, wi_RX3, wc_X3_layOut, by decide +kernel⟩
theorem es_J7_fill_d0a16 : ES yJ7_fill_d0a16 cJ7_fill_d0a16 5 none 2 := ⟨wt_J7_fill_d0a16, wi_RJ7, wc_J7_fill_d0a16, by decide +kernel⟩
theorem ev_X6_write : EV yX6_write RX6 cX6_write 7 (some .long) 3 := ⟨wm_X6_write, ws_X6_write, wi_RX6, wc_X6_write, by decide +kernel⟩
theorem ev_X3_isMissing : EV yX3_isMissing RX3 cX3_isMissing 1 (some .boolean) 0 := ⟨wm_X3_isMissing, ws_X3_isMissing, wi_RX3, wc_X3_isMissing, by decide +kernel⟩
theorem ev_X3_lowestBits : EV yX3_lowestBits RX3 cX3_lowestBits 3 (some .long) 1 := ⟨wm_X3_lowestBits, ws_X3_lowestBits, wi_RX3, wc_X3_lowestBits, by decide +kernel⟩
theorem ev_X6_copy : EV yX6_copy RX6 cX6_copy 6 (some .int) 5 := ⟨wm_X6_copy, ws_X6_copy, wi_RX6, wc_X6_copy, by decide +kernel⟩
theorem ev_X3_hasRow : EV yX3_hasRow RX3 cX3_hasRow 3 (some .boolean) 2 := ⟨wm_X3_hasRow, ws_X3_hasRow, wi_RX3, wc_X3_hasRow, by decide +kernel⟩
theorem ev_X6_lays : EV yX6_lays RX6 cX6_lays 2 (some .int) 1 := ⟨wm_X6_lays, ws_X6_lays, wi_RX6, wc_X6_lays, by decide +kernel⟩
theorem ev_X2_blacken : EV yX2_blacken RX2 cX2_blacken 6 (some .int) 1 := ⟨wm_X2_blacken, ws_X2_blacken, wi_RX2, wc_X2_blacken, by decide +kernel⟩
theorem ev_X6_book : EV yX6_book RX6 cX6_book 4 (some .int) 2 := ⟨wm_X6_book, ws_X6_book, wi_RX6, wc_X6_book, by decide +kernel⟩
theorem ev_X6_read : EV yX6_read RX6 cX6_read 3 (some .int) 2 := ⟨wm_X6_read, ws_X6_read, wi_RX6, wc_X6_read, by decide +kernel⟩
theorem ev_X1_waysToFadeAs : EV yX1_waysToFadeAs RX1 cX1_waysToFadeAs 6 (some .int) 1 := ⟨wm_X1_waysToFadeAs, ws_X1_waysToFadeAs, wi_RX1, wc_X1_waysToFadeAs, by decide +kernel⟩
theorem es_X1_tells : ES yX1_tells cX1_tells 4 (some .boolean) 3 := ⟨wt_X1_tells, wi_RX1, wc_X1_tells, by decide +kernel⟩
theorem ev_X6_image : EV yX6_image RX6 cX6_image 1 (some .int) 0 := ⟨wm_X6_image, ws_X6_image, wi_RX6, wc_X6_image, by decide +kernel⟩
theorem ev_X6_undo : EV yX6_undo RX6 cX6_undo 1 (some .int) 0 := ⟨wm_X6_undo, ws_X6_undo, wi_RX6, wc_X6_undo, by decide +kernel⟩
theorem ev_X6_tear : EV yX6_tear RX6 cX6_tear 2 (some .int) 0 := ⟨wm_X6_tear, ws_X6_tear, wi_RX6, wc_X6_tear, by decide +kernel⟩
theorem ev_X6_count : EV yX6_count RX6 cX6_count 2 (some .int) 1 := ⟨wm_X6_count, ws_X6_count, wi_RX6, wc_X6_count, by decide +kernel⟩
theorem ev_X2_pagesInSun : EV yX2_pagesInSun RX2 cX2_pagesInSun 3 (some .int) 0 := ⟨wm_X2_pagesInSun, ws_X2_pagesInSun, wi_RX2, wc_X2_pagesInSun, by decide +kernel⟩
theorem ev_X2_wordsTogether : EV yX2_wordsTogether RX2 cX2_wordsTogether 3 (some .int) 0 := ⟨wm_X2_wordsTogether, ws_X2_wordsTogether, wi_RX2, wc_X2_wordsTogether, by decide +kernel⟩
theorem ev_X6_status : EV yX6_status RX6 cX6_status 4 (some .int) 1 := ⟨wm_X6_status, ws_X6_status, wi_RX6, wc_X6_status, by decide +kernel⟩
theorem ev_X7_jar : EV yX7_jar RX7 cX7_jar 3 (some .int) 2 := ⟨wm_X7_jar, ws_X7_jar, wi_RX7, wc_X7_jar, by decide +kernel⟩
theorem es_X7_in : ES yX7_in cX7_in 3 (some .boolean) 3 := ⟨wt_X7_in, wi_RX7, wc_X7_in, by decide +kernel⟩
theorem es_X7_mostOf : ES yX7_mostOf cX7_mostOf 1 (some .int) 1 := ⟨wt_X7_mostOf, wi_RX7, wc_X7_mostOf, by decide +kernel⟩
theorem ev_X7_becomes : EV yX7_becomes RX7 cX7_becomes 4 (some .int) 2 := ⟨wm_X7_becomes, ws_X7_becomes, wi_RX7, wc_X7_becomes, by decide +kernel⟩
theorem ev_X7_finds : EV yX7_finds RX7 cX7_finds 2 (some .int) 1 := ⟨wm_X7_finds, ws_X7_finds, wi_RX7, wc_X7_finds, by decide +kernel⟩
theorem ev_X7_dark : EV yX7_dark RX7 cX7_dark 3 (some .int) 2 := ⟨wm_X7_dark, ws_X7_dark, wi_RX7, wc_X7_dark, by decide +kernel⟩
theorem ev_X7_now : EV yX7_now RX7 cX7_now 2 (some .int) 1 := ⟨wm_X7_now, ws_X7_now, wi_RX7, wc_X7_now, by decide +kernel⟩
theorem ev_X7_darkNow : EV yX7_darkNow RX7 cX7_darkNow 1 (some .int) 0 := ⟨wm_X7_darkNow, ws_X7_darkNow, wi_RX7, wc_X7_darkNow, by decide +kernel⟩
theorem ev_X7_notWhite : EV yX7_notWhite RX7 cX7_notWhite 3 (some .int) 0 := ⟨wm_X7_notWhite, ws_X7_notWhite, wi_RX7, wc_X7_notWhite, by decide +kernel⟩
theorem ev_X7_its : EV yX7_its RX7 cX7_its 3 (some .int) 2 := ⟨wm_X7_its, ws_X7_its, wi_RX7, wc_X7_its, by decide +kernel⟩
theorem ev_X7_allBelieved : EV yX7_allBelieved RX7 cX7_allBelieved 3 (some .int) 0 := ⟨wm_X7_allBelieved, ws_X7_allBelieved, wi_RX7, wc_X7_allBelieved, by decide +kernel⟩
theorem ev_X7_believed : EV yX7_believed RX7 cX7_believed 7 (some .int) 1 := ⟨wm_X7_believed, ws_X7_believed, wi_RX7, wc_X7_believed, by decide +kernel⟩
theorem ev_X7_scribe : EV yX7_scribe RX7 cX7_scribe 3 (some .int) 2 := ⟨wm_X7_scribe, ws_X7_scribe, wi_RX7, wc_X7_scribe, by decide +kernel⟩
theorem es_X7_isKind : ES yX7_isKind cX7_isKind 1 (some .boolean) 1 := ⟨wt_X7_isKind, wi_RX7, wc_X7_isKind, by decide +kernel⟩
theorem es_X7_costs : ES yX7_costs cX7_costs 4 (some .int) 2 := ⟨wt_X7_costs, wi_RX7, wc_X7_costs, by decide +kernel⟩
theorem ev_X7_adds : EV yX7_adds RX7 cX7_adds 5 none 3 := ⟨wm_X7_adds, ws_X7_adds, wi_RX7, wc_X7_adds, by decide +kernel⟩
theorem ev_X7_puts : EV yX7_puts RX7 cX7_puts 4 none 3 := ⟨wm_X7_puts, ws_X7_puts, wi_RX7, wc_X7_puts, by decide +kernel⟩
theorem es_X7_takes : ES yX7_takes cX7_takes 2 (some .int) 2 := ⟨wt_X7_takes, wi_RX7, wc_X7_takes, by decide +kernel⟩
theorem es_X7_held : ES yX7_held cX7_held 3 (some .int) 3 := ⟨wt_X7_held, wi_RX7, wc_X7_held, by decide +kernel⟩
theorem ev_X7_of : EV yX7_of RX7 cX7_of 3 (some .int) 2 := ⟨wm_X7_of, ws_X7_of, wi_RX7, wc_X7_of, by decide +kernel⟩
theorem ev_X7_isOne : EV yX7_isOne RX7 cX7_isOne 2 (some .boolean) 1 := ⟨wm_X7_isOne, ws_X7_isOne, wi_RX7, wc_X7_isOne, by decide +kernel⟩
theorem ev_X7_fades : EV yX7_fades RX7 cX7_fades 3 (some .int) 1 := ⟨wm_X7_fades, ws_X7_fades, wi_RX7, wc_X7_fades, by decide +kernel⟩
theorem ev_X7_set : EV yX7_set RX7 cX7_set 4 (some .int) 3 := ⟨wm_X7_set, ws_X7_set, wi_RX7, wc_X7_set, by decide +kernel⟩
theorem es_X7_isPart : ES yX7_isPart cX7_isPart 2 (some .boolean) 2 := ⟨wt_X7_isPart, wi_RX7, wc_X7_isPart, by decide +kernel⟩
theorem ev_X7_turn : EV yX7_turn RX7 cX7_turn 3 (some .int) 2 := ⟨wm_X7_turn, ws_X7_turn, wi_RX7, wc_X7_turn, by decide +kernel⟩
theorem ev_X7_as : EV yX7_as RX7 cX7_as 5 (some .int) 2 := ⟨wm_X7_as, ws_X7_as, wi_RX7, wc_X7_as, by decide +kernel⟩
theorem ev_X7_looks : EV yX7_looks RX7 cX7_looks 3 (some .int) 1 := ⟨wm_X7_looks, ws_X7_looks, wi_RX7, wc_X7_looks, by decide +kernel⟩
theorem ev_X7_over : EV yX7_over RX7 cX7_over 3 (some .int) 1 := ⟨wm_X7_over, ws_X7_over, wi_RX7, wc_X7_over, by decide +kernel⟩
theorem ev_X7_nights : EV yX7_nights RX7 cX7_nights 2 (some .int) 1 := ⟨wm_X7_nights, ws_X7_nights, wi_RX7, wc_X7_nights, by decide +kernel⟩
theorem ev_X7_passes : EV yX7_passes RX7 cX7_passes 3 none 1 := ⟨wm_X7_passes, ws_X7_passes, wi_RX7, wc_X7_passes, by decide +kernel⟩
theorem ev_X7_oneNight : EV yX7_oneNight RX7 cX7_oneNight 3 none 0 := ⟨wm_X7_oneNight, ws_X7_oneNight, wi_RX7, wc_X7_oneNight, by decide +kernel⟩
theorem ev_X7_ink : EV yX7_ink RX7 cX7_ink 2 (some .int) 1 := ⟨wm_X7_ink, ws_X7_ink, wi_RX7, wc_X7_ink, by decide +kernel⟩
theorem ev_X7_moveAll : EV yX7_moveAll RX7 cX7_moveAll 4 none 2 := ⟨wm_X7_moveAll, ws_X7_moveAll, wi_RX7, wc_X7_moveAll, by decide +kernel⟩
theorem ev_X7_behind : EV yX7_behind RX7 cX7_behind 5 (some .int) 3 := ⟨wm_X7_behind, ws_X7_behind, wi_RX7, wc_X7_behind, by decide +kernel⟩
theorem ev_X7_on : EV yX7_on RX7 cX7_on 4 (some .int) 3 := ⟨wm_X7_on, ws_X7_on, wi_RX7, wc_X7_on, by decide +kernel⟩
theorem ev_X7_all : EV yX7_all RX7 cX7_all 2 (some .int) 1 := ⟨wm_X7_all, ws_X7_all, wi_RX7, wc_X7_all, by decide +kernel⟩
theorem ev_X7_white : EV yX7_white RX7 cX7_white 3 (some .int) 1 := ⟨wm_X7_white, ws_X7_white, wi_RX7, wc_X7_white, by decide +kernel⟩
theorem ev_X7_comes : EV yX7_comes RX7 cX7_comes 3 (some .int) 1 := ⟨wm_X7_comes, ws_X7_comes, wi_RX7, wc_X7_comes, by decide +kernel⟩
theorem ev_X7_when : EV yX7_when RX7 cX7_when 7 (some .int) 2 := ⟨wm_X7_when, ws_X7_when, wi_RX7, wc_X7_when, by decide +kernel⟩
theorem ev_X7_shade : EV yX7_shade RX7 cX7_shade 6 (some .int) 1 := ⟨wm_X7_shade, ws_X7_shade, wi_RX7, wc_X7_shade, by decide +kernel⟩
theorem ev_X7_enough : EV yX7_enough RX7 cX7_enough 5 (some .int) 2 := ⟨wm_X7_enough, ws_X7_enough, wi_RX7, wc_X7_enough, by decide +kernel⟩
theorem ev_X7_kind : EV yX7_kind RX7 cX7_kind 7 (some .int) 2 := ⟨wm_X7_kind, ws_X7_kind, wi_RX7, wc_X7_kind, by decide +kernel⟩
theorem ev_X7_lamp : EV yX7_lamp RX7 cX7_lamp 5 (some .int) 2 := ⟨wm_X7_lamp, ws_X7_lamp, wi_RX7, wc_X7_lamp, by decide +kernel⟩
theorem ev_X7_longest : EV yX7_longest RX7 cX7_longest 2 (some .int) 1 := ⟨wm_X7_longest, ws_X7_longest, wi_RX7, wc_X7_longest, by decide +kernel⟩
theorem ev_X7_wordsOf : EV yX7_wordsOf RX7 cX7_wordsOf 3 (some .int) 1 := ⟨wm_X7_wordsOf, ws_X7_wordsOf, wi_RX7, wc_X7_wordsOf, by decide +kernel⟩
theorem ev_X7_sunny : EV yX7_sunny RX7 cX7_sunny 6 (some .int) 2 := ⟨wm_X7_sunny, ws_X7_sunny, wi_RX7, wc_X7_sunny, by decide +kernel⟩
theorem es_X7_bits : ES yX7_bits cX7_bits 3 (some .int) 1 := ⟨wt_X7_bits, wi_RX7, wc_X7_bits, by decide +kernel⟩
theorem ev_X7_feed : EV yX7_feed RX7 cX7_feed 4 (some .int) 2 := ⟨wm_X7_feed, ws_X7_feed, wi_RX7, wc_X7_feed, by decide +kernel⟩
theorem ev_X7_wipe : EV yX7_wipe RX7 cX7_wipe 2 (some .int) 0 := ⟨wm_X7_wipe, ws_X7_wipe, wi_RX7, wc_X7_wipe, by decide +kernel⟩
theorem ev_X7_text : EV yX7_text RX7 cX7_text 3 (some .int) 0 := ⟨wm_X7_text, ws_X7_text, wi_RX7, wc_X7_text, by decide +kernel⟩
theorem ev_X7_advance : EV yX7_advance RX7 cX7_advance 2 none 0 := ⟨wm_X7_advance, ws_X7_advance, wi_RX7, wc_X7_advance, by decide +kernel⟩
theorem ev_X7_byteAt : EV yX7_byteAt RX7 cX7_byteAt 2 (some .int) 1 := ⟨wm_X7_byteAt, ws_X7_byteAt, wi_RX7, wc_X7_byteAt, by decide +kernel⟩
theorem es_X7_isLetter : ES yX7_isLetter cX7_isLetter 1 (some .boolean) 1 := ⟨wt_X7_isLetter, wi_RX7, wc_X7_isLetter, by decide +kernel⟩
theorem es_X7_isDigit : ES yX7_isDigit cX7_isDigit 1 (some .boolean) 1 := ⟨wt_X7_isDigit, wi_RX7, wc_X7_isDigit, by decide +kernel⟩
theorem ev_X7_wantItem : EV yX7_wantItem RX7 cX7_wantItem 3 none 0 := ⟨wm_X7_wantItem, ws_X7_wantItem, wi_RX7, wc_X7_wantItem, by decide +kernel⟩
theorem ev_X7_kindHere : EV yX7_kindHere RX7 cX7_kindHere 1 (some .int) 0 := ⟨wm_X7_kindHere, ws_X7_kindHere, wi_RX7, wc_X7_kindHere, by decide +kernel⟩
theorem ev_X7_isWord : EV yX7_isWord RX7 cX7_isWord 3 (some .boolean) 1 := ⟨wm_X7_isWord, ws_X7_isWord, wi_RX7, wc_X7_isWord, by decide +kernel⟩
theorem ev_X7_wantOne : EV yX7_wantOne RX7 cX7_wantOne 4 none 1 := ⟨wm_X7_wantOne, ws_X7_wantOne, wi_RX7, wc_X7_wantOne, by decide +kernel⟩
theorem ev_X7_wantNumber : EV yX7_wantNumber RX7 cX7_wantNumber 4 (some .int) 2 := ⟨wm_X7_wantNumber, ws_X7_wantNumber, wi_RX7, wc_X7_wantNumber, by decide +kernel⟩
theorem ev_X7_wantJar : EV yX7_wantJar RX7 cX7_wantJar 4 none 2 := ⟨wm_X7_wantJar, ws_X7_wantJar, wi_RX7, wc_X7_wantJar, by decide +kernel⟩
theorem ev_X7_sheet : EV yX7_sheet RX7 cX7_sheet 5 (some .int) 3 := ⟨wm_X7_sheet, ws_X7_sheet, wi_RX7, wc_X7_sheet, by decide +kernel⟩
theorem es_X7_isSheet : ES yX7_isSheet cX7_isSheet 1 (some .boolean) 1 := ⟨wt_X7_isSheet, wi_RX7, wc_X7_isSheet, by decide +kernel⟩
theorem ev_X7_write : EV yX7_write RX7 cX7_write 7 (some .long) 3 := ⟨wm_X7_write, ws_X7_write, wi_RX7, wc_X7_write, by decide +kernel⟩
theorem es_X7_narrow : ES yX7_narrow cX7_narrow 3 (some .long) 2 := ⟨wt_X7_narrow, wi_RX7, wc_X7_narrow, by decide +kernel⟩
theorem ev_X7_copy : EV yX7_copy RX7 cX7_copy 7 (some .int) 5 := ⟨wm_X7_copy, ws_X7_copy, wi_RX7, wc_X7_copy, by decide +kernel⟩
theorem ev_X7_isPart_ : EV yX7_isPart_ RX7 cX7_isPart_ 4 (some .boolean) 3 := ⟨wm_X7_isPart_, ws_X7_isPart_, wi_RX7, wc_X7_isPart_, by decide +kernel⟩
theorem ev_X7_lays : EV yX7_lays RX7 cX7_lays 7 (some .int) 1 := ⟨wm_X7_lays, ws_X7_lays, wi_RX7, wc_X7_lays, by decide +kernel⟩
theorem ev_X7_badSheet : EV yX7_badSheet RX7 cX7_badSheet 2 (some .int) 1 := ⟨wm_X7_badSheet, ws_X7_badSheet, wi_RX7, wc_X7_badSheet, by decide +kernel⟩
theorem ev_X7_book : EV yX7_book RX7 cX7_book 5 (some .int) 2 := ⟨wm_X7_book, ws_X7_book, wi_RX7, wc_X7_book, by decide +kernel⟩
theorem ev_X7_read : EV yX7_read RX7 cX7_read 6 (some .int) 2 := ⟨wm_X7_read, ws_X7_read, wi_RX7, wc_X7_read, by decide +kernel⟩
theorem ev_X7_isSo : EV yX7_isSo RX7 cX7_isSo 5 (some .boolean) 2 := ⟨wm_X7_isSo, ws_X7_isSo, wi_RX7, wc_X7_isSo, by decide +kernel⟩
theorem ev_X7_image : EV yX7_image RX7 cX7_image 1 (some .int) 0 := ⟨wm_X7_image, ws_X7_image, wi_RX7, wc_X7_image, by decide +kernel⟩
theorem ev_X7_undo : EV yX7_undo RX7 cX7_undo 1 (some .int) 0 := ⟨wm_X7_undo, ws_X7_undo, wi_RX7, wc_X7_undo, by decide +kernel⟩
theorem ev_X7_tear : EV yX7_tear RX7 cX7_tear 2 (some .int) 0 := ⟨wm_X7_tear, ws_X7_tear, wi_RX7, wc_X7_tear, by decide +kernel⟩
theorem ev_X7_count : EV yX7_count RX7 cX7_count 2 (some .int) 1 := ⟨wm_X7_count, ws_X7_count, wi_RX7, wc_X7_count, by decide +kernel⟩
theorem ev_X7_sumOf : EV yX7_sumOf RX7 cX7_sumOf 4 (some .int) 1 := ⟨wm_X7_sumOf, ws_X7_sumOf, wi_RX7, wc_X7_sumOf, by decide +kernel⟩
theorem ev_X7_status : EV yX7_status RX7 cX7_status 4 (some .int) 1 := ⟨wm_X7_status, ws_X7_status, wi_RX7, wc_X7_status, by decide +kernel⟩
end
section
theorem bI_01 {P : Prop} [Decidable P] : bI P = 0 ∨ bI P = 1 := by
  by_cases h : P
  · exact Or.inr (if_pos h)
  · exact Or.inl (if_neg h)
theorem bI_iff {P Q : Prop} [Decidable P] [Decidable Q] (h : P ↔ Q) : bI P = bI Q := by
  by_cases hP : P
  · rw [bI_t hP, bI_t (h.mp hP)]
  · rw [bI_f hP, bI_f (fun q => hP (h.mpr q))]
section R8
variable {p : Program} {l : Launch} {e : Env} {R : Room} {s : State} {m : MethodId} {args : Array Value} {below : List Frame} {meth : Method} {c : Code} {H : Heap} {locs : List Loc} {cells slots : Nat} {Q : State → Prop}
variable {cc : ByteArray} {nL pc : Nat} {own : String} {ls : Array Slot} {rest st : List Value} {X : XT} {a : Nat → Nat} {B : Nat} {S S' : St} {lv : List (Nat × Value)}
theorem r_nm {x : Int} (k : ∀ y : Int, y = x → W p l e R s m args below meth c H locs cells slots Q (F0 m pc ls (.int (J y) :: rest))) : W p l e R s m args below meth c H locs cells slots Q (F0 m pc ls (.int (J x) :: rest)) := k x rfl
theorem r_aret (hC : Cx p c cc nL s m args own X B) {cn : String} (hr : meth.sig.returnType = some (.object cn)) (hlk : meth.locks = false) (hI : IS X a B s S H locs) {x r : Nat} (er : x = r) (eS : S = S') (hdg : decode cc pc = .ok (.areturn, 1)) : W p l e R s m args below meth c H locs cells slots (MQ below (Qr X a B r S') args s cells slots (fun q => B ≤ q)) (F0 m pc ls [.ref x]) := by
  subst er; subst eS
  exact W.aret (v := .ref x) hC.1 hC.2.1 hr (Or.inl ⟨_, rfl⟩) (Or.inr ⟨_, rfl⟩) (fun t ht hW => ⟨⟨(), x, rfl, trivial, rfl, hI.iw hC ht hW⟩, hI.2.2.F ht⟩) hI.2.2.2.2 hdg hlk
theorem xor_nn {x y : Int32} (hx : 0 ≤ x.toInt) (hy : 0 ≤ y.toInt) : 0 ≤ (x ^^^ y).toInt := by
  have h1 : x.toBitVec.msb = false := by rw [BitVec.msb_eq_toInt]; simpa using hx
  have h2 : y.toBitVec.msb = false := by rw [BitVec.msb_eq_toInt]; simpa using hy
  have h3 : (x ^^^ y).toBitVec.msb = false := by rw [Int32.toBitVec_xor, BitVec.msb_xor, h1, h2]; rfl
  rw [BitVec.msb_eq_toInt] at h3
  exact Int.not_lt.mp (of_decide_eq_false h3)
theorem r_ixor (hC : Cx p c cc nL s m args own X B) {x y : Int} (hx : 0 ≤ x ∧ x ≤ 2147483647) (hy : 0 ≤ y ∧ y ≤ 2147483647) (hdg : decode cc pc = .ok (.ixor, 1)) (k : ∀ z : Int, 0 ≤ z → z ≤ 2147483647 → W p l e R s m args below meth c H locs cells slots Q (F0 m (pc + 1) ls (.int (J z) :: rest))) : W p l e R s m args below meth c H locs cells slots Q (F0 m pc ls (.int (J y) :: .int (J x) :: rest)) := by
  refine lv_ixor hC.1 hC.2.1 hdg ?_
  rw [J_of (J x ^^^ J y)]
  exact k _ (xor_nn (by rw [J_t (by omega)]; exact hx.1) (by rw [J_t (by omega)]; exact hy.1)) (J_rg _).2
end R8
def mxF (x y : Int) : Int := if x < y then y else x
def mnF (x y : Int) : Int := if y < x then y else x

set_option maxHeartbeats 4000000 in
set_option maxRecDepth 100000 in
theorem c_J9_max_7cf53 (l : Launch) (X : XT) (a : Nat → Nat) (B : Nat) (S : St) (x : Int) (y : Int) (hx : -2147483648 ≤ x ∧ x ≤ 2147483647) (hy : -2147483648 ≤ y ∧ y ≤ 2147483647) : CT l X a B 0 yJ9_max_7cf53 cJ9_max_7cf53 2 (some .int) [.int (J x), .int (J y)] S (Qi X a B (mxF x y) (S)) := by
  refine CT.of (by decide +kernel) (Nat.le_of_ble_eq_true rfl) ?_
  intro p e s m below meth c ls hC hr hlk hI hl
  have hC : Cx p c cJ9_max_7cf53 2 s m [.int (J x), .int (J y)].toArray RJ9 X B := hC
  have hl : lv_has ls 2 [(0, .int (J x)), (1, .int (J y))] := hl
  refine r_iload_n hC hl dJ9_max_7cf53_0 0 rfl ?_
  refine r_iload_n hC hl dJ9_max_7cf53_1 1 rfl ?_
  refine r_icmp_lt (tgt := 9) hC (by omega) (by omega) dJ9_max_7cf53_2 (by decide) (fun c_1 => ?_) (fun c_1 => ?_)
  · skip
    refine r_iload_n hC hl dJ9_max_7cf53_9 1 rfl ?_
    exact r_iret hC hr hlk hI (by unfold mxF; split <;> omega) (rfl) dJ9_max_7cf53_10
  · skip
    refine r_iload_n hC hl dJ9_max_7cf53_5 0 rfl ?_
    refine r_goto (tgt := 10) hC dJ9_max_7cf53_6 (by decide) ?_
    exact r_iret hC hr hlk hI (by unfold mxF; split <;> omega) (rfl) dJ9_max_7cf53_10

set_option maxHeartbeats 4000000 in
set_option maxRecDepth 100000 in
theorem c_J9_min_7cf53 (l : Launch) (X : XT) (a : Nat → Nat) (B : Nat) (S : St) (x : Int) (y : Int) (hx : -2147483648 ≤ x ∧ x ≤ 2147483647) (hy : -2147483648 ≤ y ∧ y ≤ 2147483647) : CT l X a B 0 yJ9_min_7cf53 cJ9_min_7cf53 2 (some .int) [.int (J x), .int (J y)] S (Qi X a B (mnF x y) (S)) := by
  refine CT.of (by decide +kernel) (Nat.le_of_ble_eq_true rfl) ?_
  intro p e s m below meth c ls hC hr hlk hI hl
  have hC : Cx p c cJ9_min_7cf53 2 s m [.int (J x), .int (J y)].toArray RJ9 X B := hC
  have hl : lv_has ls 2 [(0, .int (J x)), (1, .int (J y))] := hl
  refine r_iload_n hC hl dJ9_min_7cf53_0 0 rfl ?_
  refine r_iload_n hC hl dJ9_min_7cf53_1 1 rfl ?_
  refine r_icmp_gt (tgt := 9) hC (by omega) (by omega) dJ9_min_7cf53_2 (by decide) (fun c_1 => ?_) (fun c_1 => ?_)
  · skip
    refine r_iload_n hC hl dJ9_min_7cf53_9 1 rfl ?_
    exact r_iret hC hr hlk hI (by unfold mnF; split <;> omega) (rfl) dJ9_min_7cf53_10
  · skip
    refine r_iload_n hC hl dJ9_min_7cf53_5 0 rfl ?_
    refine r_goto (tgt := 10) hC dJ9_min_7cf53_6 (by decide) ?_
    exact r_iret hC hr hlk hI (by unfold mnF; split <;> omega) (rfl) dJ9_min_7cf53_10

set_option maxHeartbeats 4000000 in
set_option maxRecDepth 100000 in
theorem c_J9_floorMod_7cf53 (l : Launch) (X : XT) (a : Nat → Nat) (B : Nat) (S : St) (x : Int) (y : Int) (hx : 0 ≤ x ∧ x ≤ 2147483647) (hy : 0 < y ∧ y ≤ 2147483647) : CT l X a B 0 yJ9_floorMod_7cf53 cJ9_floorMod_7cf53 3 (some .int) [.int (J x), .int (J y)] S (Qi X a B (x % y) (S)) := by
  refine CT.of (by decide +kernel) (Nat.le_of_ble_eq_true rfl) ?_
  intro p e s m below meth c ls hC hr hlk hI hl
  have hC : Cx p c cJ9_floorMod_7cf53 3 s m [.int (J x), .int (J y)].toArray RJ9 X B := hC
  have hl : lv_has ls 3 [(0, .int (J x)), (1, .int (J y))] := hl
  have hm0 : 0 ≤ x % y := Int.emod_nonneg _ (by omega)
  have hm1 : x % y < y := Int.emod_lt_of_pos _ (by omega)
  refine r_iload_n hC hl dJ9_floorMod_7cf53_0 0 rfl ?_
  refine r_iload_n hC hl dJ9_floorMod_7cf53_1 1 rfl ?_
  refine r_irem hC (by omega) (by omega) dJ9_floorMod_7cf53_2 ?_
  refine r_istore_n (lv1 := [(2, .int (J (x % y))), (0, .int (J x)), (1, .int (J y))]) hC hl dJ9_floorMod_7cf53_3 2 rfl (by decide) rfl (fun ls hl => ?_)
  refine r_iload_n hC hl dJ9_floorMod_7cf53_4 1 rfl ?_
  refine r_iload_n hC hl dJ9_floorMod_7cf53_5 2 rfl ?_
  refine r_ixor hC (by omega) (by omega) dJ9_floorMod_7cf53_6 (fun z hz0 hz1 => ?_)
  refine r_if_ge (tgt := 18) hC (by omega) dJ9_floorMod_7cf53_7 (by decide) (fun c_1 => ?_) (fun c_1 => ?_)
  · skip
    refine r_iload_n hC hl dJ9_floorMod_7cf53_18 0 rfl ?_
    exact r_iret hC hr hlk hI (rfl) (rfl) dJ9_floorMod_7cf53_19
  · skip
    exfalso; omega

set_option maxHeartbeats 4000000 in
set_option maxRecDepth 100000 in
theorem c_X6_isWithin (l : Launch) (X : XT) (a : Nat → Nat) (B : Nat) (S : St) (v : Int) (lo : Int) (hi : Int) (hv : -2147483648 ≤ v ∧ v ≤ 2147483647) (hlo : -2147483648 ≤ lo ∧ lo ≤ 2147483647) (hh : -2147483648 ≤ hi ∧ hi ≤ 2147483647) : CT l X a B 0 yX6_isWithin cX6_isWithin 3 (some .boolean) [.int (J v), .int (J lo), .int (J hi)] S (Qi X a B (bI (lo ≤ v ∧ v ≤ hi)) (S)) := by
  refine CT.of (by decide +kernel) (Nat.le_of_ble_eq_true rfl) ?_
  intro p e s m below meth c ls hC hr hlk hI hl
  have hC : Cx p c cX6_isWithin 3 s m [.int (J v), .int (J lo), .int (J hi)].toArray RX6 X B := hC
  have hl : lv_has ls 3 [(0, .int (J v)), (1, .int (J lo)), (2, .int (J hi))] := hl
  refine r_iload_n hC hl dX6_isWithin_0 0 rfl ?_
  refine r_iload_n hC hl dX6_isWithin_1 1 rfl ?_
  refine r_icmp_lt (tgt := 14) hC (by omega) (by omega) dX6_isWithin_2 (by decide) (fun c_1 => ?_) (fun c_1 => ?_)
  · skip
    refine r_iconst hC dX6_isWithin_14 ?_
    exact r_zret hC hr hlk hI (by decide) ((bI_f (by omega)).symm) (rfl) dX6_isWithin_15
  · skip
    refine r_iload_n hC hl dX6_isWithin_5 0 rfl ?_
    refine r_iload_n hC hl dX6_isWithin_6 2 rfl ?_
    refine r_icmp_gt (tgt := 14) hC (by omega) (by omega) dX6_isWithin_7 (by decide) (fun c_2 => ?_) (fun c_2 => ?_)
    · skip
      refine r_iconst hC dX6_isWithin_14 ?_
      exact r_zret hC hr hlk hI (by decide) ((bI_f (by omega)).symm) (rfl) dX6_isWithin_15
    · skip
      refine r_iconst hC dX6_isWithin_10 ?_
      refine r_goto (tgt := 15) hC dX6_isWithin_11 (by decide) ?_
      exact r_zret hC hr hlk hI (by decide) ((bI_t (by omega)).symm) (rfl) dX6_isWithin_15

set_option maxHeartbeats 4000000 in
set_option maxRecDepth 100000 in
theorem c_X7_in (l : Launch) (X : XT) (a : Nat → Nat) (B : Nat) (S : St) (v : Int) (lo : Int) (hi : Int) (hv : -2147483648 ≤ v ∧ v ≤ 2147483647) (hlo : -2147483648 ≤ lo ∧ lo ≤ 2147483647) (hh : -2147483648 ≤ hi ∧ hi ≤ 2147483647) : CT l X a B 0 yX7_in cX7_in 3 (some .boolean) [.int (J v), .int (J lo), .int (J hi)] S (Qi X a B (bI (lo ≤ v ∧ v ≤ hi)) (S)) := by
  refine CT.of (by decide +kernel) (Nat.le_of_ble_eq_true rfl) ?_
  intro p e s m below meth c ls hC hr hlk hI hl
  have hC : Cx p c cX7_in 3 s m [.int (J v), .int (J lo), .int (J hi)].toArray RX7 X B := hC
  have hl : lv_has ls 3 [(0, .int (J v)), (1, .int (J lo)), (2, .int (J hi))] := hl
  refine r_iload_n hC hl dX7_in_0 0 rfl ?_
  refine r_iload_n hC hl dX7_in_1 1 rfl ?_
  refine r_icmp_lt (tgt := 14) hC (by omega) (by omega) dX7_in_2 (by decide) (fun c_1 => ?_) (fun c_1 => ?_)
  · skip
    refine r_iconst hC dX7_in_14 ?_
    exact r_zret hC hr hlk hI (by decide) ((bI_f (by omega)).symm) (rfl) dX7_in_15
  · skip
    refine r_iload_n hC hl dX7_in_5 0 rfl ?_
    refine r_iload_n hC hl dX7_in_6 2 rfl ?_
    refine r_icmp_gt (tgt := 14) hC (by omega) (by omega) dX7_in_7 (by decide) (fun c_2 => ?_) (fun c_2 => ?_)
    · skip
      refine r_iconst hC dX7_in_14 ?_
      exact r_zret hC hr hlk hI (by decide) ((bI_f (by omega)).symm) (rfl) dX7_in_15
    · skip
      refine r_iconst hC dX7_in_10 ?_
      refine r_goto (tgt := 15) hC dX7_in_11 (by decide) ?_
      exact r_zret hC hr hlk hI (by decide) ((bI_t (by omega)).symm) (rfl) dX7_in_15

def hdF (v lo hi : Int) : Int := if v < lo then lo else if hi < v then hi else v

set_option maxHeartbeats 4000000 in
set_option maxRecDepth 100000 in
theorem c_X7_held (l : Launch) (X : XT) (a : Nat → Nat) (B : Nat) (S : St) (v : Int) (lo : Int) (hi : Int) (hv : -2147483648 ≤ v ∧ v ≤ 2147483647) (hlo : -2147483648 ≤ lo ∧ lo ≤ 2147483647) (hh : -2147483648 ≤ hi ∧ hi ≤ 2147483647) : CT l X a B 0 yX7_held cX7_held 3 (some .int) [.int (J v), .int (J lo), .int (J hi)] S (Qi X a B (hdF v lo hi) (S)) := by
  refine CT.of (by decide +kernel) (Nat.le_of_ble_eq_true rfl) ?_
  intro p e s m below meth c ls hC hr hlk hI hl
  have hC : Cx p c cX7_held 3 s m [.int (J v), .int (J lo), .int (J hi)].toArray RX7 X B := hC
  have hl : lv_has ls 3 [(0, .int (J v)), (1, .int (J lo)), (2, .int (J hi))] := hl
  refine r_iload_n hC hl dX7_held_0 0 rfl ?_
  refine r_iload_n hC hl dX7_held_1 1 rfl ?_
  refine r_icmp_ge (tgt := 9) hC (by omega) (by omega) dX7_held_2 (by decide) (fun c_1 => ?_) (fun c_1 => ?_)
  · skip
    refine r_iload_n hC hl dX7_held_9 0 rfl ?_
    refine r_iload_n hC hl dX7_held_10 2 rfl ?_
    refine r_icmp_le (tgt := 18) hC (by omega) (by omega) dX7_held_11 (by decide) (fun c_2 => ?_) (fun c_2 => ?_)
    · skip
      refine r_iload_n hC hl dX7_held_18 0 rfl ?_
      exact r_iret hC hr hlk hI (by unfold hdF; (repeat' split) <;> omega) (rfl) dX7_held_19
    · skip
      refine r_iload_n hC hl dX7_held_14 2 rfl ?_
      refine r_goto (tgt := 19) hC dX7_held_15 (by decide) ?_
      exact r_iret hC hr hlk hI (by unfold hdF; (repeat' split) <;> omega) (rfl) dX7_held_19
  · skip
    refine r_iload_n hC hl dX7_held_5 1 rfl ?_
    refine r_goto (tgt := 19) hC dX7_held_6 (by decide) ?_
    exact r_iret hC hr hlk hI (by unfold hdF; (repeat' split) <;> omega) (rfl) dX7_held_19

set_option maxHeartbeats 4000000 in
set_option maxRecDepth 100000 in
theorem c_X0_isKind (l : Launch) (X : XT) (a : Nat → Nat) (B : Nat) (S : St) (k : Int) (hk : -2147483648 ≤ k ∧ k ≤ 2147483647) : CT l X a B 1 yX0_isKind cX0_isKind 1 (some .boolean) [.int (J k)] S (Qi X a B (bI (0 ≤ k ∧ k ≤ 5)) (S)) := by
  refine CT.of (by decide +kernel) (Nat.le_of_ble_eq_true rfl) ?_
  intro p e s m below meth c ls hC hr hlk hI hl
  have hC : Cx p c cX0_isKind 1 s m [.int (J k)].toArray RX0 X B := hC
  have hl : lv_has ls 1 [(0, .int (J k))] := hl
  refine r_iload_n hC hl dX0_isKind_0 0 rfl ?_
  refine r_iconst hC dX0_isKind_1 ?_
  refine r_iconst hC dX0_isKind_2 ?_
  refine r_cNi hC hI hl [.int (J k), .int (J 0), .int (J 5)] [] (c_X6_isWithin l X a B S k 0 5 (by omega) (by omega) (by omega)) hC.2.2.2.2.2.1.2.1 es_X6_isWithin ⟨Nat.le_of_ble_eq_true rfl, Nat.le_of_ble_eq_true rfl⟩ ⟨Nat.zero_le _, Nat.zero_le _⟩ (Nat.le_of_ble_eq_true rfl) rfl dX0_isKind_3 (fun H locs hI => ?_)
  exact r_zret hC hr hlk hI (bI_01) (rfl) (rfl) dX0_isKind_6

set_option maxHeartbeats 4000000 in
set_option maxRecDepth 100000 in
theorem c_X7_isKind (l : Launch) (X : XT) (a : Nat → Nat) (B : Nat) (S : St) (k : Int) (hk : -2147483648 ≤ k ∧ k ≤ 2147483647) : CT l X a B 1 yX7_isKind cX7_isKind 1 (some .boolean) [.int (J k)] S (Qi X a B (bI (0 ≤ k ∧ k ≤ 5)) (S)) := by
  refine CT.of (by decide +kernel) (Nat.le_of_ble_eq_true rfl) ?_
  intro p e s m below meth c ls hC hr hlk hI hl
  have hC : Cx p c cX7_isKind 1 s m [.int (J k)].toArray RX7 X B := hC
  have hl : lv_has ls 1 [(0, .int (J k))] := hl
  refine r_iload_n hC hl dX7_isKind_0 0 rfl ?_
  refine r_iconst hC dX7_isKind_1 ?_
  refine r_iconst hC dX7_isKind_2 ?_
  refine r_cSi hC hI hl [.int (J k), .int (J 0), .int (J 5)] [] (c_X7_in l X a B S k 0 5 (by omega) (by omega) (by omega)) ml_RX7_45 es_X7_in ⟨Nat.le_of_ble_eq_true rfl, Nat.le_of_ble_eq_true rfl⟩ ⟨Nat.zero_le _, Nat.zero_le _⟩ (Nat.le_of_ble_eq_true rfl) rfl dX7_isKind_3 (fun H locs hI => ?_)
  exact r_zret hC hr hlk hI (bI_01) (rfl) (rfl) dX7_isKind_6

def csF (k w : Int) : Int := if k = 1 then 1 + w / 20 + 2 else if k = 2 then mxF 1 ((1 + w / 20) / 2) else if k = 3 then 2 * (1 + w / 20) else if k = 4 then 1 + w / 20 + 1 else if k = 5 then mxF 1 ((1 + w / 20) / 2) + 1 else 1 + w / 20
def tkF (k d : Int) : Int := if k = 1 ∨ k = 4 then mnF 99 (4 * d + 10) else if k = 3 then (if 15 ≤ d then mnF 99 (5 * d) else mnF 99 (4 * d)) else if k = 5 then mnF 99 (mxF 0 (4 * d - 5)) else mnF 99 (4 * d)
def fdF (k u r : Int) : Int := if k = 1 then (if u = 1 then 4 else 0) else if k = 2 then (if u = 1 then 10 else 1) else if k = 4 then (if r = 0 then 0 else if u = 1 then 4 else 0) else if k = 5 then (if u = 1 then 10 else 1) + r / 4 else (if u = 1 then 9 else 0)
def blF (k b r l : Int) : Int := if b = 0 then 0 else if k = 1 then (if 50 < b then b * l / 9 + 5 else b * l / 9) else if k = 2 then mxF 0 (b * l / 9 - r) else if k = 3 then (if 5 ≤ l then b else 0) else if k = 4 then 2 * (if 50 < b then b * l / 9 + 5 else b * l / 9) else if k = 5 then mxF 0 (b * l / 9 - r) + l else b * l / 9
theorem mul_bd {x y A B : Int} (h1 : 0 ≤ x ∧ x ≤ A) (h2 : 0 ≤ y ∧ y ≤ B) : 0 ≤ x * y ∧ x * y ≤ A * B := ⟨Int.mul_nonneg h1.1 h2.1, Int.mul_le_mul h1.2 h2.2 h2.1 (by omega)⟩

set_option maxHeartbeats 4000000 in
set_option maxRecDepth 100000 in
theorem c_X0_costs (l : Launch) (X : XT) (a : Nat → Nat) (B : Nat) (S : St) (k : Int) (w : Int) (hk : 0 ≤ k ∧ k ≤ 5) (hw : 0 ≤ w ∧ w ≤ 99) : CT l X a B 1 yX0_costs cX0_costs 5 (some .int) [.int (J k), .int (J w)] S (Qi X a B (csF k w) (S)) := by
  refine CT.of (by decide +kernel) (Nat.le_of_ble_eq_true rfl) ?_
  intro p e s m below meth c ls hC hr hlk hI hl
  have hC : Cx p c cX0_costs 5 s m [.int (J k), .int (J w)].toArray RX0 X B := hC
  have hl : lv_has ls 5 [(0, .int (J k)), (1, .int (J w))] := hl
  refine r_iconst hC dX0_costs_0 ?_
  refine r_iload_n hC hl dX0_costs_1 1 rfl ?_
  refine r_bipush hC (by decide) dX0_costs_2 ?_
  refine r_idiv hC (by (try unfold mxF); (repeat' split) <;> omega) (by (try unfold mxF); (repeat' split) <;> omega) dX0_costs_4 ?_
  refine r_iadd hC dX0_costs_5 ?_
  refine r_istore_n (lv1 := [(2, .int (J (1 + (w / 20)))), (0, .int (J k)), (1, .int (J w))]) hC hl dX0_costs_6 2 rfl (by decide) rfl (fun ls hl => ?_)
  refine r_iload_n hC hl dX0_costs_7 0 rfl ?_
  refine r_iconst hC dX0_costs_8 ?_
  refine r_iadd hC dX0_costs_9 ?_
  refine r_istore_n (lv1 := [(3, .int (J ((1 + (w / 20)) + 2))), (2, .int (J (1 + (w / 20)))), (0, .int (J k)), (1, .int (J w))]) hC hl dX0_costs_10 3 rfl (by decide) rfl (fun ls hl => ?_)
  refine r_iconst hC dX0_costs_11 ?_
  refine r_iload_n hC hl dX0_costs_12 1 rfl ?_
  refine r_iconst hC dX0_costs_13 ?_
  refine r_idiv hC (by (try unfold mxF); (repeat' split) <;> omega) (by (try unfold mxF); (repeat' split) <;> omega) dX0_costs_14 ?_
  refine r_cSi hC hI hl [.int (J 1), .int (J ((1 + (w / 20)) / 2))] [] (c_J9_max_7cf53 l X a B S 1 ((1 + (w / 20)) / 2) (by omega) (by omega)) ml_RX0_27 es_J9_max_7cf53 ⟨Nat.le_of_ble_eq_true rfl, Nat.le_of_ble_eq_true rfl⟩ ⟨Nat.zero_le _, Nat.zero_le _⟩ (Nat.le_of_ble_eq_true rfl) rfl dX0_costs_15 (fun H locs hI => ?_)
  refine r_istore (lv1 := [(4, .int (J (mxF 1 ((1 + (w / 20)) / 2)))), (3, .int (J ((1 + (w / 20)) + 2))), (2, .int (J (1 + (w / 20)))), (0, .int (J k)), (1, .int (J w))]) hC hl dX0_costs_18 (by decide) rfl (fun ls hl => ?_)
  refine r_iload_n hC hl dX0_costs_20 3 rfl ?_
  by_cases c_1 : k = 1
  · refine r_tin (tgt := 56) hC 1 c_1 (by decide) dX0_costs_21 (by decide) (by decide) rfl (by decide) ?_
    refine r_iload_n hC hl dX0_costs_56 1 rfl ?_
    exact r_iret hC hr hlk hI (by simp only [csF, tkF, fdF, blF, hdF, mxF, mnF]; (repeat' split) <;> omega) (rfl) dX0_costs_57
  by_cases c_2 : k = 2
  · refine r_tin (tgt := 58) hC 2 c_2 (by decide) dX0_costs_21 (by decide) (by decide) rfl (by decide) ?_
    refine r_iload hC hl dX0_costs_58 0 rfl ?_
    exact r_iret hC hr hlk hI (by simp only [csF, tkF, fdF, blF, hdF, mxF, mnF]; (repeat' split) <;> omega) (rfl) dX0_costs_60
  by_cases c_3 : k = 3
  · refine r_tin (tgt := 61) hC 3 c_3 (by decide) dX0_costs_21 (by decide) (by decide) rfl (by decide) ?_
    refine r_iconst hC dX0_costs_61 ?_
    refine r_iload_n hC hl dX0_costs_62 2 rfl ?_
    refine r_imul hC dX0_costs_63 ?_
    exact r_iret hC hr hlk hI (by simp only [csF, tkF, fdF, blF, hdF, mxF, mnF]; (repeat' split) <;> omega) (rfl) dX0_costs_64
  by_cases c_4 : k = 4
  · refine r_tin (tgt := 65) hC 4 c_4 (by decide) dX0_costs_21 (by decide) (by decide) rfl (by decide) ?_
    refine r_iload_n hC hl dX0_costs_65 1 rfl ?_
    refine r_iconst hC dX0_costs_66 ?_
    refine r_isub hC dX0_costs_67 ?_
    exact r_iret hC hr hlk hI (by simp only [csF, tkF, fdF, blF, hdF, mxF, mnF]; (repeat' split) <;> omega) (rfl) dX0_costs_68
  by_cases c_5 : k = 5
  · refine r_tin (tgt := 69) hC 5 c_5 (by decide) dX0_costs_21 (by decide) (by decide) rfl (by decide) ?_
    refine r_iload hC hl dX0_costs_69 0 rfl ?_
    refine r_iconst hC dX0_costs_71 ?_
    refine r_iadd hC dX0_costs_72 ?_
    exact r_iret hC hr hlk hI (by simp only [csF, tkF, fdF, blF, hdF, mxF, mnF]; (repeat' split) <;> omega) (rfl) dX0_costs_73
  refine r_tout (tgt := 74) hC (by (try unfold mxF); (repeat' split) <;> omega) dX0_costs_21 (by omega) (by decide) ?_
  refine r_iload_n hC hl dX0_costs_74 2 rfl ?_
  exact r_iret hC hr hlk hI (by simp only [csF, tkF, fdF, blF, hdF, mxF, mnF]; (repeat' split) <;> omega) (rfl) dX0_costs_75

set_option maxHeartbeats 4000000 in
set_option maxRecDepth 100000 in
theorem c_X7_costs (l : Launch) (X : XT) (a : Nat → Nat) (B : Nat) (S : St) (k : Int) (w : Int) (hk : 0 ≤ k ∧ k ≤ 5) (hw : 0 ≤ w ∧ w ≤ 99) : CT l X a B 0 yX7_costs cX7_costs 4 (some .int) [.int (J k), .int (J w)] S (Qi X a B (csF k w) (S)) := by
  refine CT.of (by decide +kernel) (Nat.le_of_ble_eq_true rfl) ?_
  intro p e s m below meth c ls hC hr hlk hI hl
  have hC : Cx p c cX7_costs 4 s m [.int (J k), .int (J w)].toArray RX7 X B := hC
  have hl : lv_has ls 4 [(0, .int (J k)), (1, .int (J w))] := hl
  refine r_iconst hC dX7_costs_0 ?_
  refine r_iload_n hC hl dX7_costs_1 1 rfl ?_
  refine r_bipush hC (by decide) dX7_costs_2 ?_
  refine r_idiv hC (by omega) (by omega) dX7_costs_4 ?_
  refine r_iadd hC dX7_costs_5 ?_
  refine r_istore_n (lv1 := [(2, .int (J (1 + (w / 20)))), (0, .int (J k)), (1, .int (J w))]) hC hl dX7_costs_6 2 rfl (by decide) rfl (fun ls hl => ?_)
  refine r_iload_n hC hl dX7_costs_7 0 rfl ?_
  refine r_iconst hC dX7_costs_8 ?_
  refine r_idiv hC (by omega) (by omega) dX7_costs_9 ?_
  refine r_iconst hC dX7_costs_10 ?_
  refine r_icmp_le (tgt := 20) hC (by omega) (by omega) dX7_costs_11 (by decide) (fun c_1 => ?_) (fun c_1 => ?_)
  · skip
    refine r_iconst hC dX7_costs_20 ?_
    refine r_istore_n (lv1 := [(3, .int (J 1)), (2, .int (J (1 + (w / 20)))), (0, .int (J k)), (1, .int (J w))]) hC hl dX7_costs_21 3 rfl (by decide) rfl (fun ls hl => ?_)
    refine r_iload_n hC hl dX7_costs_22 2 rfl ?_
    by_cases c_2 : k = 1
    · refine r_tin (tgt := 56) hC 1 c_2 (by decide) dX7_costs_23 (by decide) (by decide) rfl (by decide) ?_
      refine r_iload_n hC hl dX7_costs_56 1 rfl ?_
      refine r_iconst hC dX7_costs_57 ?_
      refine r_iadd hC dX7_costs_58 ?_
      exact r_iret hC hr hlk hI (by simp only [csF, tkF, fdF, blF, hdF, mxF, mnF]; (repeat' split) <;> omega) (rfl) dX7_costs_59
    by_cases c_3 : k = 2
    · refine r_tin (tgt := 64) hC 2 c_3 (by decide) dX7_costs_23 (by decide) (by decide) rfl (by decide) ?_
      refine r_iload_n hC hl dX7_costs_64 0 rfl ?_
      exact r_iret hC hr hlk hI (by simp only [csF, tkF, fdF, blF, hdF, mxF, mnF]; (repeat' split) <;> omega) (rfl) dX7_costs_65
    by_cases c_4 : k = 3
    · refine r_tin (tgt := 70) hC 3 c_4 (by decide) dX7_costs_23 (by decide) (by decide) rfl (by decide) ?_
      refine r_iconst hC dX7_costs_70 ?_
      refine r_iload_n hC hl dX7_costs_71 1 rfl ?_
      refine r_imul hC dX7_costs_72 ?_
      exact r_iret hC hr hlk hI (by simp only [csF, tkF, fdF, blF, hdF, mxF, mnF]; (repeat' split) <;> omega) (rfl) dX7_costs_73
    by_cases c_5 : k = 4
    · refine r_tin (tgt := 60) hC 4 c_5 (by decide) dX7_costs_23 (by decide) (by decide) rfl (by decide) ?_
      refine r_iload_n hC hl dX7_costs_60 1 rfl ?_
      refine r_iconst hC dX7_costs_61 ?_
      refine r_iadd hC dX7_costs_62 ?_
      exact r_iret hC hr hlk hI (by simp only [csF, tkF, fdF, blF, hdF, mxF, mnF]; (repeat' split) <;> omega) (rfl) dX7_costs_63
    by_cases c_6 : k = 5
    · refine r_tin (tgt := 66) hC 5 c_6 (by decide) dX7_costs_23 (by decide) (by decide) rfl (by decide) ?_
      refine r_iload_n hC hl dX7_costs_66 0 rfl ?_
      refine r_iconst hC dX7_costs_67 ?_
      refine r_iadd hC dX7_costs_68 ?_
      exact r_iret hC hr hlk hI (by simp only [csF, tkF, fdF, blF, hdF, mxF, mnF]; (repeat' split) <;> omega) (rfl) dX7_costs_69
    refine r_tout (tgt := 74) hC (by omega) dX7_costs_23 (by omega) (by decide) ?_
    refine r_iload_n hC hl dX7_costs_74 1 rfl ?_
    exact r_iret hC hr hlk hI (by simp only [csF, tkF, fdF, blF, hdF, mxF, mnF]; (repeat' split) <;> omega) (rfl) dX7_costs_75
  · skip
    refine r_iload_n hC hl dX7_costs_14 0 rfl ?_
    refine r_iconst hC dX7_costs_15 ?_
    refine r_idiv hC (by omega) (by omega) dX7_costs_16 ?_
    refine r_goto (tgt := 21) hC dX7_costs_17 (by decide) ?_
    refine r_istore_n (lv1 := [(3, .int (J ((1 + (w / 20)) / 2))), (2, .int (J (1 + (w / 20)))), (0, .int (J k)), (1, .int (J w))]) hC hl dX7_costs_21 3 rfl (by decide) rfl (fun ls hl => ?_)
    refine r_iload_n hC hl dX7_costs_22 2 rfl ?_
    by_cases c_7 : k = 1
    · refine r_tin (tgt := 56) hC 1 c_7 (by decide) dX7_costs_23 (by decide) (by decide) rfl (by decide) ?_
      refine r_iload_n hC hl dX7_costs_56 1 rfl ?_
      refine r_iconst hC dX7_costs_57 ?_
      refine r_iadd hC dX7_costs_58 ?_
      exact r_iret hC hr hlk hI (by simp only [csF, tkF, fdF, blF, hdF, mxF, mnF]; (repeat' split) <;> omega) (rfl) dX7_costs_59
    by_cases c_8 : k = 2
    · refine r_tin (tgt := 64) hC 2 c_8 (by decide) dX7_costs_23 (by decide) (by decide) rfl (by decide) ?_
      refine r_iload_n hC hl dX7_costs_64 0 rfl ?_
      exact r_iret hC hr hlk hI (by simp only [csF, tkF, fdF, blF, hdF, mxF, mnF]; (repeat' split) <;> omega) (rfl) dX7_costs_65
    by_cases c_9 : k = 3
    · refine r_tin (tgt := 70) hC 3 c_9 (by decide) dX7_costs_23 (by decide) (by decide) rfl (by decide) ?_
      refine r_iconst hC dX7_costs_70 ?_
      refine r_iload_n hC hl dX7_costs_71 1 rfl ?_
      refine r_imul hC dX7_costs_72 ?_
      exact r_iret hC hr hlk hI (by simp only [csF, tkF, fdF, blF, hdF, mxF, mnF]; (repeat' split) <;> omega) (rfl) dX7_costs_73
    by_cases c_10 : k = 4
    · refine r_tin (tgt := 60) hC 4 c_10 (by decide) dX7_costs_23 (by decide) (by decide) rfl (by decide) ?_
      refine r_iload_n hC hl dX7_costs_60 1 rfl ?_
      refine r_iconst hC dX7_costs_61 ?_
      refine r_iadd hC dX7_costs_62 ?_
      exact r_iret hC hr hlk hI (by simp only [csF, tkF, fdF, blF, hdF, mxF, mnF]; (repeat' split) <;> omega) (rfl) dX7_costs_63
    by_cases c_11 : k = 5
    · refine r_tin (tgt := 66) hC 5 c_11 (by decide) dX7_costs_23 (by decide) (by decide) rfl (by decide) ?_
      refine r_iload_n hC hl dX7_costs_66 0 rfl ?_
      refine r_iconst hC dX7_costs_67 ?_
      refine r_iadd hC dX7_costs_68 ?_
      exact r_iret hC hr hlk hI (by simp only [csF, tkF, fdF, blF, hdF, mxF, mnF]; (repeat' split) <;> omega) (rfl) dX7_costs_69
    refine r_tout (tgt := 74) hC (by omega) dX7_costs_23 (by omega) (by decide) ?_
    refine r_iload_n hC hl dX7_costs_74 1 rfl ?_
    exact r_iret hC hr hlk hI (by simp only [csF, tkF, fdF, blF, hdF, mxF, mnF]; (repeat' split) <;> omega) (rfl) dX7_costs_75

set_option maxHeartbeats 4000000 in
set_option maxRecDepth 100000 in
theorem c_X0_takes (l : Launch) (X : XT) (a : Nat → Nat) (B : Nat) (S : St) (k : Int) (d : Int) (hk : 0 ≤ k ∧ k ≤ 5) (hd : 0 ≤ d ∧ d ≤ 20) : CT l X a B 1 yX0_takes cX0_takes 3 (some .int) [.int (J k), .int (J d)] S (Qi X a B (tkF k d) (S)) := by
  refine CT.of (by decide +kernel) (Nat.le_of_ble_eq_true rfl) ?_
  intro p e s m below meth c ls hC hr hlk hI hl
  have hC : Cx p c cX0_takes 3 s m [.int (J k), .int (J d)].toArray RX0 X B := hC
  have hl : lv_has ls 3 [(0, .int (J k)), (1, .int (J d))] := hl
  refine r_iconst hC dX0_takes_0 ?_
  refine r_iload_n hC hl dX0_takes_1 1 rfl ?_
  refine r_imul hC dX0_takes_2 ?_
  refine r_istore_n (lv1 := [(2, .int (J (4 * d))), (0, .int (J k)), (1, .int (J d))]) hC hl dX0_takes_3 2 rfl (by decide) rfl (fun ls hl => ?_)
  refine r_iload_n hC hl dX0_takes_4 1 rfl ?_
  refine r_iconst hC dX0_takes_5 ?_
  refine r_icmp_eq (tgt := 14) hC (by (try unfold mxF); (repeat' split) <;> omega) (by (try unfold mxF); (repeat' split) <;> omega) dX0_takes_6 (by decide) (fun c_1 => ?_) (fun c_1 => ?_)
  · skip
    refine r_iinc (lv1 := [(2, .int (J (4 * d + 10))), (0, .int (J k)), (1, .int (J d))]) hC hl dX0_takes_14 0 rfl (by decide) rfl (fun ls hl => ?_)
    refine r_goto (tgt := 51) hC dX0_takes_17 (by decide) ?_
    refine r_bipush hC (by decide) dX0_takes_51 ?_
    refine r_iload_n hC hl dX0_takes_53 0 rfl ?_
    refine r_cSi hC hI hl [.int (J 99), .int (J (4 * d + 10))] [] (c_J9_min_7cf53 l X a B S 99 (4 * d + 10) (by omega) (by first | omega | (unfold mxF; split <;> omega))) ml_RX0_35 es_J9_min_7cf53 ⟨Nat.le_of_ble_eq_true rfl, Nat.le_of_ble_eq_true rfl⟩ ⟨Nat.zero_le _, Nat.zero_le _⟩ (Nat.le_of_ble_eq_true rfl) rfl dX0_takes_54 (fun H locs hI => ?_)
    exact r_iret hC hr hlk hI (by simp only [csF, tkF, fdF, blF, hdF, mxF, mnF]; (repeat' split) <;> omega) (rfl) dX0_takes_57
  · skip
    refine r_iload_n hC hl dX0_takes_9 1 rfl ?_
    refine r_iconst hC dX0_takes_10 ?_
    refine r_icmp_ne (tgt := 20) hC (by (try unfold mxF); (repeat' split) <;> omega) (by (try unfold mxF); (repeat' split) <;> omega) dX0_takes_11 (by decide) (fun c_2 => ?_) (fun c_2 => ?_)
    · skip
      refine r_iload_n hC hl dX0_takes_20 1 rfl ?_
      refine r_iconst hC dX0_takes_21 ?_
      refine r_icmp_ne (tgt := 38) hC (by (try unfold mxF); (repeat' split) <;> omega) (by (try unfold mxF); (repeat' split) <;> omega) dX0_takes_22 (by decide) (fun c_3 => ?_) (fun c_3 => ?_)
      · skip
        refine r_iload_n hC hl dX0_takes_38 1 rfl ?_
        refine r_iconst hC dX0_takes_39 ?_
        refine r_icmp_ne (tgt := 51) hC (by (try unfold mxF); (repeat' split) <;> omega) (by (try unfold mxF); (repeat' split) <;> omega) dX0_takes_40 (by decide) (fun c_4 => ?_) (fun c_4 => ?_)
        · skip
          refine r_bipush hC (by decide) dX0_takes_51 ?_
          refine r_iload_n hC hl dX0_takes_53 0 rfl ?_
          refine r_cSi hC hI hl [.int (J 99), .int (J (4 * d))] [] (c_J9_min_7cf53 l X a B S 99 (4 * d) (by omega) (by first | omega | (unfold mxF; split <;> omega))) ml_RX0_35 es_J9_min_7cf53 ⟨Nat.le_of_ble_eq_true rfl, Nat.le_of_ble_eq_true rfl⟩ ⟨Nat.zero_le _, Nat.zero_le _⟩ (Nat.le_of_ble_eq_true rfl) rfl dX0_takes_54 (fun H locs hI => ?_)
          exact r_iret hC hr hlk hI (by simp only [csF, tkF, fdF, blF, hdF, mxF, mnF]; (repeat' split) <;> omega) (rfl) dX0_takes_57
        · skip
          refine r_iconst hC dX0_takes_43 ?_
          refine r_iload_n hC hl dX0_takes_44 0 rfl ?_
          refine r_iconst hC dX0_takes_45 ?_
          refine r_isub hC dX0_takes_46 ?_
          refine r_cSi hC hI hl [.int (J 0), .int (J ((4 * d) - 5))] [] (c_J9_max_7cf53 l X a B S 0 ((4 * d) - 5) (by omega) (by omega)) ml_RX0_27 es_J9_max_7cf53 ⟨Nat.le_of_ble_eq_true rfl, Nat.le_of_ble_eq_true rfl⟩ ⟨Nat.zero_le _, Nat.zero_le _⟩ (Nat.le_of_ble_eq_true rfl) rfl dX0_takes_47 (fun H locs hI => ?_)
          refine r_istore_n (lv1 := [(2, .int (J (mxF 0 ((4 * d) - 5)))), (0, .int (J k)), (1, .int (J d))]) hC hl dX0_takes_50 2 rfl (by decide) rfl (fun ls hl => ?_)
          refine r_bipush hC (by decide) dX0_takes_51 ?_
          refine r_iload_n hC hl dX0_takes_53 0 rfl ?_
          refine r_cSi hC hI hl [.int (J 99), .int (J (mxF 0 ((4 * d) - 5)))] [] (c_J9_min_7cf53 l X a B S 99 (mxF 0 ((4 * d) - 5)) (by omega) (by first | omega | (unfold mxF; split <;> omega))) ml_RX0_35 es_J9_min_7cf53 ⟨Nat.le_of_ble_eq_true rfl, Nat.le_of_ble_eq_true rfl⟩ ⟨Nat.zero_le _, Nat.zero_le _⟩ (Nat.le_of_ble_eq_true rfl) rfl dX0_takes_54 (fun H locs hI => ?_)
          exact r_iret hC hr hlk hI (by simp only [csF, tkF, fdF, blF, hdF, mxF, mnF]; (repeat' split) <;> omega) (rfl) dX0_takes_57
      · skip
        refine r_iload_n hC hl dX0_takes_25 2 rfl ?_
        refine r_bipush hC (by decide) dX0_takes_26 ?_
        refine r_icmp_lt (tgt := 38) hC (by (try unfold mxF); (repeat' split) <;> omega) (by (try unfold mxF); (repeat' split) <;> omega) dX0_takes_28 (by decide) (fun c_5 => ?_) (fun c_5 => ?_)
        · skip
          refine r_iload_n hC hl dX0_takes_38 1 rfl ?_
          refine r_iconst hC dX0_takes_39 ?_
          refine r_icmp_ne (tgt := 51) hC (by (try unfold mxF); (repeat' split) <;> omega) (by (try unfold mxF); (repeat' split) <;> omega) dX0_takes_40 (by decide) (fun c_6 => ?_) (fun c_6 => ?_)
          · skip
            refine r_bipush hC (by decide) dX0_takes_51 ?_
            refine r_iload_n hC hl dX0_takes_53 0 rfl ?_
            refine r_cSi hC hI hl [.int (J 99), .int (J (4 * d))] [] (c_J9_min_7cf53 l X a B S 99 (4 * d) (by omega) (by first | omega | (unfold mxF; split <;> omega))) ml_RX0_35 es_J9_min_7cf53 ⟨Nat.le_of_ble_eq_true rfl, Nat.le_of_ble_eq_true rfl⟩ ⟨Nat.zero_le _, Nat.zero_le _⟩ (Nat.le_of_ble_eq_true rfl) rfl dX0_takes_54 (fun H locs hI => ?_)
            exact r_iret hC hr hlk hI (by simp only [csF, tkF, fdF, blF, hdF, mxF, mnF]; (repeat' split) <;> omega) (rfl) dX0_takes_57
          · skip
            refine r_iconst hC dX0_takes_43 ?_
            refine r_iload_n hC hl dX0_takes_44 0 rfl ?_
            refine r_iconst hC dX0_takes_45 ?_
            refine r_isub hC dX0_takes_46 ?_
            refine r_cSi hC hI hl [.int (J 0), .int (J ((4 * d) - 5))] [] (c_J9_max_7cf53 l X a B S 0 ((4 * d) - 5) (by omega) (by omega)) ml_RX0_27 es_J9_max_7cf53 ⟨Nat.le_of_ble_eq_true rfl, Nat.le_of_ble_eq_true rfl⟩ ⟨Nat.zero_le _, Nat.zero_le _⟩ (Nat.le_of_ble_eq_true rfl) rfl dX0_takes_47 (fun H locs hI => ?_)
            refine r_istore_n (lv1 := [(2, .int (J (mxF 0 ((4 * d) - 5)))), (0, .int (J k)), (1, .int (J d))]) hC hl dX0_takes_50 2 rfl (by decide) rfl (fun ls hl => ?_)
            refine r_bipush hC (by decide) dX0_takes_51 ?_
            refine r_iload_n hC hl dX0_takes_53 0 rfl ?_
            refine r_cSi hC hI hl [.int (J 99), .int (J (mxF 0 ((4 * d) - 5)))] [] (c_J9_min_7cf53 l X a B S 99 (mxF 0 ((4 * d) - 5)) (by omega) (by first | omega | (unfold mxF; split <;> omega))) ml_RX0_35 es_J9_min_7cf53 ⟨Nat.le_of_ble_eq_true rfl, Nat.le_of_ble_eq_true rfl⟩ ⟨Nat.zero_le _, Nat.zero_le _⟩ (Nat.le_of_ble_eq_true rfl) rfl dX0_takes_54 (fun H locs hI => ?_)
            exact r_iret hC hr hlk hI (by simp only [csF, tkF, fdF, blF, hdF, mxF, mnF]; (repeat' split) <;> omega) (rfl) dX0_takes_57
        · skip
          refine r_iconst hC dX0_takes_31 ?_
          refine r_iload_n hC hl dX0_takes_32 2 rfl ?_
          refine r_imul hC dX0_takes_33 ?_
          refine r_istore_n (lv1 := [(2, .int (J (5 * d))), (0, .int (J k)), (1, .int (J d))]) hC hl dX0_takes_34 2 rfl (by decide) rfl (fun ls hl => ?_)
          refine r_goto (tgt := 51) hC dX0_takes_35 (by decide) ?_
          refine r_bipush hC (by decide) dX0_takes_51 ?_
          refine r_iload_n hC hl dX0_takes_53 0 rfl ?_
          refine r_cSi hC hI hl [.int (J 99), .int (J (5 * d))] [] (c_J9_min_7cf53 l X a B S 99 (5 * d) (by omega) (by first | omega | (unfold mxF; split <;> omega))) ml_RX0_35 es_J9_min_7cf53 ⟨Nat.le_of_ble_eq_true rfl, Nat.le_of_ble_eq_true rfl⟩ ⟨Nat.zero_le _, Nat.zero_le _⟩ (Nat.le_of_ble_eq_true rfl) rfl dX0_takes_54 (fun H locs hI => ?_)
          exact r_iret hC hr hlk hI (by simp only [csF, tkF, fdF, blF, hdF, mxF, mnF]; (repeat' split) <;> omega) (rfl) dX0_takes_57
    · skip
      refine r_iinc (lv1 := [(2, .int (J (4 * d + 10))), (0, .int (J k)), (1, .int (J d))]) hC hl dX0_takes_14 0 rfl (by decide) rfl (fun ls hl => ?_)
      refine r_goto (tgt := 51) hC dX0_takes_17 (by decide) ?_
      refine r_bipush hC (by decide) dX0_takes_51 ?_
      refine r_iload_n hC hl dX0_takes_53 0 rfl ?_
      refine r_cSi hC hI hl [.int (J 99), .int (J (4 * d + 10))] [] (c_J9_min_7cf53 l X a B S 99 (4 * d + 10) (by omega) (by first | omega | (unfold mxF; split <;> omega))) ml_RX0_35 es_J9_min_7cf53 ⟨Nat.le_of_ble_eq_true rfl, Nat.le_of_ble_eq_true rfl⟩ ⟨Nat.zero_le _, Nat.zero_le _⟩ (Nat.le_of_ble_eq_true rfl) rfl dX0_takes_54 (fun H locs hI => ?_)
      exact r_iret hC hr hlk hI (by simp only [csF, tkF, fdF, blF, hdF, mxF, mnF]; (repeat' split) <;> omega) (rfl) dX0_takes_57

set_option maxHeartbeats 4000000 in
set_option maxRecDepth 100000 in
theorem c_X7_takes (l : Launch) (X : XT) (a : Nat → Nat) (B : Nat) (S : St) (k : Int) (d : Int) (hk : 0 ≤ k ∧ k ≤ 5) (hd : 0 ≤ d ∧ d ≤ 20) : CT l X a B 1 yX7_takes cX7_takes 2 (some .int) [.int (J k), .int (J d)] S (Qi X a B (tkF k d) (S)) := by
  refine CT.of (by decide +kernel) (Nat.le_of_ble_eq_true rfl) ?_
  intro p e s m below meth c ls hC hr hlk hI hl
  have hC : Cx p c cX7_takes 2 s m [.int (J k), .int (J d)].toArray RX7 X B := hC
  have hl : lv_has ls 2 [(0, .int (J k)), (1, .int (J d))] := hl
  refine r_iload_n hC hl dX7_takes_0 0 rfl ?_
  by_cases c_1 : k = 1
  · refine r_tin (tgt := 36) hC 1 c_1 (by decide) dX7_takes_1 (by decide) (by decide) rfl (by decide) ?_
    refine r_iconst hC dX7_takes_36 ?_
    refine r_iload_n hC hl dX7_takes_37 1 rfl ?_
    refine r_imul hC dX7_takes_38 ?_
    refine r_bipush hC (by decide) dX7_takes_39 ?_
    refine r_iadd hC dX7_takes_41 ?_
    refine r_iconst hC dX7_takes_42 ?_
    refine r_bipush hC (by decide) dX7_takes_43 ?_
    refine r_cSi hC hI hl [.int (J ((4 * d) + 10)), .int (J 0), .int (J 99)] [] (c_X7_held l X a B S ((4 * d) + 10) 0 99 (by omega) (by omega) (by omega)) ml_RX7_60 es_X7_held ⟨Nat.le_of_ble_eq_true rfl, Nat.le_of_ble_eq_true rfl⟩ ⟨Nat.zero_le _, Nat.zero_le _⟩ (Nat.le_of_ble_eq_true rfl) rfl dX7_takes_45 (fun H locs hI => ?_)
    exact r_iret hC hr hlk hI (by simp only [csF, tkF, fdF, blF, hdF, mxF, mnF]; (repeat' split) <;> omega) (rfl) dX7_takes_48
  by_cases c_2 : k = 3
  · refine r_tin (tgt := 49) hC 3 c_2 (by decide) dX7_takes_1 (by decide) (by decide) rfl (by decide) ?_
    refine r_iload_n hC hl dX7_takes_49 1 rfl ?_
    refine r_bipush hC (by decide) dX7_takes_50 ?_
    refine r_icmp_lt (tgt := 61) hC (by omega) (by omega) dX7_takes_52 (by decide) (fun c_3 => ?_) (fun c_3 => ?_)
    · skip
      refine r_iconst hC dX7_takes_61 ?_
      refine r_iload_n hC hl dX7_takes_62 1 rfl ?_
      refine r_imul hC dX7_takes_63 ?_
      refine r_iconst hC dX7_takes_64 ?_
      refine r_bipush hC (by decide) dX7_takes_65 ?_
      refine r_cSi hC hI hl [.int (J (4 * d)), .int (J 0), .int (J 99)] [] (c_X7_held l X a B S (4 * d) 0 99 (by omega) (by omega) (by omega)) ml_RX7_60 es_X7_held ⟨Nat.le_of_ble_eq_true rfl, Nat.le_of_ble_eq_true rfl⟩ ⟨Nat.zero_le _, Nat.zero_le _⟩ (Nat.le_of_ble_eq_true rfl) rfl dX7_takes_67 (fun H locs hI => ?_)
      exact r_iret hC hr hlk hI (by simp only [csF, tkF, fdF, blF, hdF, mxF, mnF]; (repeat' split) <;> omega) (rfl) dX7_takes_70
    · skip
      refine r_iconst hC dX7_takes_55 ?_
      refine r_iload_n hC hl dX7_takes_56 1 rfl ?_
      refine r_imul hC dX7_takes_57 ?_
      refine r_goto (tgt := 64) hC dX7_takes_58 (by decide) ?_
      refine r_iconst hC dX7_takes_64 ?_
      refine r_bipush hC (by decide) dX7_takes_65 ?_
      refine r_cSi hC hI hl [.int (J (5 * d)), .int (J 0), .int (J 99)] [] (c_X7_held l X a B S (5 * d) 0 99 (by omega) (by omega) (by omega)) ml_RX7_60 es_X7_held ⟨Nat.le_of_ble_eq_true rfl, Nat.le_of_ble_eq_true rfl⟩ ⟨Nat.zero_le _, Nat.zero_le _⟩ (Nat.le_of_ble_eq_true rfl) rfl dX7_takes_67 (fun H locs hI => ?_)
      exact r_iret hC hr hlk hI (by simp only [csF, tkF, fdF, blF, hdF, mxF, mnF]; (repeat' split) <;> omega) (rfl) dX7_takes_70
  by_cases c_4 : k = 4
  · refine r_tin (tgt := 36) hC 4 c_4 (by decide) dX7_takes_1 (by decide) (by decide) rfl (by decide) ?_
    refine r_iconst hC dX7_takes_36 ?_
    refine r_iload_n hC hl dX7_takes_37 1 rfl ?_
    refine r_imul hC dX7_takes_38 ?_
    refine r_bipush hC (by decide) dX7_takes_39 ?_
    refine r_iadd hC dX7_takes_41 ?_
    refine r_iconst hC dX7_takes_42 ?_
    refine r_bipush hC (by decide) dX7_takes_43 ?_
    refine r_cSi hC hI hl [.int (J ((4 * d) + 10)), .int (J 0), .int (J 99)] [] (c_X7_held l X a B S ((4 * d) + 10) 0 99 (by omega) (by omega) (by omega)) ml_RX7_60 es_X7_held ⟨Nat.le_of_ble_eq_true rfl, Nat.le_of_ble_eq_true rfl⟩ ⟨Nat.zero_le _, Nat.zero_le _⟩ (Nat.le_of_ble_eq_true rfl) rfl dX7_takes_45 (fun H locs hI => ?_)
    exact r_iret hC hr hlk hI (by simp only [csF, tkF, fdF, blF, hdF, mxF, mnF]; (repeat' split) <;> omega) (rfl) dX7_takes_48
  by_cases c_5 : k = 5
  · refine r_tin (tgt := 71) hC 5 c_5 (by decide) dX7_takes_1 (by decide) (by decide) rfl (by decide) ?_
    refine r_iconst hC dX7_takes_71 ?_
    refine r_iload_n hC hl dX7_takes_72 1 rfl ?_
    refine r_imul hC dX7_takes_73 ?_
    refine r_iconst hC dX7_takes_74 ?_
    refine r_isub hC dX7_takes_75 ?_
    refine r_iconst hC dX7_takes_76 ?_
    refine r_bipush hC (by decide) dX7_takes_77 ?_
    refine r_cSi hC hI hl [.int (J ((4 * d) - 5)), .int (J 0), .int (J 99)] [] (c_X7_held l X a B S ((4 * d) - 5) 0 99 (by omega) (by omega) (by omega)) ml_RX7_60 es_X7_held ⟨Nat.le_of_ble_eq_true rfl, Nat.le_of_ble_eq_true rfl⟩ ⟨Nat.zero_le _, Nat.zero_le _⟩ (Nat.le_of_ble_eq_true rfl) rfl dX7_takes_79 (fun H locs hI => ?_)
    exact r_iret hC hr hlk hI (by simp only [csF, tkF, fdF, blF, hdF, mxF, mnF]; (repeat' split) <;> omega) (rfl) dX7_takes_82
  by_cases c_6 : k = 2
  · refine r_tin (tgt := 83) hC 2 c_6 (by decide) dX7_takes_1 (by decide) (by decide) rfl (by decide) ?_
    refine r_iconst hC dX7_takes_83 ?_
    refine r_iload_n hC hl dX7_takes_84 1 rfl ?_
    refine r_imul hC dX7_takes_85 ?_
    refine r_iconst hC dX7_takes_86 ?_
    refine r_bipush hC (by decide) dX7_takes_87 ?_
    refine r_cSi hC hI hl [.int (J (4 * d)), .int (J 0), .int (J 99)] [] (c_X7_held l X a B S (4 * d) 0 99 (by omega) (by omega) (by omega)) ml_RX7_60 es_X7_held ⟨Nat.le_of_ble_eq_true rfl, Nat.le_of_ble_eq_true rfl⟩ ⟨Nat.zero_le _, Nat.zero_le _⟩ (Nat.le_of_ble_eq_true rfl) rfl dX7_takes_89 (fun H locs hI => ?_)
    exact r_iret hC hr hlk hI (by simp only [csF, tkF, fdF, blF, hdF, mxF, mnF]; (repeat' split) <;> omega) (rfl) dX7_takes_92
  refine r_tout (tgt := 83) hC (by omega) dX7_takes_1 (by omega) (by decide) ?_
  refine r_iconst hC dX7_takes_83 ?_
  refine r_iload_n hC hl dX7_takes_84 1 rfl ?_
  refine r_imul hC dX7_takes_85 ?_
  refine r_iconst hC dX7_takes_86 ?_
  refine r_bipush hC (by decide) dX7_takes_87 ?_
  refine r_cSi hC hI hl [.int (J (4 * d)), .int (J 0), .int (J 99)] [] (c_X7_held l X a B S (4 * d) 0 99 (by omega) (by omega) (by omega)) ml_RX7_60 es_X7_held ⟨Nat.le_of_ble_eq_true rfl, Nat.le_of_ble_eq_true rfl⟩ ⟨Nat.zero_le _, Nat.zero_le _⟩ (Nat.le_of_ble_eq_true rfl) rfl dX7_takes_89 (fun H locs hI => ?_)
  exact r_iret hC hr hlk hI (by simp only [csF, tkF, fdF, blF, hdF, mxF, mnF]; (repeat' split) <;> omega) (rfl) dX7_takes_92

set_option maxHeartbeats 4000000 in
set_option maxRecDepth 100000 in
theorem c_X0_fades (l : Launch) (X : XT) (a : Nat → Nat) (B : Nat) (S : St) (k : Int) (u : Int) (r : Int) (hk : 0 ≤ k ∧ k ≤ 5) (hu : 0 ≤ u ∧ u ≤ 1) (hr : 0 ≤ r ∧ r ≤ 9999) : CT l X a B 0 yX0_fades cX0_fades 6 (some .int) [.int (J k), .int (J u), .int (J r)] S (Qi X a B (fdF k u r) (S)) := by
  refine CT.of (by decide +kernel) (Nat.le_of_ble_eq_true rfl) ?_
  intro p e s m below meth c ls hC hr hlk hI hl
  have hC : Cx p c cX0_fades 6 s m [.int (J k), .int (J u), .int (J r)].toArray RX0 X B := hC
  have hl : lv_has ls 6 [(0, .int (J k)), (1, .int (J u)), (2, .int (J r))] := hl
  refine r_iload_n hC hl dX0_fades_0 1 rfl ?_
  refine r_iconst hC dX0_fades_1 ?_
  refine r_icmp_ne (tgt := 10) hC (by omega) (by omega) dX0_fades_2 (by decide) (fun c_1 => ?_) (fun c_1 => ?_)
  · skip
    refine r_iconst hC dX0_fades_10 ?_
    refine r_istore_n (lv1 := [(3, .int (J 0)), (0, .int (J k)), (1, .int (J u)), (2, .int (J r))]) hC hl dX0_fades_11 3 rfl (by decide) rfl (fun ls hl => ?_)
    refine r_iload_n hC hl dX0_fades_12 0 rfl ?_
    refine r_iconst hC dX0_fades_13 ?_
    refine r_idiv hC (by omega) (by omega) dX0_fades_14 ?_
    refine r_istore (lv1 := [(4, .int (J (0 / 2))), (3, .int (J 0)), (0, .int (J k)), (1, .int (J u)), (2, .int (J r))]) hC hl dX0_fades_15 (by decide) rfl (fun ls hl => ?_)
    refine r_iload_n hC hl dX0_fades_17 1 rfl ?_
    refine r_iconst hC dX0_fades_18 ?_
    refine r_iadd hC dX0_fades_19 ?_
    refine r_istore (lv1 := [(5, .int (J (0 + 1))), (4, .int (J (0 / 2))), (3, .int (J 0)), (0, .int (J k)), (1, .int (J u)), (2, .int (J r))]) hC hl dX0_fades_20 (by decide) rfl (fun ls hl => ?_)
    refine r_iload_n hC hl dX0_fades_22 3 rfl ?_
    by_cases c_2 : k = 1
    · refine r_tin (tgt := 56) hC 1 c_2 (by decide) dX0_fades_23 (by decide) (by decide) rfl (by decide) ?_
      refine r_iload hC hl dX0_fades_56 1 rfl ?_
      exact r_iret hC hr hlk hI (by simp only [csF, tkF, fdF, blF, hdF, mxF, mnF]; (repeat' split) <;> omega) (rfl) dX0_fades_58
    by_cases c_3 : k = 2
    · refine r_tin (tgt := 59) hC 2 c_3 (by decide) dX0_fades_23 (by decide) (by decide) rfl (by decide) ?_
      refine r_iload hC hl dX0_fades_59 0 rfl ?_
      exact r_iret hC hr hlk hI (by simp only [csF, tkF, fdF, blF, hdF, mxF, mnF]; (repeat' split) <;> omega) (rfl) dX0_fades_61
    by_cases c_4 : k = 4
    · refine r_tin (tgt := 62) hC 4 c_4 (by decide) dX0_fades_23 (by decide) (by decide) rfl (by decide) ?_
      refine r_iload_n hC hl dX0_fades_62 5 rfl ?_
      refine r_if_ne (tgt := 70) hC (by omega) dX0_fades_63 (by decide) (fun c_5 => ?_) (fun c_5 => ?_)
      · skip
        refine r_iload hC hl dX0_fades_70 1 rfl ?_
        exact r_iret hC hr hlk hI (by simp only [csF, tkF, fdF, blF, hdF, mxF, mnF]; (repeat' split) <;> omega) (rfl) dX0_fades_72
      · skip
        refine r_iconst hC dX0_fades_66 ?_
        refine r_goto (tgt := 72) hC dX0_fades_67 (by decide) ?_
        exact r_iret hC hr hlk hI (by simp only [csF, tkF, fdF, blF, hdF, mxF, mnF]; (repeat' split) <;> omega) (rfl) dX0_fades_72
    by_cases c_6 : k = 5
    · refine r_tin (tgt := 73) hC 5 c_6 (by decide) dX0_fades_23 (by decide) (by decide) rfl (by decide) ?_
      refine r_iload hC hl dX0_fades_73 0 rfl ?_
      refine r_iload_n hC hl dX0_fades_75 5 rfl ?_
      refine r_iconst hC dX0_fades_76 ?_
      refine r_idiv hC (by omega) (by omega) dX0_fades_77 ?_
      refine r_iadd hC dX0_fades_78 ?_
      exact r_iret hC hr hlk hI (by simp only [csF, tkF, fdF, blF, hdF, mxF, mnF]; (repeat' split) <;> omega) (rfl) dX0_fades_79
    by_cases c_7 : k = 3
    · refine r_tin (tgt := 80) hC 3 c_7 (by decide) dX0_fades_23 (by decide) (by decide) rfl (by decide) ?_
      refine r_iload_n hC hl dX0_fades_80 2 rfl ?_
      exact r_iret hC hr hlk hI (by simp only [csF, tkF, fdF, blF, hdF, mxF, mnF]; (repeat' split) <;> omega) (rfl) dX0_fades_81
    refine r_tout (tgt := 80) hC (by omega) dX0_fades_23 (by omega) (by decide) ?_
    refine r_iload_n hC hl dX0_fades_80 2 rfl ?_
    exact r_iret hC hr hlk hI (by simp only [csF, tkF, fdF, blF, hdF, mxF, mnF]; (repeat' split) <;> omega) (rfl) dX0_fades_81
  · skip
    refine r_bipush hC (by decide) dX0_fades_5 ?_
    refine r_goto (tgt := 11) hC dX0_fades_7 (by decide) ?_
    refine r_istore_n (lv1 := [(3, .int (J 9)), (0, .int (J k)), (1, .int (J u)), (2, .int (J r))]) hC hl dX0_fades_11 3 rfl (by decide) rfl (fun ls hl => ?_)
    refine r_iload_n hC hl dX0_fades_12 0 rfl ?_
    refine r_iconst hC dX0_fades_13 ?_
    refine r_idiv hC (by omega) (by omega) dX0_fades_14 ?_
    refine r_istore (lv1 := [(4, .int (J (9 / 2))), (3, .int (J 9)), (0, .int (J k)), (1, .int (J u)), (2, .int (J r))]) hC hl dX0_fades_15 (by decide) rfl (fun ls hl => ?_)
    refine r_iload_n hC hl dX0_fades_17 1 rfl ?_
    refine r_iconst hC dX0_fades_18 ?_
    refine r_iadd hC dX0_fades_19 ?_
    refine r_istore (lv1 := [(5, .int (J (9 + 1))), (4, .int (J (9 / 2))), (3, .int (J 9)), (0, .int (J k)), (1, .int (J u)), (2, .int (J r))]) hC hl dX0_fades_20 (by decide) rfl (fun ls hl => ?_)
    refine r_iload_n hC hl dX0_fades_22 3 rfl ?_
    by_cases c_8 : k = 1
    · refine r_tin (tgt := 56) hC 1 c_8 (by decide) dX0_fades_23 (by decide) (by decide) rfl (by decide) ?_
      refine r_iload hC hl dX0_fades_56 1 rfl ?_
      exact r_iret hC hr hlk hI (by simp only [csF, tkF, fdF, blF, hdF, mxF, mnF]; (repeat' split) <;> omega) (rfl) dX0_fades_58
    by_cases c_9 : k = 2
    · refine r_tin (tgt := 59) hC 2 c_9 (by decide) dX0_fades_23 (by decide) (by decide) rfl (by decide) ?_
      refine r_iload hC hl dX0_fades_59 0 rfl ?_
      exact r_iret hC hr hlk hI (by simp only [csF, tkF, fdF, blF, hdF, mxF, mnF]; (repeat' split) <;> omega) (rfl) dX0_fades_61
    by_cases c_10 : k = 4
    · refine r_tin (tgt := 62) hC 4 c_10 (by decide) dX0_fades_23 (by decide) (by decide) rfl (by decide) ?_
      refine r_iload_n hC hl dX0_fades_62 5 rfl ?_
      refine r_if_ne (tgt := 70) hC (by omega) dX0_fades_63 (by decide) (fun c_11 => ?_) (fun c_11 => ?_)
      · skip
        refine r_iload hC hl dX0_fades_70 1 rfl ?_
        exact r_iret hC hr hlk hI (by simp only [csF, tkF, fdF, blF, hdF, mxF, mnF]; (repeat' split) <;> omega) (rfl) dX0_fades_72
      · skip
        refine r_iconst hC dX0_fades_66 ?_
        refine r_goto (tgt := 72) hC dX0_fades_67 (by decide) ?_
        exact r_iret hC hr hlk hI (by simp only [csF, tkF, fdF, blF, hdF, mxF, mnF]; (repeat' split) <;> omega) (rfl) dX0_fades_72
    by_cases c_12 : k = 5
    · refine r_tin (tgt := 73) hC 5 c_12 (by decide) dX0_fades_23 (by decide) (by decide) rfl (by decide) ?_
      refine r_iload hC hl dX0_fades_73 0 rfl ?_
      refine r_iload_n hC hl dX0_fades_75 5 rfl ?_
      refine r_iconst hC dX0_fades_76 ?_
      refine r_idiv hC (by omega) (by omega) dX0_fades_77 ?_
      refine r_iadd hC dX0_fades_78 ?_
      exact r_iret hC hr hlk hI (by simp only [csF, tkF, fdF, blF, hdF, mxF, mnF]; (repeat' split) <;> omega) (rfl) dX0_fades_79
    by_cases c_13 : k = 3
    · refine r_tin (tgt := 80) hC 3 c_13 (by decide) dX0_fades_23 (by decide) (by decide) rfl (by decide) ?_
      refine r_iload_n hC hl dX0_fades_80 2 rfl ?_
      exact r_iret hC hr hlk hI (by simp only [csF, tkF, fdF, blF, hdF, mxF, mnF]; (repeat' split) <;> omega) (rfl) dX0_fades_81
    refine r_tout (tgt := 80) hC (by omega) dX0_fades_23 (by omega) (by decide) ?_
    refine r_iload_n hC hl dX0_fades_80 2 rfl ?_
    exact r_iret hC hr hlk hI (by simp only [csF, tkF, fdF, blF, hdF, mxF, mnF]; (repeat' split) <;> omega) (rfl) dX0_fades_81

set_option maxHeartbeats 4000000 in
set_option maxRecDepth 100000 in
theorem c_X0_believed (l : Launch) (X : XT) (a : Nat → Nat) (B : Nat) (S : St) (k : Int) (b : Int) (r : Int) (w : Int) (hk : 0 ≤ k ∧ k ≤ 5) (hb : 0 ≤ b ∧ b ≤ 99) (hr : 0 ≤ r ∧ r ≤ 9999) (hw : 0 ≤ w ∧ w ≤ 9) : CT l X a B 1 yX0_believed cX0_believed 7 (some .int) [.int (J k), .int (J b), .int (J r), .int (J w)] S (Qi X a B (blF k b r w) (S)) := by
  refine CT.of (by decide +kernel) (Nat.le_of_ble_eq_true rfl) ?_
  intro p e s m below meth c ls hC hr hlk hI hl
  have hC : Cx p c cX0_believed 7 s m [.int (J k), .int (J b), .int (J r), .int (J w)].toArray RX0 X B := hC
  have hl : lv_has ls 7 [(0, .int (J k)), (1, .int (J b)), (2, .int (J r)), (3, .int (J w))] := hl
  have hbl := mul_bd hb hw
  refine r_iload_n hC hl dX0_believed_0 1 rfl ?_
  refine r_if_ne (tgt := 6) hC (by omega) dX0_believed_1 (by decide) (fun c_1 => ?_) (fun c_1 => ?_)
  · skip
    refine r_iload_n hC hl dX0_believed_6 1 rfl ?_
    refine r_iload_n hC hl dX0_believed_7 3 rfl ?_
    refine r_imul hC dX0_believed_8 ?_
    refine r_bipush hC (by decide) dX0_believed_9 ?_
    refine r_idiv hC (by omega) (by omega) dX0_believed_11 ?_
    refine r_istore (lv1 := [(4, .int (J ((b * w) / 9))), (0, .int (J k)), (1, .int (J b)), (2, .int (J r)), (3, .int (J w))]) hC hl dX0_believed_12 (by decide) rfl (fun ls hl => ?_)
    refine r_iload_n hC hl dX0_believed_14 2 rfl ?_
    refine r_bipush hC (by decide) dX0_believed_15 ?_
    refine r_icmp_le (tgt := 27) hC (by omega) (by omega) dX0_believed_17 (by decide) (fun c_2 => ?_) (fun c_2 => ?_)
    · skip
      refine r_iload hC hl dX0_believed_27 0 rfl ?_
      refine r_istore (lv1 := [(5, .int (J ((b * w) / 9))), (4, .int (J ((b * w) / 9))), (0, .int (J k)), (1, .int (J b)), (2, .int (J r)), (3, .int (J w))]) hC hl dX0_believed_29 (by decide) rfl (fun ls hl => ?_)
      refine r_iconst hC dX0_believed_31 ?_
      refine r_iload hC hl dX0_believed_32 1 rfl ?_
      refine r_iload_n hC hl dX0_believed_34 4 rfl ?_
      refine r_isub hC dX0_believed_35 ?_
      refine r_cSi hC hI hl [.int (J 0), .int (J (((b * w) / 9) - r))] [] (c_J9_max_7cf53 l X a B S 0 (((b * w) / 9) - r) (by omega) (by omega)) ml_RX0_27 es_J9_max_7cf53 ⟨Nat.le_of_ble_eq_true rfl, Nat.le_of_ble_eq_true rfl⟩ ⟨Nat.zero_le _, Nat.zero_le _⟩ (Nat.le_of_ble_eq_true rfl) rfl dX0_believed_36 (fun H locs hI => ?_)
      refine r_istore (lv1 := [(6, .int (J (mxF 0 (((b * w) / 9) - r)))), (5, .int (J ((b * w) / 9))), (4, .int (J ((b * w) / 9))), (0, .int (J k)), (1, .int (J b)), (2, .int (J r)), (3, .int (J w))]) hC hl dX0_believed_39 (by decide) rfl (fun ls hl => ?_)
      refine r_iload_n hC hl dX0_believed_41 3 rfl ?_
      by_cases c_3 : k = 1
      · refine r_tin (tgt := 76) hC 1 c_3 (by decide) dX0_believed_42 (by decide) (by decide) rfl (by decide) ?_
        refine r_iload hC hl dX0_believed_76 1 rfl ?_
        exact r_iret hC hr hlk hI (by simp only [csF, tkF, fdF, blF, hdF, mxF, mnF]; (repeat' split) <;> omega) (rfl) dX0_believed_78
      by_cases c_4 : k = 2
      · refine r_tin (tgt := 79) hC 2 c_4 (by decide) dX0_believed_42 (by decide) (by decide) rfl (by decide) ?_
        refine r_iload hC hl dX0_believed_79 0 rfl ?_
        exact r_iret hC hr hlk hI (by simp only [csF, tkF, fdF, blF, hdF, mxF, mnF]; (repeat' split) <;> omega) (rfl) dX0_believed_81
      by_cases c_5 : k = 3
      · refine r_tin (tgt := 82) hC 3 c_5 (by decide) dX0_believed_42 (by decide) (by decide) rfl (by decide) ?_
        refine r_iload_n hC hl dX0_believed_82 6 rfl ?_
        refine r_iconst hC dX0_believed_83 ?_
        refine r_icmp_lt (tgt := 91) hC (by omega) (by omega) dX0_believed_84 (by decide) (fun c_6 => ?_) (fun c_6 => ?_)
        · skip
          refine r_iconst hC dX0_believed_91 ?_
          exact r_iret hC hr hlk hI (by simp only [csF, tkF, fdF, blF, hdF, mxF, mnF]; (repeat' split) <;> omega) (rfl) dX0_believed_92
        · skip
          refine r_iload_n hC hl dX0_believed_87 4 rfl ?_
          refine r_goto (tgt := 92) hC dX0_believed_88 (by decide) ?_
          exact r_iret hC hr hlk hI (by simp only [csF, tkF, fdF, blF, hdF, mxF, mnF]; (repeat' split) <;> omega) (rfl) dX0_believed_92
      by_cases c_7 : k = 4
      · refine r_tin (tgt := 93) hC 4 c_7 (by decide) dX0_believed_42 (by decide) (by decide) rfl (by decide) ?_
        refine r_iconst hC dX0_believed_93 ?_
        refine r_iload hC hl dX0_believed_94 1 rfl ?_
        refine r_imul hC dX0_believed_96 ?_
        exact r_iret hC hr hlk hI (by simp only [csF, tkF, fdF, blF, hdF, mxF, mnF]; (repeat' split) <;> omega) (rfl) dX0_believed_97
      by_cases c_8 : k = 5
      · refine r_tin (tgt := 98) hC 5 c_8 (by decide) dX0_believed_42 (by decide) (by decide) rfl (by decide) ?_
        refine r_iload hC hl dX0_believed_98 0 rfl ?_
        refine r_iload_n hC hl dX0_believed_100 6 rfl ?_
        refine r_iadd hC dX0_believed_101 ?_
        exact r_iret hC hr hlk hI (by simp only [csF, tkF, fdF, blF, hdF, mxF, mnF]; (repeat' split) <;> omega) (rfl) dX0_believed_102
      refine r_tout (tgt := 103) hC (by omega) dX0_believed_42 (by omega) (by decide) ?_
      refine r_iload hC hl dX0_believed_103 2 rfl ?_
      exact r_iret hC hr hlk hI (by simp only [csF, tkF, fdF, blF, hdF, mxF, mnF]; (repeat' split) <;> omega) (rfl) dX0_believed_105
    · skip
      refine r_iload hC hl dX0_believed_20 0 rfl ?_
      refine r_iconst hC dX0_believed_22 ?_
      refine r_iadd hC dX0_believed_23 ?_
      refine r_goto (tgt := 29) hC dX0_believed_24 (by decide) ?_
      refine r_istore (lv1 := [(5, .int (J (((b * w) / 9) + 5))), (4, .int (J ((b * w) / 9))), (0, .int (J k)), (1, .int (J b)), (2, .int (J r)), (3, .int (J w))]) hC hl dX0_believed_29 (by decide) rfl (fun ls hl => ?_)
      refine r_iconst hC dX0_believed_31 ?_
      refine r_iload hC hl dX0_believed_32 1 rfl ?_
      refine r_iload_n hC hl dX0_believed_34 4 rfl ?_
      refine r_isub hC dX0_believed_35 ?_
      refine r_cSi hC hI hl [.int (J 0), .int (J (((b * w) / 9) - r))] [] (c_J9_max_7cf53 l X a B S 0 (((b * w) / 9) - r) (by omega) (by omega)) ml_RX0_27 es_J9_max_7cf53 ⟨Nat.le_of_ble_eq_true rfl, Nat.le_of_ble_eq_true rfl⟩ ⟨Nat.zero_le _, Nat.zero_le _⟩ (Nat.le_of_ble_eq_true rfl) rfl dX0_believed_36 (fun H locs hI => ?_)
      refine r_istore (lv1 := [(6, .int (J (mxF 0 (((b * w) / 9) - r)))), (5, .int (J (((b * w) / 9) + 5))), (4, .int (J ((b * w) / 9))), (0, .int (J k)), (1, .int (J b)), (2, .int (J r)), (3, .int (J w))]) hC hl dX0_believed_39 (by decide) rfl (fun ls hl => ?_)
      refine r_iload_n hC hl dX0_believed_41 3 rfl ?_
      by_cases c_9 : k = 1
      · refine r_tin (tgt := 76) hC 1 c_9 (by decide) dX0_believed_42 (by decide) (by decide) rfl (by decide) ?_
        refine r_iload hC hl dX0_believed_76 1 rfl ?_
        exact r_iret hC hr hlk hI (by simp only [csF, tkF, fdF, blF, hdF, mxF, mnF]; (repeat' split) <;> omega) (rfl) dX0_believed_78
      by_cases c_10 : k = 2
      · refine r_tin (tgt := 79) hC 2 c_10 (by decide) dX0_believed_42 (by decide) (by decide) rfl (by decide) ?_
        refine r_iload hC hl dX0_believed_79 0 rfl ?_
        exact r_iret hC hr hlk hI (by simp only [csF, tkF, fdF, blF, hdF, mxF, mnF]; (repeat' split) <;> omega) (rfl) dX0_believed_81
      by_cases c_11 : k = 3
      · refine r_tin (tgt := 82) hC 3 c_11 (by decide) dX0_believed_42 (by decide) (by decide) rfl (by decide) ?_
        refine r_iload_n hC hl dX0_believed_82 6 rfl ?_
        refine r_iconst hC dX0_believed_83 ?_
        refine r_icmp_lt (tgt := 91) hC (by omega) (by omega) dX0_believed_84 (by decide) (fun c_12 => ?_) (fun c_12 => ?_)
        · skip
          refine r_iconst hC dX0_believed_91 ?_
          exact r_iret hC hr hlk hI (by simp only [csF, tkF, fdF, blF, hdF, mxF, mnF]; (repeat' split) <;> omega) (rfl) dX0_believed_92
        · skip
          refine r_iload_n hC hl dX0_believed_87 4 rfl ?_
          refine r_goto (tgt := 92) hC dX0_believed_88 (by decide) ?_
          exact r_iret hC hr hlk hI (by simp only [csF, tkF, fdF, blF, hdF, mxF, mnF]; (repeat' split) <;> omega) (rfl) dX0_believed_92
      by_cases c_13 : k = 4
      · refine r_tin (tgt := 93) hC 4 c_13 (by decide) dX0_believed_42 (by decide) (by decide) rfl (by decide) ?_
        refine r_iconst hC dX0_believed_93 ?_
        refine r_iload hC hl dX0_believed_94 1 rfl ?_
        refine r_imul hC dX0_believed_96 ?_
        exact r_iret hC hr hlk hI (by simp only [csF, tkF, fdF, blF, hdF, mxF, mnF]; (repeat' split) <;> omega) (rfl) dX0_believed_97
      by_cases c_14 : k = 5
      · refine r_tin (tgt := 98) hC 5 c_14 (by decide) dX0_believed_42 (by decide) (by decide) rfl (by decide) ?_
        refine r_iload hC hl dX0_believed_98 0 rfl ?_
        refine r_iload_n hC hl dX0_believed_100 6 rfl ?_
        refine r_iadd hC dX0_believed_101 ?_
        exact r_iret hC hr hlk hI (by simp only [csF, tkF, fdF, blF, hdF, mxF, mnF]; (repeat' split) <;> omega) (rfl) dX0_believed_102
      refine r_tout (tgt := 103) hC (by omega) dX0_believed_42 (by omega) (by decide) ?_
      refine r_iload hC hl dX0_believed_103 2 rfl ?_
      exact r_iret hC hr hlk hI (by simp only [csF, tkF, fdF, blF, hdF, mxF, mnF]; (repeat' split) <;> omega) (rfl) dX0_believed_105
  · skip
    refine r_iconst hC dX0_believed_4 ?_
    exact r_iret hC hr hlk hI (by simp only [csF, tkF, fdF, blF, hdF, mxF, mnF]; (repeat' split) <;> omega) (rfl) dX0_believed_5
end
section
def fadedF (b f n : Int) : Int := mxF 0 (b - n * f)
def fdP (R : Nat → Int) (i : Nat) : Int := fdF (R (18 + 5 * i)) (R (21 + 5 * i)) (R (22 + 5 * i))
def bkP (R : Nat → Int) (i : Nat) (n : Int) : Int := fadedF (R (20 + 5 * i)) (fdP R i) n
def blA (R : Nat → Int) (i : Nat) (k u n w : Int) : Int := blF k (fadedF (R (20 + 5 * i)) (fdF k u (R (22 + 5 * i))) n) (R (22 + 5 * i)) w
def blP (R : Nat → Int) (i : Nat) (n w : Int) : Int := blA R i (R (18 + 5 * i)) (R (21 + 5 * i)) n w
def VP (R : Nat → Int) (i : Nat) : Prop := (0 ≤ R (18 + 5 * i) ∧ R (18 + 5 * i) ≤ 5) ∧ (0 ≤ R (19 + 5 * i) ∧ R (19 + 5 * i) ≤ 99) ∧ (0 ≤ R (20 + 5 * i) ∧ R (20 + 5 * i) ≤ 99) ∧ (0 ≤ R (21 + 5 * i) ∧ R (21 + 5 * i) ≤ 1) ∧ (0 ≤ R (22 + 5 * i) ∧ R (22 + 5 * i) ≤ 9999)
def VR (N : Int) (R : Nat → Int) : Prop := ((0 ≤ R 0 ∧ R 0 ≤ N) ∧ (0 ≤ R 1 ∧ R 1 ≤ 9) ∧ (0 ≤ R 2 ∧ R 2 ≤ 8) ∧ (0 ≤ R 3 ∧ R 3 ≤ 999) ∧ (0 ≤ R 4 ∧ R 4 ≤ 9) ∧ (0 ≤ R 5 ∧ R 5 ≤ 8)) ∧ (∀ j, j < 12 → 0 ≤ R (6 + j) ∧ R (6 + j) ≤ 20) ∧ ∀ i, i < 8 → VP R i
theorem fd_rg {k u r : Int} (hk : 0 ≤ k ∧ k ≤ 5) (hu : 0 ≤ u ∧ u ≤ 1) (hr : 0 ≤ r ∧ r ≤ 9999) : 0 ≤ fdF k u r ∧ fdF k u r ≤ 2600 := by
  unfold fdF; (repeat' split) <;> omega
theorem mx_rg {x y A : Int} (hx : 0 ≤ x ∧ x ≤ A) (hy : y ≤ A) : 0 ≤ mxF x y ∧ mxF x y ≤ A := by
  unfold mxF; split <;> omega
theorem fad_rg {b f n : Int} (hb : 0 ≤ b ∧ b ≤ 99) (hf : 0 ≤ f ∧ f ≤ 2600) (hn : 0 ≤ n ∧ n ≤ 300) : 0 ≤ fadedF b f n ∧ fadedF b f n ≤ 99 := by
  have h := mul_bd hn hf
  exact mx_rg (by omega) (by omega)
theorem bl_rg {k b r w : Int} (hb : 0 ≤ b ∧ b ≤ 99) (hr : 0 ≤ r ∧ r ≤ 9999) (hw : 0 ≤ w ∧ w ≤ 9) : 0 ≤ blF k b r w ∧ blF k b r w ≤ 300 := by
  have h := mul_bd hb hw
  unfold blF mxF; (repeat' split) <;> omega
theorem bk_rg {R : Nat → Int} {i : Nat} (hV : VP R i) {n : Int} (hn : 0 ≤ n ∧ n ≤ 300) : 0 ≤ bkP R i n ∧ bkP R i n ≤ 99 := fad_rg hV.2.2.1 (fd_rg hV.1 hV.2.2.2.1 hV.2.2.2.2) hn
theorem blA_rg {R : Nat → Int} {i : Nat} (hV : VP R i) {k u n w : Int} (hk : 0 ≤ k ∧ k ≤ 5) (hu : 0 ≤ u ∧ u ≤ 1) (hn : 0 ≤ n ∧ n ≤ 300) (hw : 0 ≤ w ∧ w ≤ 9) : 0 ≤ blA R i k u n w ∧ blA R i k u n w ≤ 300 := bl_rg (fad_rg hV.2.2.1 (fd_rg hk hu hV.2.2.2.2) hn) hV.2.2.2.2 hw
theorem blP_rg {R : Nat → Int} {i : Nat} (hV : VP R i) {n w : Int} (hn : 0 ≤ n ∧ n ≤ 300) (hw : 0 ≤ w ∧ w ≤ 9) : 0 ≤ blP R i n w ∧ blP R i n w ≤ 300 := blA_rg hV hV.1 hV.2.2.2.1 hn hw

set_option maxHeartbeats 4000000 in
set_option maxRecDepth 100000 in
theorem c_X1_least (l : Launch) (X : XT) (a : Nat → Nat) (B : Nat) (S : St) (w : Int) (hw : -2147483648 ≤ w ∧ w ≤ 2147483647) : CT l X a B 0 yX1_least cX1_least 1 (some .int) [.int (J w)] S (Qi X a B (if w = 1 then 1 else 0) (S)) := by
  refine CT.of (by decide +kernel) (Nat.le_of_ble_eq_true rfl) ?_
  intro p e s m below meth c ls hC hr hlk hI hl
  have hC : Cx p c cX1_least 1 s m [.int (J w)].toArray RX1 X B := hC
  have hl : lv_has ls 1 [(0, .int (J w))] := hl
  refine r_iload_n hC hl dX1_least_0 0 rfl ?_
  refine r_iconst hC dX1_least_1 ?_
  refine r_icmp_ne (tgt := 9) hC (by omega) (by omega) dX1_least_2 (by decide) (fun c_1 => ?_) (fun c_1 => ?_)
  · skip
    refine r_iconst hC dX1_least_9 ?_
    exact r_iret hC hr hlk hI (by split <;> omega) (rfl) dX1_least_10
  · skip
    refine r_iconst hC dX1_least_5 ?_
    refine r_goto (tgt := 10) hC dX1_least_6 (by decide) ?_
    exact r_iret hC hr hlk hI (by split <;> omega) (rfl) dX1_least_10

def moP (w : Int) : Int := if w = 1 then 99 else if w = 2 then 99 else if w = 3 then 1 else if w = 4 then 9999 else -1

set_option maxHeartbeats 4000000 in
set_option maxRecDepth 100000 in
theorem c_X1_most (l : Launch) (X : XT) (a : Nat → Nat) (B : Nat) (S : St) (w : Int) (hw : -2147483648 ≤ w ∧ w ≤ 2147483647) : CT l X a B 0 yX1_most cX1_most 1 (some .int) [.int (J w)] S (Qi X a B (moP w) (S)) := by
  refine CT.of (by decide +kernel) (Nat.le_of_ble_eq_true rfl) ?_
  intro p e s m below meth c ls hC hr hlk hI hl
  have hC : Cx p c cX1_most 1 s m [.int (J w)].toArray RX1 X B := hC
  have hl : lv_has ls 1 [(0, .int (J w))] := hl
  refine r_iload_n hC hl dX1_most_0 0 rfl ?_
  by_cases c_1 : w = 1
  · refine r_tin (tgt := 32) hC 1 c_1 (by decide) dX1_most_1 (by decide) (by decide) rfl (by decide) ?_
    refine r_bipush hC (by decide) dX1_most_32 ?_
    exact r_iret hC hr hlk hI (by unfold moP; (repeat' split) <;> omega) (rfl) dX1_most_34
  by_cases c_2 : w = 2
  · refine r_tin (tgt := 35) hC 2 c_2 (by decide) dX1_most_1 (by decide) (by decide) rfl (by decide) ?_
    refine r_bipush hC (by decide) dX1_most_35 ?_
    exact r_iret hC hr hlk hI (by unfold moP; (repeat' split) <;> omega) (rfl) dX1_most_37
  by_cases c_3 : w = 3
  · refine r_tin (tgt := 38) hC 3 c_3 (by decide) dX1_most_1 (by decide) (by decide) rfl (by decide) ?_
    refine r_iconst hC dX1_most_38 ?_
    exact r_iret hC hr hlk hI (by unfold moP; (repeat' split) <;> omega) (rfl) dX1_most_39
  by_cases c_4 : w = 4
  · refine r_tin (tgt := 40) hC 4 c_4 (by decide) dX1_most_1 (by decide) (by decide) rfl (by decide) ?_
    refine r_sipush hC (by decide) dX1_most_40 ?_
    exact r_iret hC hr hlk hI (by unfold moP; (repeat' split) <;> omega) (rfl) dX1_most_43
  refine r_tout (tgt := 44) hC (by omega) dX1_most_1 (by omega) (by decide) ?_
  refine r_iconst hC dX1_most_44 ?_
  exact r_iret hC hr hlk hI (by unfold moP; (repeat' split) <;> omega) (rfl) dX1_most_45

set_option maxHeartbeats 4000000 in
set_option maxRecDepth 100000 in
theorem c_X1_has (l : Launch) (X : XT) (a : Nat → Nat) (B : Nat) (S : St) (k : Nat) (i : Nat) (w : Int) (hk : k < 3) (hi : i < 8) (hw : 1 ≤ w ∧ w ≤ 4) : CT l X a B 0 yX1_has cX1_has 2 (some .int) [.ref (a (25 + 8 * k + i)), .int (J w)] S (Qi X a B (S k (18 + 5 * i + w.toNat)) (S)) := by
  refine CT.of (by decide +kernel) (Nat.le_of_ble_eq_true rfl) ?_
  intro p e s m below meth c ls hC hr hlk hI hl
  have hC : Cx p c cX1_has 2 s m [.ref (a (25 + 8 * k + i)), .int (J w)].toArray RX1 X B := hC
  have hl : lv_has ls 2 [(0, .ref (a (25 + 8 * k + i))), (1, .int (J w))] := hl
  refine r_iload_n hC hl dX1_has_0 1 rfl ?_
  by_cases c_1 : w = 1
  · refine r_tin (tgt := 28) hC 1 c_1 (by decide) dX1_has_1 (by decide) (by decide) rfl (by decide) ?_
    refine r_aload_n hC hl dX1_has_28 0 rfl ?_
    refine g_pg (k1 := k) (i := i) (v := .int (J (S k (19 + 5 * i)))) hC hI (by omega) (by omega) 1 (by decide) fl_RX1_13 rfl rfl dX1_has_29 ?_
    exact r_iret hC hr hlk hI (by congr 1; omega) (rfl) dX1_has_32
  by_cases c_2 : w = 2
  · refine r_tin (tgt := 33) hC 2 c_2 (by decide) dX1_has_1 (by decide) (by decide) rfl (by decide) ?_
    refine r_aload_n hC hl dX1_has_33 0 rfl ?_
    refine g_pg (k1 := k) (i := i) (v := .int (J (S k (20 + 5 * i)))) hC hI (by omega) (by omega) 2 (by decide) fl_RX1_16 rfl rfl dX1_has_34 ?_
    exact r_iret hC hr hlk hI (by congr 1; omega) (rfl) dX1_has_37
  by_cases c_3 : w = 3
  · refine r_tin (tgt := 38) hC 3 c_3 (by decide) dX1_has_1 (by decide) (by decide) rfl (by decide) ?_
    refine r_aload_n hC hl dX1_has_38 0 rfl ?_
    refine g_pg (k1 := k) (i := i) (v := .int (J (S k (21 + 5 * i)))) hC hI (by omega) (by omega) 3 (by decide) fl_RX1_19 rfl rfl dX1_has_39 ?_
    exact r_iret hC hr hlk hI (by congr 1; omega) (rfl) dX1_has_42
  refine r_tout (tgt := 43) hC (by omega) dX1_has_1 (by omega) (by decide) ?_
  refine r_aload_n hC hl dX1_has_43 0 rfl ?_
  refine g_pg (k1 := k) (i := i) (v := .int (J (S k (22 + 5 * i)))) hC hI (by omega) (by omega) 4 (by decide) fl_RX1_22 rfl rfl dX1_has_44 ?_
  exact r_iret hC hr hlk hI (by congr 1; omega) (rfl) dX1_has_47

set_option maxHeartbeats 4000000 in
set_option maxRecDepth 100000 in
theorem c_X1_put (l : Launch) (X : XT) (a : Nat → Nat) (B : Nat) (S : St) (k : Nat) (i : Nat) (w : Int) (v : Int) (hk : k < 3) (hi : i < 8) (hw : 1 ≤ w ∧ w ≤ 4) : CT l X a B 0 yX1_put cX1_put 3 none [.ref (a (25 + 8 * k + i)), .int (J w), .int (J v)] S (Qv X a B (up S k (18 + 5 * i + w.toNat) v)) := by
  refine CT.of (by decide +kernel) (Nat.le_of_ble_eq_true rfl) ?_
  intro p e s m below meth c ls hC hr hlk hI hl
  have hC : Cx p c cX1_put 3 s m [.ref (a (25 + 8 * k + i)), .int (J w), .int (J v)].toArray RX1 X B := hC
  have hl : lv_has ls 3 [(0, .ref (a (25 + 8 * k + i))), (1, .int (J w)), (2, .int (J v))] := hl
  refine r_iload_n hC hl dX1_put_0 1 rfl ?_
  by_cases c_1 : w = 1
  · refine r_tin (tgt := 28) hC 1 c_1 (by decide) dX1_put_1 (by decide) (by decide) rfl (by decide) ?_
    refine r_aload_n hC hl dX1_put_28 0 rfl ?_
    refine r_iload_n hC hl dX1_put_29 2 rfl ?_
    refine p_pg1 (k1 := k) (i := i) hC hI (by omega) (by omega) fl_RX1_13 dX1_put_30 (fun H locs hI => ?_)
    refine r_goto (tgt := 57) hC dX1_put_33 (by decide) ?_
    exact r_vret hC hr hlk hI (by congr 1; omega) dX1_put_57
  by_cases c_2 : w = 2
  · refine r_tin (tgt := 36) hC 2 c_2 (by decide) dX1_put_1 (by decide) (by decide) rfl (by decide) ?_
    refine r_aload_n hC hl dX1_put_36 0 rfl ?_
    refine r_iload_n hC hl dX1_put_37 2 rfl ?_
    refine p_pg2 (k1 := k) (i := i) hC hI (by omega) (by omega) fl_RX1_16 dX1_put_38 (fun H locs hI => ?_)
    refine r_goto (tgt := 57) hC dX1_put_41 (by decide) ?_
    exact r_vret hC hr hlk hI (by congr 1; omega) dX1_put_57
  by_cases c_3 : w = 3
  · refine r_tin (tgt := 44) hC 3 c_3 (by decide) dX1_put_1 (by decide) (by decide) rfl (by decide) ?_
    refine r_aload_n hC hl dX1_put_44 0 rfl ?_
    refine r_iload_n hC hl dX1_put_45 2 rfl ?_
    refine p_pg3 (k1 := k) (i := i) hC hI (by omega) (by omega) fl_RX1_19 dX1_put_46 (fun H locs hI => ?_)
    refine r_goto (tgt := 57) hC dX1_put_49 (by decide) ?_
    exact r_vret hC hr hlk hI (by congr 1; omega) dX1_put_57
  refine r_tout (tgt := 52) hC (by omega) dX1_put_1 (by omega) (by decide) ?_
  refine r_aload_n hC hl dX1_put_52 0 rfl ?_
  refine r_iload_n hC hl dX1_put_53 2 rfl ?_
  refine p_pg4 (k1 := k) (i := i) hC hI (by omega) (by omega) fl_RX1_22 dX1_put_54 (fun H locs hI => ?_)
  exact r_vret hC hr hlk hI (by congr 1; omega) dX1_put_57

set_option maxHeartbeats 4000000 in
set_option maxRecDepth 100000 in
theorem c_X1_faded (l : Launch) (X : XT) (a : Nat → Nat) (B : Nat) (S : St) (b : Int) (f : Int) (n : Int) (hb : 0 ≤ b ∧ b ≤ 99) (hf : 0 ≤ f ∧ f ≤ 2600) (hn : 0 ≤ n ∧ n ≤ 300) : CT l X a B 1 yX1_faded cX1_faded 3 (some .int) [.int (J b), .int (J f), .int (J n)] S (Qi X a B (fadedF b f n) (S)) := by
  refine CT.of (by decide +kernel) (Nat.le_of_ble_eq_true rfl) ?_
  intro p e s m below meth c ls hC hr hlk hI hl
  have hC : Cx p c cX1_faded 3 s m [.int (J b), .int (J f), .int (J n)].toArray RX1 X B := hC
  have hl : lv_has ls 3 [(0, .int (J b)), (1, .int (J f)), (2, .int (J n))] := hl
  have hnf := mul_bd hn hf
  refine r_iconst hC dX1_faded_0 ?_
  refine r_iload_n hC hl dX1_faded_1 0 rfl ?_
  refine r_iload_n hC hl dX1_faded_2 2 rfl ?_
  refine r_iload_n hC hl dX1_faded_3 1 rfl ?_
  refine r_imul hC dX1_faded_4 ?_
  refine r_isub hC dX1_faded_5 ?_
  refine r_cSi hC hI hl [.int (J 0), .int (J (b - (n * f)))] [] (c_J9_max_7cf53 l X a B S 0 (b - (n * f)) (by omega) (by omega)) ml_RX1_58 es_J9_max_7cf53 ⟨Nat.le_of_ble_eq_true rfl, Nat.le_of_ble_eq_true rfl⟩ ⟨Nat.zero_le _, Nat.zero_le _⟩ (Nat.le_of_ble_eq_true rfl) rfl dX1_faded_6 (fun H locs hI => ?_)
  exact r_iret hC hr hlk hI (rfl) (rfl) dX1_faded_9

set_option maxHeartbeats 4000000 in
set_option maxRecDepth 100000 in
theorem c_X1_blackOn (l : Launch) (X : XT) (a : Nat → Nat) (B : Nat) (S : St) (k : Nat) (i : Nat) (n : Int) (hk : k < 3) (hi : i < 8) (hV : VP (S k) i) (hn : 0 ≤ n ∧ n ≤ 300) : CT l X a B 2 yX1_blackOn cX1_blackOn 2 (some .int) [.ref (a (25 + 8 * k + i)), .int (J n)] S (Qi X a B (bkP (S k) i n) (S)) := by
  refine CT.of (by decide +kernel) (Nat.le_of_ble_eq_true rfl) ?_
  intro p e s m below meth c ls hC hr hlk hI hl
  have hC : Cx p c cX1_blackOn 2 s m [.ref (a (25 + 8 * k + i)), .int (J n)].toArray RX1 X B := hC
  have hl : lv_has ls 2 [(0, .ref (a (25 + 8 * k + i))), (1, .int (J n))] := hl
  obtain ⟨h18, h19, h20, h21, h22⟩ := id hV
  have hfd := fd_rg h18 h21 h22
  refine r_aload_n hC hl dX1_blackOn_0 0 rfl ?_
  refine g_pg (k1 := k) (i := i) (v := .int (J (S k (20 + 5 * i)))) hC hI (by omega) (by omega) 2 (by decide) fl_RX1_16 rfl rfl dX1_blackOn_1 ?_
  refine r_aload_n hC hl dX1_blackOn_4 0 rfl ?_
  refine g_pg (k1 := k) (i := i) (v := .int (J (S k (18 + 5 * i)))) hC hI (by omega) (by omega) 0 (by decide) fl_RX1_7 rfl rfl dX1_blackOn_5 ?_
  refine r_aload_n hC hl dX1_blackOn_8 0 rfl ?_
  refine g_pg (k1 := k) (i := i) (v := .int (J (S k (21 + 5 * i)))) hC hI (by omega) (by omega) 3 (by decide) fl_RX1_19 rfl rfl dX1_blackOn_9 ?_
  refine r_aload_n hC hl dX1_blackOn_12 0 rfl ?_
  refine g_pg (k1 := k) (i := i) (v := .int (J (S k (22 + 5 * i)))) hC hI (by omega) (by omega) 4 (by decide) fl_RX1_22 rfl rfl dX1_blackOn_13 ?_
  refine r_cSi hC hI hl [.int (J (S k (18 + 5 * i))), .int (J (S k (21 + 5 * i))), .int (J (S k (22 + 5 * i)))] [.int (J (S k (20 + 5 * i)))] (c_X0_fades l X a B S (S k (18 + 5 * i)) (S k (21 + 5 * i)) (S k (22 + 5 * i)) (by omega) (by omega) (by omega)) ml_RX1_25 es_X0_fades ⟨Nat.le_of_ble_eq_true rfl, Nat.le_of_ble_eq_true rfl⟩ ⟨Nat.zero_le _, Nat.zero_le _⟩ (Nat.le_of_ble_eq_true rfl) rfl dX1_blackOn_16 (fun H locs hI => ?_)
  refine r_iload_n hC hl dX1_blackOn_19 1 rfl ?_
  refine r_cSi hC hI hl [.int (J (S k (20 + 5 * i))), .int (J (fdF (S k (18 + 5 * i)) (S k (21 + 5 * i)) (S k (22 + 5 * i)))), .int (J n)] [] (c_X1_faded l X a B S (S k (20 + 5 * i)) (fdF (S k (18 + 5 * i)) (S k (21 + 5 * i)) (S k (22 + 5 * i))) n (by omega) (by omega) (by omega)) ml_RX1_31 es_X1_faded ⟨Nat.le_of_ble_eq_true rfl, Nat.le_of_ble_eq_true rfl⟩ ⟨Nat.zero_le _, Nat.zero_le _⟩ (Nat.le_of_ble_eq_true rfl) rfl dX1_blackOn_20 (fun H locs hI => ?_)
  exact r_iret hC hr hlk hI (rfl) (rfl) dX1_blackOn_23

set_option maxHeartbeats 4000000 in
set_option maxRecDepth 100000 in
theorem c_X1_believedAs (l : Launch) (X : XT) (a : Nat → Nat) (B : Nat) (S : St) (k : Nat) (i : Nat) (q : Int) (u : Int) (n : Int) (w : Int) (hk : k < 3) (hi : i < 8) (hV : VP (S k) i) (hq : 0 ≤ q ∧ q ≤ 5) (hu : 0 ≤ u ∧ u ≤ 1) (hn : 0 ≤ n ∧ n ≤ 300) (hw : 0 ≤ w ∧ w ≤ 9) : CT l X a B 2 yX1_believedAs cX1_believedAs 6 (some .int) [.ref (a (25 + 8 * k + i)), .int (J q), .int (J u), .int (J n), .int (J w)] S (Qi X a B (blA (S k) i q u n w) (S)) := by
  refine CT.of (by decide +kernel) (Nat.le_of_ble_eq_true rfl) ?_
  intro p e s m below meth c ls hC hr hlk hI hl
  have hC : Cx p c cX1_believedAs 6 s m [.ref (a (25 + 8 * k + i)), .int (J q), .int (J u), .int (J n), .int (J w)].toArray RX1 X B := hC
  have hl : lv_has ls 6 [(0, .ref (a (25 + 8 * k + i))), (1, .int (J q)), (2, .int (J u)), (3, .int (J n)), (4, .int (J w))] := hl
  obtain ⟨h18, h19, h20, h21, h22⟩ := id hV
  have hfd := fd_rg hq hu h22
  have hfa := fad_rg h20 hfd hn
  refine r_aload_n hC hl dX1_believedAs_0 0 rfl ?_
  refine g_pg (k1 := k) (i := i) (v := .int (J (S k (20 + 5 * i)))) hC hI (by omega) (by omega) 2 (by decide) fl_RX1_16 rfl rfl dX1_believedAs_1 ?_
  refine r_iload_n hC hl dX1_believedAs_4 1 rfl ?_
  refine r_iload_n hC hl dX1_believedAs_5 2 rfl ?_
  refine r_aload_n hC hl dX1_believedAs_6 0 rfl ?_
  refine g_pg (k1 := k) (i := i) (v := .int (J (S k (22 + 5 * i)))) hC hI (by omega) (by omega) 4 (by decide) fl_RX1_22 rfl rfl dX1_believedAs_7 ?_
  refine r_cSi hC hI hl [.int (J q), .int (J u), .int (J (S k (22 + 5 * i)))] [.int (J (S k (20 + 5 * i)))] (c_X0_fades l X a B S q u (S k (22 + 5 * i)) (by omega) (by omega) (by omega)) ml_RX1_25 es_X0_fades ⟨Nat.le_of_ble_eq_true rfl, Nat.le_of_ble_eq_true rfl⟩ ⟨Nat.zero_le _, Nat.zero_le _⟩ (Nat.le_of_ble_eq_true rfl) rfl dX1_believedAs_10 (fun H locs hI => ?_)
  refine r_iload_n hC hl dX1_believedAs_13 3 rfl ?_
  refine r_cSi hC hI hl [.int (J (S k (20 + 5 * i))), .int (J (fdF q u (S k (22 + 5 * i)))), .int (J n)] [] (c_X1_faded l X a B S (S k (20 + 5 * i)) (fdF q u (S k (22 + 5 * i))) n (by omega) (by omega) (by omega)) ml_RX1_31 es_X1_faded ⟨Nat.le_of_ble_eq_true rfl, Nat.le_of_ble_eq_true rfl⟩ ⟨Nat.zero_le _, Nat.zero_le _⟩ (Nat.le_of_ble_eq_true rfl) rfl dX1_believedAs_14 (fun H locs hI => ?_)
  refine r_istore (lv1 := [(5, .int (J (fadedF (S k (20 + 5 * i)) (fdF q u (S k (22 + 5 * i))) n))), (0, .ref (a (25 + 8 * k + i))), (1, .int (J q)), (2, .int (J u)), (3, .int (J n)), (4, .int (J w))]) hC hl dX1_believedAs_17 (by decide) rfl (fun ls hl => ?_)
  refine r_iload_n hC hl dX1_believedAs_19 2 rfl ?_
  refine r_iload hC hl dX1_believedAs_20 0 rfl ?_
  refine r_aload_n hC hl dX1_believedAs_22 1 rfl ?_
  refine g_pg (k1 := k) (i := i) (v := .int (J (S k (22 + 5 * i)))) hC hI (by omega) (by omega) 4 (by decide) fl_RX1_22 rfl rfl dX1_believedAs_23 ?_
  refine r_iload hC hl dX1_believedAs_26 5 rfl ?_
  refine r_cSi hC hI hl [.int (J q), .int (J (fadedF (S k (20 + 5 * i)) (fdF q u (S k (22 + 5 * i))) n)), .int (J (S k (22 + 5 * i))), .int (J w)] [] (c_X0_believed l X a B S q (fadedF (S k (20 + 5 * i)) (fdF q u (S k (22 + 5 * i))) n) (S k (22 + 5 * i)) w (by omega) (by omega) (by omega) (by omega)) ml_RX1_38 es_X0_believed ⟨Nat.le_of_ble_eq_true rfl, Nat.le_of_ble_eq_true rfl⟩ ⟨Nat.zero_le _, Nat.zero_le _⟩ (Nat.le_of_ble_eq_true rfl) rfl dX1_believedAs_28 (fun H locs hI => ?_)
  exact r_iret hC hr hlk hI (rfl) (rfl) dX1_believedAs_31

set_option maxHeartbeats 4000000 in
set_option maxRecDepth 100000 in
theorem c_X1_believedOn (l : Launch) (X : XT) (a : Nat → Nat) (B : Nat) (S : St) (k : Nat) (i : Nat) (n : Int) (w : Int) (hk : k < 3) (hi : i < 8) (hV : VP (S k) i) (hn : 0 ≤ n ∧ n ≤ 300) (hw : 0 ≤ w ∧ w ≤ 9) : CT l X a B 3 yX1_believedOn cX1_believedOn 3 (some .int) [.ref (a (25 + 8 * k + i)), .int (J n), .int (J w)] S (Qi X a B (blP (S k) i n w) (S)) := by
  refine CT.of (by decide +kernel) (Nat.le_of_ble_eq_true rfl) ?_
  intro p e s m below meth c ls hC hr hlk hI hl
  have hC : Cx p c cX1_believedOn 3 s m [.ref (a (25 + 8 * k + i)), .int (J n), .int (J w)].toArray RX1 X B := hC
  have hl : lv_has ls 3 [(0, .ref (a (25 + 8 * k + i))), (1, .int (J n)), (2, .int (J w))] := hl
  obtain ⟨h18, h19, h20, h21, h22⟩ := id hV
  refine r_aload_n hC hl dX1_believedOn_0 0 rfl ?_
  refine r_aload_n hC hl dX1_believedOn_1 0 rfl ?_
  refine g_pg (k1 := k) (i := i) (v := .int (J (S k (18 + 5 * i)))) hC hI (by omega) (by omega) 0 (by decide) fl_RX1_7 rfl rfl dX1_believedOn_2 ?_
  refine r_aload_n hC hl dX1_believedOn_5 0 rfl ?_
  refine g_pg (k1 := k) (i := i) (v := .int (J (S k (21 + 5 * i)))) hC hI (by omega) (by omega) 3 (by decide) fl_RX1_19 rfl rfl dX1_believedOn_6 ?_
  refine r_iload_n hC hl dX1_believedOn_9 1 rfl ?_
  refine r_iload_n hC hl dX1_believedOn_10 2 rfl ?_
  refine r_cVi hC hI hl [.int (J (S k (18 + 5 * i))), .int (J (S k (21 + 5 * i))), .int (J n), .int (J w)] [] (c_X1_believedAs l X a B S k i (S k (18 + 5 * i)) (S k (21 + 5 * i)) n w (by omega) (by omega) hV (by omega) (by omega) (by omega) (by omega)) ml_RX1_34 ev_X1_believedAs (rc_pg (S := S) hC hI (by omega) (by omega)) ⟨Nat.le_of_ble_eq_true rfl, Nat.le_of_ble_eq_true rfl⟩ ⟨Nat.zero_le _, Nat.zero_le _⟩ (Nat.le_of_ble_eq_true rfl) rfl dX1_believedOn_11 (fun H locs hI => ?_)
  exact r_iret hC hr hlk hI (rfl) (rfl) dX1_believedOn_14
end
section
def cmpZ (x y : Int) : Int := if y < x then 1 else if x < y then -1 else 0
theorem JL_t {x : Int} (h : -9223372036854775808 ≤ x ∧ x ≤ 9223372036854775807) : (JL x).toInt = x := Int64.toInt_ofInt_of_le (by omega) (by omega)
section R10
variable {p : Program} {l : Launch} {e : Env} {R : Room} {s : State} {m : MethodId} {args : Array Value} {below : List Frame} {meth : Method} {c : Code} {H : Heap} {locs : List Loc} {cells slots : Nat} {Q : State → Prop}
variable {cc : ByteArray} {nL pc : Nat} {own : String} {ls : Array Slot} {rest st : List Value} {X : XT} {a : Nat → Nat} {B : Nat} {S S' : St} {lv : List (Nat × Value)}
theorem r_lcmp (hC : Cx p c cc nL s m args own X B) {x y : Int} (hx : -9223372036854775808 ≤ x ∧ x ≤ 9223372036854775807) (hy : -9223372036854775808 ≤ y ∧ y ≤ 9223372036854775807) (hdg : decode cc pc = .ok (.lcmp, 1)) (k : W p l e R s m args below meth c H locs cells slots Q (F0 m (pc + 1) ls (.int (J (cmpZ x y)) :: rest))) : W p l e R s m args below meth c H locs cells slots Q (F0 m pc ls (.long (JL y) :: .long (JL x) :: rest)) := by
  refine W.lcmp hC.1 hC.2.1 hdg ?_
  have e1 : lg_cmp (JL x) (JL y) = J (cmpZ x y) := by
    unfold lg_cmp cmpZ
    simp only [gt_iff_lt, Int64.lt_iff_toInt_lt, JL_t hx, JL_t hy, ← Int64.toInt_inj]
    (repeat' split) <;> first | rfl | omega
  rw [e1]
  exact k
theorem r_i2l (hC : Cx p c cc nL s m args own X B) {x : Int} (hx : -2147483648 ≤ x ∧ x ≤ 2147483647) (hdg : decode cc pc = .ok (.i2l, 1)) (k : W p l e R s m args below meth c H locs cells slots Q (F0 m (pc + 1) ls (.long (JL x) :: rest))) : W p l e R s m args below meth c H locs cells slots Q (F0 m pc ls (.int (J x) :: rest)) :=
  lv_i2l hC.1 hC.2.1 hdg (by
    apply Int64.toInt_inj.mp
    rw [Int32.toInt_toInt64, J_t hx, JL_t (by omega)]) k
theorem r_l2i (hC : Cx p c cc nL s m args own X B) {x : Int} (hdg : decode cc pc = .ok (.l2i, 1)) (k : W p l e R s m args below meth c H locs cells slots Q (F0 m (pc + 1) ls (.int (J x) :: rest))) : W p l e R s m args below meth c H locs cells slots Q (F0 m pc ls (.long (JL x) :: rest)) :=
  lv_l2i hC.1 hC.2.1 hdg (by unfold JL J; simp) k
theorem r_c_eq (hC : Cx p c cc nL s m args own X B) {x y off : Int} {tgt : Nat} (hdg : decode cc pc = .ok (.ifCond .eq off, 3)) (ht : (pc : Int) + off = (tgt : Int)) (kt : x = y → W p l e R s m args below meth c H locs cells slots Q (F0 m tgt ls rest)) (kf : x ≠ y → W p l e R s m args below meth c H locs cells slots Q (F0 m (pc + 3) ls rest)) : W p l e R s m args below meth c H locs cells slots Q (F0 m pc ls (.int (J (cmpZ x y)) :: rest)) := r_if_eq hC (by unfold cmpZ; (repeat' split) <;> omega) hdg ht (fun h => kt (by unfold cmpZ at h; (repeat' split at h) <;> omega)) (fun h => kf (by unfold cmpZ at h; (repeat' split at h) <;> omega))
theorem r_c_ne (hC : Cx p c cc nL s m args own X B) {x y off : Int} {tgt : Nat} (hdg : decode cc pc = .ok (.ifCond .ne off, 3)) (ht : (pc : Int) + off = (tgt : Int)) (kt : x ≠ y → W p l e R s m args below meth c H locs cells slots Q (F0 m tgt ls rest)) (kf : x = y → W p l e R s m args below meth c H locs cells slots Q (F0 m (pc + 3) ls rest)) : W p l e R s m args below meth c H locs cells slots Q (F0 m pc ls (.int (J (cmpZ x y)) :: rest)) := r_if_ne hC (by unfold cmpZ; (repeat' split) <;> omega) hdg ht (fun h => kt (by unfold cmpZ at h; (repeat' split at h) <;> omega)) (fun h => kf (by unfold cmpZ at h; (repeat' split at h) <;> omega))
theorem r_c_lt (hC : Cx p c cc nL s m args own X B) {x y off : Int} {tgt : Nat} (hdg : decode cc pc = .ok (.ifCond .lt off, 3)) (ht : (pc : Int) + off = (tgt : Int)) (kt : x < y → W p l e R s m args below meth c H locs cells slots Q (F0 m tgt ls rest)) (kf : y ≤ x → W p l e R s m args below meth c H locs cells slots Q (F0 m (pc + 3) ls rest)) : W p l e R s m args below meth c H locs cells slots Q (F0 m pc ls (.int (J (cmpZ x y)) :: rest)) := r_if_lt hC (by unfold cmpZ; (repeat' split) <;> omega) hdg ht (fun h => kt (by unfold cmpZ at h; (repeat' split at h) <;> omega)) (fun h => kf (by unfold cmpZ at h; (repeat' split at h) <;> omega))
theorem r_c_ge (hC : Cx p c cc nL s m args own X B) {x y off : Int} {tgt : Nat} (hdg : decode cc pc = .ok (.ifCond .ge off, 3)) (ht : (pc : Int) + off = (tgt : Int)) (kt : y ≤ x → W p l e R s m args below meth c H locs cells slots Q (F0 m tgt ls rest)) (kf : x < y → W p l e R s m args below meth c H locs cells slots Q (F0 m (pc + 3) ls rest)) : W p l e R s m args below meth c H locs cells slots Q (F0 m pc ls (.int (J (cmpZ x y)) :: rest)) := r_if_ge hC (by unfold cmpZ; (repeat' split) <;> omega) hdg ht (fun h => kt (by unfold cmpZ at h; (repeat' split at h) <;> omega)) (fun h => kf (by unfold cmpZ at h; (repeat' split at h) <;> omega))
theorem r_c_gt (hC : Cx p c cc nL s m args own X B) {x y off : Int} {tgt : Nat} (hdg : decode cc pc = .ok (.ifCond .gt off, 3)) (ht : (pc : Int) + off = (tgt : Int)) (kt : y < x → W p l e R s m args below meth c H locs cells slots Q (F0 m tgt ls rest)) (kf : x ≤ y → W p l e R s m args below meth c H locs cells slots Q (F0 m (pc + 3) ls rest)) : W p l e R s m args below meth c H locs cells slots Q (F0 m pc ls (.int (J (cmpZ x y)) :: rest)) := r_if_gt hC (by unfold cmpZ; (repeat' split) <;> omega) hdg ht (fun h => kt (by unfold cmpZ at h; (repeat' split at h) <;> omega)) (fun h => kf (by unfold cmpZ at h; (repeat' split at h) <;> omega))
theorem r_c_le (hC : Cx p c cc nL s m args own X B) {x y off : Int} {tgt : Nat} (hdg : decode cc pc = .ok (.ifCond .le off, 3)) (ht : (pc : Int) + off = (tgt : Int)) (kt : x ≤ y → W p l e R s m args below meth c H locs cells slots Q (F0 m tgt ls rest)) (kf : y < x → W p l e R s m args below meth c H locs cells slots Q (F0 m (pc + 3) ls rest)) : W p l e R s m args below meth c H locs cells slots Q (F0 m pc ls (.int (J (cmpZ x y)) :: rest)) := r_if_le hC (by unfold cmpZ; (repeat' split) <;> omega) hdg ht (fun h => kt (by unfold cmpZ at h; (repeat' split at h) <;> omega)) (fun h => kf (by unfold cmpZ at h; (repeat' split at h) <;> omega))
end R10

def sumF (f : Nat → Int) : Nat → Int
  | 0 => 0
  | n + 1 => sumF f n + f n
/-- the first of n places from i on at which f is so, else -1 -/
def fsF (f : Nat → Bool) : Nat → Nat → Int
  | 0, _ => -1
  | n + 1, i => if f i = true then (i : Int) else fsF f n (i + 1)
/-- the first place of n at which f is most (above -1), and that most -/
def beF (f : Nat → Int) : Nat → Int × Int
  | 0 => (-1, -1)
  | n + 1 => if (beF f n).2 < f n then ((n : Int), f n) else beF f n
theorem sum_rg {f : Nat → Int} {A : Int} : ∀ n : Nat, (∀ i, i < n → 0 ≤ f i ∧ f i ≤ A) → 0 ≤ sumF f n ∧ sumF f n ≤ A * n
  | 0, _ => by simp [sumF]
  | n + 1, h => by
    have h1 := sum_rg n (fun i hi => h i (by omega))
    have h2 := h n (by omega)
    have e : A * ((n + 1 : Nat) : Int) = A * (n : Int) + A := by rw [Int.natCast_add, Int.mul_add]; omega
    rw [e]
    show 0 ≤ sumF f n + f n ∧ sumF f n + f n ≤ _
    omega
theorem fs_t {f : Nat → Bool} {n i : Nat} (h : f i = true) : fsF f (n + 1) i = (i : Int) := if_pos h
theorem fs_f {f : Nat → Bool} {n i : Nat} (h : ¬ f i = true) : fsF f (n + 1) i = fsF f n (i + 1) := if_neg h
theorem be_t {f : Nat → Int} {n : Nat} (h : (beF f n).2 < f n) : beF f (n + 1) = ((n : Int), f n) := if_pos h
theorem be_f {f : Nat → Int} {n : Nat} (h : ¬ (beF f n).2 < f n) : beF f (n + 1) = beF f n := if_neg h
theorem sum_cg {f g : Nat → Int} : ∀ n : Nat, (∀ i, i < n → f i = g i) → sumF f n = sumF g n
  | 0, _ => rfl
  | n + 1, h => by
    show sumF f n + f n = sumF g n + g n
    rw [sum_cg n (fun i hi => h i (by omega)), h n (by omega)]

set_option maxHeartbeats 4000000 in
set_option maxRecDepth 100000 in
theorem c_X1_firstWhite (l : Launch) (X : XT) (a : Nat → Nat) (B : Nat) (S : St) (k : Nat) (i : Nat) (mo : Nat) (hk : k < 3) (hi : i < 8) (hV : VP (S k) i) (hmo : mo ≤ 300) : CT l X a B 3 yX1_firstWhite cX1_firstWhite 3 (some .int) [.ref (a (25 + 8 * k + i)), .int (J (mo : Int))] S (Qi X a B (fsF (fun j => decide (bkP (S k) i (j : Int) = 0)) (mo + 1) 0) (S)) := by
  refine CT.of (by decide +kernel) (Nat.le_of_ble_eq_true rfl) ?_
  intro p e s m below meth c ls hC hr hlk hI hl
  have hC : Cx p c cX1_firstWhite 3 s m [.ref (a (25 + 8 * k + i)), .int (J (mo : Int))].toArray RX1 X B := hC
  have hl : lv_has ls 3 [(0, .ref (a (25 + 8 * k + i))), (1, .int (J (mo : Int)))] := hl
  refine r_iconst hC dX1_firstWhite_0 ?_
  refine r_istore_n (lv1 := [(2, .int (J 0)), (0, .ref (a (25 + 8 * k + i))), (1, .int (J (mo : Int)))]) hC hl dX1_firstWhite_1 2 rfl (by decide) rfl (fun ls hl => ?_)
  have hL2 : ∀ (fu : Nat) (q : Nat) (x2 : Int), mo + 1 - q < fu → (x2 = (q : Int)) → (q ≤ mo + 1) → (fsF (fun j => decide (bkP (S k) i (j : Int) = 0)) (mo + 1 - q) q = fsF (fun j => decide (bkP (S k) i (j : Int) = 0)) (mo + 1) 0) → ∀ (H : Heap) (locs : List Loc) (ls : Array Slot), IS X a B s (S) H locs → lv_has ls 3 [(2, .int (J x2)), (0, .ref (a (25 + 8 * k + i))), (1, .int (J (mo : Int)))] → W p l e (rmD 3) s m [.ref (a (25 + 8 * k + i)), .int (J (mo : Int))].toArray below meth c H locs 0 0 (MQ below (Qi X a B (fsF (fun j => decide (bkP (S k) i (j : Int) = 0)) (mo + 1) 0) (S)) [.ref (a (25 + 8 * k + i)), .int (J (mo : Int))].toArray s 0 0 (fun q => B ≤ q)) (F0 m 2 ls []) := by
    intro fu
    induction fu with
    | zero => intro q x2 hm; exact absurd hm (Nat.not_lt_zero _)
    | succ fu ih2 =>
      intro q x2 hm e2 hq hf H locs ls hI hl
      subst e2
      refine r_iload_n hC hl dX1_firstWhite_2 0 rfl ?_
      refine r_iload_n hC hl dX1_firstWhite_3 2 rfl ?_
      refine r_icmp_gt (tgt := 23) hC (by omega) (by omega) dX1_firstWhite_4 (by decide) (fun c_1 => ?_) (fun c_1 => ?_)
      · skip
        refine r_iconst hC dX1_firstWhite_23 ?_
        exact r_iret hC hr hlk hI (by rw [← hf, show mo + 1 - q = 0 by omega]; rfl) (rfl) dX1_firstWhite_24
      · skip
        refine r_aload_n hC hl dX1_firstWhite_7 1 rfl ?_
        refine r_iload_n hC hl dX1_firstWhite_8 0 rfl ?_
        refine r_cVi hC hI hl [.int (J (q : Int))] [] (c_X1_blackOn l X a B S k i (q : Int) (by omega) (by omega) hV (by omega)) ml_RX1_41 ev_X1_blackOn (rc_pg (S := S) hC hI (by omega) (by omega)) ⟨Nat.le_of_ble_eq_true rfl, Nat.le_of_ble_eq_true rfl⟩ ⟨Nat.zero_le _, Nat.zero_le _⟩ (Nat.le_of_ble_eq_true rfl) rfl dX1_firstWhite_9 (fun H locs hI => ?_)
        have hbk := bk_rg (R := S k) hV (n := (q : Int)) (by omega)
        refine r_if_ne (tgt := 17) hC (by omega) dX1_firstWhite_12 (by decide) (fun c_2 => ?_) (fun c_2 => ?_)
        · skip
          refine r_iinc (lv1 := [(2, .int (J ((q : Int) + 1))), (0, .ref (a (25 + 8 * k + i))), (1, .int (J (mo : Int)))]) hC hl dX1_firstWhite_17 0 rfl (by decide) rfl (fun ls hl => ?_)
          refine r_goto (tgt := 2) hC dX1_firstWhite_20 (by decide) ?_
          have hf2 : fsF (fun j => decide (bkP (S k) i (j : Int) = 0)) (mo + 1 - (q + 1)) (q + 1) = fsF (fun j => decide (bkP (S k) i (j : Int) = 0)) (mo + 1) 0 := by
            rw [← hf, show mo + 1 - q = (mo + 1 - (q + 1)) + 1 by omega, fs_f (by simpa using c_2)]
          exact ih2 (q + 1) ((q : Int) + 1) (by omega) (by omega) (by omega) hf2 _ _ _ hI (lv_sub hl [0, 1, 2] rfl)
        · skip
          refine r_iload_n hC hl dX1_firstWhite_15 0 rfl ?_
          exact r_iret hC hr hlk hI (by rw [← hf, show mo + 1 - q = (mo - q) + 1 by omega, fs_t (by simpa using c_2)]) (rfl) dX1_firstWhite_16
  exact hL2 _ 0 0 (Nat.lt_succ_self _) (by omega) (by omega) rfl _ _ _ hI (lv_sub hl [0, 1, 2] rfl)

set_option maxHeartbeats 4000000 in
set_option maxRecDepth 100000 in
theorem c_X1_mostBelievedKind (l : Launch) (X : XT) (a : Nat → Nat) (B : Nat) (S : St) (k : Nat) (i : Nat) (n : Int) (w : Int) (hk : k < 3) (hi : i < 8) (hV : VP (S k) i) (hn : 0 ≤ n ∧ n ≤ 300) (hw : 0 ≤ w ∧ w ≤ 9) : CT l X a B 3 yX1_mostBelievedKind cX1_mostBelievedKind 7 (some .int) [.ref (a (25 + 8 * k + i)), .int (J n), .int (J w)] S (Qi X a B ((beF (fun j => blA (S k) i (j : Int) (S k (21 + 5 * i)) n w) 6).1) (S)) := by
  refine CT.of (by decide +kernel) (Nat.le_of_ble_eq_true rfl) ?_
  intro p e s m below meth c ls hC hr hlk hI hl
  have hC : Cx p c cX1_mostBelievedKind 7 s m [.ref (a (25 + 8 * k + i)), .int (J n), .int (J w)].toArray RX1 X B := hC
  have hl : lv_has ls 7 [(0, .ref (a (25 + 8 * k + i))), (1, .int (J n)), (2, .int (J w))] := hl
  obtain ⟨h18, h19, h20, h21, h22⟩ := id hV
  refine r_iconst hC dX1_mostBelievedKind_0 ?_
  refine r_istore_n (lv1 := [(3, .int (J 0)), (0, .ref (a (25 + 8 * k + i))), (1, .int (J n)), (2, .int (J w))]) hC hl dX1_mostBelievedKind_1 3 rfl (by decide) rfl (fun ls hl => ?_)
  refine r_iconst hC dX1_mostBelievedKind_2 ?_
  refine r_istore (lv1 := [(4, .int (J (-1))), (3, .int (J 0)), (0, .ref (a (25 + 8 * k + i))), (1, .int (J n)), (2, .int (J w))]) hC hl dX1_mostBelievedKind_3 (by decide) rfl (fun ls hl => ?_)
  refine r_iconst hC dX1_mostBelievedKind_5 ?_
  refine r_istore (lv1 := [(5, .int (J 0)), (4, .int (J (-1))), (3, .int (J 0)), (0, .ref (a (25 + 8 * k + i))), (1, .int (J n)), (2, .int (J w))]) hC hl dX1_mostBelievedKind_6 (by decide) rfl (fun ls hl => ?_)
  have hL8 : ∀ (fu : Nat) (q : Nat) (x5 x4 x3 : Int), 6 - q < fu → (x5 = (q : Int)) → (x4 = (beF (fun j => blA (S k) i (j : Int) (S k (21 + 5 * i)) n w) q).2) → (x3 = if q = 0 then 0 else (beF (fun j => blA (S k) i (j : Int) (S k (21 + 5 * i)) n w) q).1) → (q ≤ 6) → (-1 ≤ (beF (fun j => blA (S k) i (j : Int) (S k (21 + 5 * i)) n w) q).2 ∧ (beF (fun j => blA (S k) i (j : Int) (S k (21 + 5 * i)) n w) q).2 ≤ 300) → ∀ (H : Heap) (locs : List Loc) (ls : Array Slot), IS X a B s (S) H locs → lv_has ls 7 [(5, .int (J x5)), (4, .int (J x4)), (3, .int (J x3)), (0, .ref (a (25 + 8 * k + i))), (1, .int (J n)), (2, .int (J w))] → W p l e (rmD 3) s m [.ref (a (25 + 8 * k + i)), .int (J n), .int (J w)].toArray below meth c H locs 0 0 (MQ below (Qi X a B ((beF (fun j => blA (S k) i (j : Int) (S k (21 + 5 * i)) n w) 6).1) (S)) [.ref (a (25 + 8 * k + i)), .int (J n), .int (J w)].toArray s 0 0 (fun q => B ≤ q)) (F0 m 8 ls []) := by
    intro fu
    induction fu with
    | zero => intro q x5 x4 x3 hm; exact absurd hm (Nat.not_lt_zero _)
    | succ fu ih8 =>
      intro q x5 x4 x3 hm e5 e4 e3 hq hb H locs ls hI hl
      subst e5; subst e4; subst e3
      refine r_iload hC hl dX1_mostBelievedKind_8 0 rfl ?_
      refine r_bipush hC (by decide) dX1_mostBelievedKind_10 ?_
      refine r_icmp_ge (tgt := 49) hC (by omega) (by omega) dX1_mostBelievedKind_12 (by decide) (fun c_1 => ?_) (fun c_1 => ?_)
      · skip
        refine r_iload_n hC hl dX1_mostBelievedKind_49 2 rfl ?_
        exact r_iret hC hr hlk hI (by rw [if_neg (by omega), show q = 6 by omega]) (rfl) dX1_mostBelievedKind_50
      · skip
        refine r_aload_n hC hl dX1_mostBelievedKind_15 3 rfl ?_
        refine r_iload hC hl dX1_mostBelievedKind_16 0 rfl ?_
        refine r_aload_n hC hl dX1_mostBelievedKind_18 3 rfl ?_
        refine g_pg (k1 := k) (i := i) (v := .int (J (S k (21 + 5 * i)))) hC hI (by omega) (by omega) 3 (by decide) fl_RX1_19 rfl rfl dX1_mostBelievedKind_19 ?_
        refine r_iload_n hC hl dX1_mostBelievedKind_22 4 rfl ?_
        refine r_iload_n hC hl dX1_mostBelievedKind_23 5 rfl ?_
        refine r_cVi hC hI hl [.int (J (q : Int)), .int (J (S k (21 + 5 * i))), .int (J n), .int (J w)] [] (c_X1_believedAs l X a B S k i (q : Int) (S k (21 + 5 * i)) n w (by omega) (by omega) hV (by omega) (by omega) (by omega) (by omega)) ml_RX1_34 ev_X1_believedAs (rc_pg (S := S) hC hI (by omega) (by omega)) ⟨Nat.le_of_ble_eq_true rfl, Nat.le_of_ble_eq_true rfl⟩ ⟨Nat.zero_le _, Nat.zero_le _⟩ (Nat.le_of_ble_eq_true rfl) rfl dX1_mostBelievedKind_24 (fun H locs hI => ?_)
        have hbl := blA_rg (R := S k) hV (k := (q : Int)) (u := S k (21 + 5 * i)) (n := n) (w := w) (by omega) h21 hn hw
        refine r_istore (lv1 := [(6, .int (J (blA (S k) i (q : Int) (S k (21 + 5 * i)) n w))), (5, .int (J (q : Int))), (4, .int (J ((beF (fun j => blA (S k) i (j : Int) (S k (21 + 5 * i)) n w) q).2))), (3, .int (J (if q = 0 then 0 else (beF (fun j => blA (S k) i (j : Int) (S k (21 + 5 * i)) n w) q).1))), (0, .ref (a (25 + 8 * k + i))), (1, .int (J n)), (2, .int (J w))]) hC hl dX1_mostBelievedKind_27 (by decide) rfl (fun ls hl => ?_)
        refine r_iload hC hl dX1_mostBelievedKind_29 0 rfl ?_
        refine r_iload hC hl dX1_mostBelievedKind_31 2 rfl ?_
        refine r_icmp_le (tgt := 43) hC (by omega) (by omega) dX1_mostBelievedKind_33 (by decide) (fun c_2 => ?_) (fun c_2 => ?_)
        · skip
          refine r_iinc (lv1 := [(5, .int (J ((q : Int) + 1))), (6, .int (J (blA (S k) i (q : Int) (S k (21 + 5 * i)) n w))), (4, .int (J ((beF (fun j => blA (S k) i (j : Int) (S k (21 + 5 * i)) n w) q).2))), (3, .int (J (if q = 0 then 0 else (beF (fun j => blA (S k) i (j : Int) (S k (21 + 5 * i)) n w) q).1))), (0, .ref (a (25 + 8 * k + i))), (1, .int (J n)), (2, .int (J w))]) hC hl dX1_mostBelievedKind_43 1 rfl (by decide) rfl (fun ls hl => ?_)
          refine r_goto (tgt := 8) hC dX1_mostBelievedKind_46 (by decide) ?_
          have hbq : beF (fun j => blA (S k) i (j : Int) (S k (21 + 5 * i)) n w) (q + 1) = beF (fun j => blA (S k) i (j : Int) (S k (21 + 5 * i)) n w) q := be_f (Int.not_lt.mpr c_2)
          have hq0 : q ≠ 0 := by
            intro z
            rw [z] at c_2 hbl
            have c_3 : _ ≤ (-1 : Int) := c_2
            omega
          exact ih8 (q + 1) ((q : Int) + 1) ((beF (fun j => blA (S k) i (j : Int) (S k (21 + 5 * i)) n w) q).2) (if q = 0 then 0 else (beF (fun j => blA (S k) i (j : Int) (S k (21 + 5 * i)) n w) q).1) (by omega) (by omega) (by rw [hbq]) (by rw [hbq, if_neg hq0, if_neg (Nat.succ_ne_zero q)]) (by omega) (by rw [hbq]; exact hb) _ _ _ hI (lv_sub hl [0, 2, 3, 4, 5, 6] rfl)
        · skip
          refine r_iload hC hl dX1_mostBelievedKind_36 1 rfl ?_
          refine r_istore_n (lv1 := [(3, .int (J (q : Int))), (6, .int (J (blA (S k) i (q : Int) (S k (21 + 5 * i)) n w))), (5, .int (J (q : Int))), (4, .int (J ((beF (fun j => blA (S k) i (j : Int) (S k (21 + 5 * i)) n w) q).2))), (0, .ref (a (25 + 8 * k + i))), (1, .int (J n)), (2, .int (J w))]) hC hl dX1_mostBelievedKind_38 3 rfl (by decide) rfl (fun ls hl => ?_)
          refine r_iload hC hl dX1_mostBelievedKind_39 1 rfl ?_
          refine r_istore (lv1 := [(4, .int (J (blA (S k) i (q : Int) (S k (21 + 5 * i)) n w))), (3, .int (J (q : Int))), (6, .int (J (blA (S k) i (q : Int) (S k (21 + 5 * i)) n w))), (5, .int (J (q : Int))), (0, .ref (a (25 + 8 * k + i))), (1, .int (J n)), (2, .int (J w))]) hC hl dX1_mostBelievedKind_41 (by decide) rfl (fun ls hl => ?_)
          refine r_iinc (lv1 := [(5, .int (J ((q : Int) + 1))), (4, .int (J (blA (S k) i (q : Int) (S k (21 + 5 * i)) n w))), (3, .int (J (q : Int))), (6, .int (J (blA (S k) i (q : Int) (S k (21 + 5 * i)) n w))), (0, .ref (a (25 + 8 * k + i))), (1, .int (J n)), (2, .int (J w))]) hC hl dX1_mostBelievedKind_43 3 rfl (by decide) rfl (fun ls hl => ?_)
          refine r_goto (tgt := 8) hC dX1_mostBelievedKind_46 (by decide) ?_
          have hbq : beF (fun j => blA (S k) i (j : Int) (S k (21 + 5 * i)) n w) (q + 1) = ((q : Int), (fun j => blA (S k) i (j : Int) (S k (21 + 5 * i)) n w) q) := be_t c_2
          exact ih8 (q + 1) ((q : Int) + 1) (blA (S k) i (q : Int) (S k (21 + 5 * i)) n w) (q : Int) (by omega) (by omega) (by rw [hbq]) (by rw [hbq, if_neg (Nat.succ_ne_zero q)]) (by omega) (by rw [hbq]; exact ⟨Int.le_trans (by decide) hbl.1, hbl.2⟩) _ _ _ hI (lv_sub hl [0, 1, 2, 4, 5, 6] rfl)
  exact hL8 _ 0 0 (-1) 0 (Nat.lt_succ_self _) (by omega) rfl rfl (by omega) (by show (-1 : Int) ≤ -1 ∧ (-1 : Int) ≤ 300; omega) _ _ _ hI (lv_sub hl [0, 1, 2, 3, 4, 5] rfl)
end
