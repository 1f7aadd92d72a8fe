-- ===== PART A: goes FIRST, ahead of the names: the tables' words, and 'selects' of the private methods out of them =====
/-- a private method of a class that the tables say can be made, by its rows of tables_1 -/
def lw_okq (q : MethodName × Nat) : Prop := (q.1.cls ≠ "java/lang/invoke/MethodHandle" ∧ q.1.cls ≠ "java/lang/invoke/VarHandle") ∧ Cond.instantiable q.1.cls q.2 ∈ tables_1 ∧ Cond.privateMethod q.1 ∈ tables_1 ∧ Cond.instanceMethod q.1 ∈ tables_1
theorem lw_p0 : lw_okq (⟨"TrustRows", "noteClash", "(IJ)V"⟩, 8) := ⟨⟨by decide +kernel, by decide +kernel⟩, List.mem_of_getElem? (i := 11) (by decide +kernel), List.mem_of_getElem? (i := 224) (by decide +kernel), List.mem_of_getElem? (i := 225) (by decide +kernel)⟩
theorem lw_p1 : lw_okq (⟨"TrustRows$Rules", "rankFor", "(III)I"⟩, 5) := ⟨⟨by decide +kernel, by decide +kernel⟩, List.mem_of_getElem? (i := 103) (by decide +kernel), List.mem_of_getElem? (i := 284) (by decide +kernel), List.mem_of_getElem? (i := 285) (by decide +kernel)⟩
theorem lw_p2 : lw_okq (⟨"TrustRows$Rules", "has", "(I)Z"⟩, 5) := ⟨⟨by decide +kernel, by decide +kernel⟩, List.mem_of_getElem? (i := 103) (by decide +kernel), List.mem_of_getElem? (i := 288) (by decide +kernel), List.mem_of_getElem? (i := 289) (by decide +kernel)⟩
theorem lw_p3 : lw_okq (⟨"TrustRows$Results", "counts", "(IJIJ)Z"⟩, 7) := ⟨⟨by decide +kernel, by decide +kernel⟩, List.mem_of_getElem? (i := 56) (by decide +kernel), List.mem_of_getElem? (i := 304) (by decide +kernel), List.mem_of_getElem? (i := 305) (by decide +kernel)⟩
theorem lw_p4 : lw_okq (⟨"TrustRowsModel", "isWriter", "(I)Z"⟩, 28) := ⟨⟨by decide +kernel, by decide +kernel⟩, List.mem_of_getElem? (i := 371) (by decide +kernel), List.mem_of_getElem? (i := 473) (by decide +kernel), List.mem_of_getElem? (i := 474) (by decide +kernel)⟩
theorem lw_p5 : lw_okq (⟨"TrustRowsModel", "fits", "(IJJJJ)Z"⟩, 28) := ⟨⟨by decide +kernel, by decide +kernel⟩, List.mem_of_getElem? (i := 371) (by decide +kernel), List.mem_of_getElem? (i := 493) (by decide +kernel), List.mem_of_getElem? (i := 494) (by decide +kernel)⟩
theorem lw_p6 : lw_okq (⟨"TrustRowsModel", "isThere", "(IJJ)Z"⟩, 28) := ⟨⟨by decide +kernel, by decide +kernel⟩, List.mem_of_getElem? (i := 371) (by decide +kernel), List.mem_of_getElem? (i := 497) (by decide +kernel), List.mem_of_getElem? (i := 498) (by decide +kernel)⟩
theorem lw_p7 : lw_okq (⟨"TrustRowsModel", "against", "(I)I"⟩, 28) := ⟨⟨by decide +kernel, by decide +kernel⟩, List.mem_of_getElem? (i := 371) (by decide +kernel), List.mem_of_getElem? (i := 501) (by decide +kernel), List.mem_of_getElem? (i := 502) (by decide +kernel)⟩
theorem lw_p8 : lw_okq (⟨"TrustRowsModel", "isClashing", "(J)Z"⟩, 28) := ⟨⟨by decide +kernel, by decide +kernel⟩, List.mem_of_getElem? (i := 371) (by decide +kernel), List.mem_of_getElem? (i := 505) (by decide +kernel), List.mem_of_getElem? (i := 506) (by decide +kernel)⟩
theorem lw_p9 : lw_okq (⟨"TrustRowsModel", "ruleOf", "(II)I"⟩, 28) := ⟨⟨by decide +kernel, by decide +kernel⟩, List.mem_of_getElem? (i := 371) (by decide +kernel), List.mem_of_getElem? (i := 528) (by decide +kernel), List.mem_of_getElem? (i := 529) (by decide +kernel)⟩
theorem lw_p10 : lw_okq (⟨"TrustRowsModel", "worth", "(III)I"⟩, 28) := ⟨⟨by decide +kernel, by decide +kernel⟩, List.mem_of_getElem? (i := 371) (by decide +kernel), List.mem_of_getElem? (i := 532) (by decide +kernel), List.mem_of_getElem? (i := 533) (by decide +kernel)⟩
theorem lw_p11 : lw_okq (⟨"TrustRowsModel", "ownOf", "(JJ)I"⟩, 28) := ⟨⟨by decide +kernel, by decide +kernel⟩, List.mem_of_getElem? (i := 371) (by decide +kernel), List.mem_of_getElem? (i := 544) (by decide +kernel), List.mem_of_getElem? (i := 545) (by decide +kernel)⟩
theorem lw_p12 : lw_okq (⟨"TrustRowsModel", "tell", "(IIII)V"⟩, 28) := ⟨⟨by decide +kernel, by decide +kernel⟩, List.mem_of_getElem? (i := 371) (by decide +kernel), List.mem_of_getElem? (i := 548) (by decide +kernel), List.mem_of_getElem? (i := 549) (by decide +kernel)⟩
theorem lw_p13 : lw_okq (⟨"TrustRowsModel", "levelFor", "(II)I"⟩, 28) := ⟨⟨by decide +kernel, by decide +kernel⟩, List.mem_of_getElem? (i := 371) (by decide +kernel), List.mem_of_getElem? (i := 552) (by decide +kernel), List.mem_of_getElem? (i := 553) (by decide +kernel)⟩
theorem lw_p14 : lw_okq (⟨"TrustRowsModel", "many", "(JIJ)I"⟩, 28) := ⟨⟨by decide +kernel, by decide +kernel⟩, List.mem_of_getElem? (i := 371) (by decide +kernel), List.mem_of_getElem? (i := 556) (by decide +kernel), List.mem_of_getElem? (i := 557) (by decide +kernel)⟩
theorem lw_p15 : lw_okq (⟨"TrustRowsModel", "counts", "(IJIJ)Z"⟩, 28) := ⟨⟨by decide +kernel, by decide +kernel⟩, List.mem_of_getElem? (i := 371) (by decide +kernel), List.mem_of_getElem? (i := 560) (by decide +kernel), List.mem_of_getElem? (i := 561) (by decide +kernel)⟩
def lw_privs_1 : List (MethodName × Nat) := [(⟨"TrustRows", "noteClash", "(IJ)V"⟩, 8), (⟨"TrustRows$Rules", "rankFor", "(III)I"⟩, 5), (⟨"TrustRows$Rules", "has", "(I)Z"⟩, 5), (⟨"TrustRows$Results", "counts", "(IJIJ)Z"⟩, 7), (⟨"TrustRowsModel", "isWriter", "(I)Z"⟩, 28), (⟨"TrustRowsModel", "fits", "(IJJJJ)Z"⟩, 28), (⟨"TrustRowsModel", "isThere", "(IJJ)Z"⟩, 28), (⟨"TrustRowsModel", "against", "(I)I"⟩, 28), (⟨"TrustRowsModel", "isClashing", "(J)Z"⟩, 28), (⟨"TrustRowsModel", "ruleOf", "(II)I"⟩, 28), (⟨"TrustRowsModel", "worth", "(III)I"⟩, 28), (⟨"TrustRowsModel", "ownOf", "(JJ)I"⟩, 28), (⟨"TrustRowsModel", "tell", "(IIII)V"⟩, 28), (⟨"TrustRowsModel", "levelFor", "(II)I"⟩, 28), (⟨"TrustRowsModel", "many", "(JIJ)I"⟩, 28), (⟨"TrustRowsModel", "counts", "(IJIJ)Z"⟩, 28)]
theorem lw_r1 : ∀ q ∈ lw_privs_1, lw_okq q := List.forall_mem_cons.mpr ⟨lw_p0, List.forall_mem_cons.mpr ⟨lw_p1, List.forall_mem_cons.mpr ⟨lw_p2, List.forall_mem_cons.mpr ⟨lw_p3, List.forall_mem_cons.mpr ⟨lw_p4, List.forall_mem_cons.mpr ⟨lw_p5, List.forall_mem_cons.mpr ⟨lw_p6, List.forall_mem_cons.mpr ⟨lw_p7, List.forall_mem_cons.mpr ⟨lw_p8, List.forall_mem_cons.mpr ⟨lw_p9, List.forall_mem_cons.mpr ⟨lw_p10, List.forall_mem_cons.mpr ⟨lw_p11, List.forall_mem_cons.mpr ⟨lw_p12, List.forall_mem_cons.mpr ⟨lw_p13, List.forall_mem_cons.mpr ⟨lw_p14, List.forall_mem_cons.mpr ⟨lw_p15, fun _ h => absurd h List.not_mem_nil⟩⟩⟩⟩⟩⟩⟩⟩⟩⟩⟩⟩⟩⟩⟩⟩
theorem lw_p16 : lw_okq (⟨"TrustRowsModel", "agreed", "(JIJ)I"⟩, 28) := ⟨⟨by decide +kernel, by decide +kernel⟩, List.mem_of_getElem? (i := 371) (by decide +kernel), List.mem_of_getElem? (i := 564) (by decide +kernel), List.mem_of_getElem? (i := 565) (by decide +kernel)⟩
def lw_privs_2 : List (MethodName × Nat) := [(⟨"TrustRowsModel", "agreed", "(JIJ)I"⟩, 28)]
theorem lw_r2 : ∀ q ∈ lw_privs_2, lw_okq q := List.forall_mem_cons.mpr ⟨lw_p16, fun _ h => absurd h List.not_mem_nil⟩
def lw_privs : List (MethodName × Nat) := lw_privs_1 ++ (lw_privs_2)
def lw_tbl : List Cond := k2_sels lw_privs ++ tables_1
theorem lw_privs_ok : ∀ q ∈ lw_privs, lw_okq q := by
  show ∀ q ∈ lw_privs_1 ++ (lw_privs_2), lw_okq q
  exact List.forall_mem_append.mpr ⟨lw_r1, lw_r2⟩
def RX0 : String := "TrustRows$AuditRows"
def RX1 : String := "TrustRows$Clashes"
def RX2 : String := "TrustRows$Results"
def RX3 : String := "TrustRows$Rules"
def RX4 : String := "TrustRows$Writers"
def RX5 : String := "TrustRows"
def RX6 : String := "TrustRowsModel"
def RJI : String := "java/lang/Integer"
def RJM : String := "java/lang/Math"
def RL : String := "TrustRowsLaw"
def TX0 : u_T := fun k => match k with
  | 0 => ("TrustRows$AuditRows", "cells", "[I", true)
  | _ => ("TrustRows$AuditRows", "count", "I", false)
def tyX0 : Nat → FieldType := fun k => match k with
  | 0 => .array .int
  | _ => .int
theorem nmX0 : ∀ a, a < 2 → ∀ b, b < 2 → a ≠ b → (TX0 a).2.1 ≠ (TX0 b).2.1 := by decide +kernel
theorem tyX0_ok : ∀ k, k < 2 → parseFieldDescriptor (TX0 k).2.2.1 = some (tyX0 k) := by decide +kernel
def TX1 : u_T := fun k => match k with
  | 0 => ("TrustRows$Clashes", "actions", "[J", true)
  | 1 => ("TrustRows$Clashes", "lessers", "[I", true)
  | 2 => ("TrustRows$Clashes", "laters", "[I", true)
  | _ => ("TrustRows$Clashes", "count", "I", false)
def tyX1 : Nat → FieldType := fun k => match k with
  | 0 => .array .long
  | 1 => .array .int
  | 2 => .array .int
  | _ => .int
theorem nmX1 : ∀ a, a < 4 → ∀ b, b < 4 → a ≠ b → (TX1 a).2.1 ≠ (TX1 b).2.1 := by decide +kernel
theorem tyX1_ok : ∀ k, k < 4 → parseFieldDescriptor (TX1 k).2.2.1 = some (tyX1 k) := by decide +kernel
def TX2 : u_T := fun k => match k with
  | 0 => ("TrustRows$Results", "writerNumbers", "[I", true)
  | 1 => ("TrustRows$Results", "levels", "[I", true)
  | 2 => ("TrustRows$Results", "actions", "[J", true)
  | 3 => ("TrustRows$Results", "digests", "[J", true)
  | 4 => ("TrustRows$Results", "times", "[J", true)
  | 5 => ("TrustRows$Results", "dropped", "[Z", true)
  | _ => ("TrustRows$Results", "count", "I", false)
def tyX2 : Nat → FieldType := fun k => match k with
  | 0 => .array .int
  | 1 => .array .int
  | 2 => .array .long
  | 3 => .array .long
  | 4 => .array .long
  | 5 => .array .boolean
  | _ => .int
theorem nmX2 : ∀ a, a < 7 → ∀ b, b < 7 → a ≠ b → (TX2 a).2.1 ≠ (TX2 b).2.1 := by decide +kernel
theorem tyX2_ok : ∀ k, k < 7 → parseFieldDescriptor (TX2 k).2.2.1 = some (tyX2 k) := by decide +kernel
def TX3 : u_T := fun k => match k with
  | 0 => ("TrustRows$Rules", "targets", "[I", true)
  | 1 => ("TrustRows$Rules", "branches", "[I", true)
  | 2 => ("TrustRows$Rules", "levels", "[I", true)
  | 3 => ("TrustRows$Rules", "wanteds", "[I", true)
  | _ => ("TrustRows$Rules", "count", "I", false)
def tyX3 : Nat → FieldType := fun k => match k with
  | 0 => .array .int
  | 1 => .array .int
  | 2 => .array .int
  | 3 => .array .int
  | _ => .int
theorem nmX3 : ∀ a, a < 5 → ∀ b, b < 5 → a ≠ b → (TX3 a).2.1 ≠ (TX3 b).2.1 := by decide +kernel
theorem tyX3_ok : ∀ k, k < 5 → parseFieldDescriptor (TX3 k).2.2.1 = some (tyX3 k) := by decide +kernel
def TX4 : u_T := fun k => match k with
  | 0 => ("TrustRows$Writers", "levels", "[I", true)
  | 1 => ("TrustRows$Writers", "barred", "[Z", true)
  | 2 => ("TrustRows$Writers", "keyCounts", "[I", true)
  | 3 => ("TrustRows$Writers", "keys", "[J", true)
  | 4 => ("TrustRows$Writers", "froms", "[J", true)
  | 5 => ("TrustRows$Writers", "untils", "[J", true)
  | _ => ("TrustRows$Writers", "count", "I", false)
def tyX4 : Nat → FieldType := fun k => match k with
  | 0 => .array .int
  | 1 => .array .boolean
  | 2 => .array .int
  | 3 => .array .long
  | 4 => .array .long
  | 5 => .array .long
  | _ => .int
theorem nmX4 : ∀ a, a < 7 → ∀ b, b < 7 → a ≠ b → (TX4 a).2.1 ≠ (TX4 b).2.1 := by decide +kernel
theorem tyX4_ok : ∀ k, k < 7 → parseFieldDescriptor (TX4 k).2.2.1 = some (tyX4 k) := by decide +kernel
def TX5 : u_T := fun k => match k with
  | 0 => ("TrustRows", "quorum", "I", true)
  | 1 => ("TrustRows", "writers", "LTrustRows$Writers;", true)
  | 2 => ("TrustRows", "results", "LTrustRows$Results;", true)
  | 3 => ("TrustRows", "clashes", "LTrustRows$Clashes;", true)
  | 4 => ("TrustRows", "rules", "LTrustRows$Rules;", true)
  | 5 => ("TrustRows", "auditRows", "LTrustRows$AuditRows;", true)
  | 6 => ("TrustRows", "ownCounts", "Z", false)
  | _ => ("TrustRows", "latestTaken", "J", false)
def tyX5 : Nat → FieldType := fun k => match k with
  | 0 => .int
  | 1 => .object "TrustRows$Writers"
  | 2 => .object "TrustRows$Results"
  | 3 => .object "TrustRows$Clashes"
  | 4 => .object "TrustRows$Rules"
  | 5 => .object "TrustRows$AuditRows"
  | 6 => .boolean
  | _ => .long
theorem nmX5 : ∀ a, a < 8 → ∀ b, b < 8 → a ≠ b → (TX5 a).2.1 ≠ (TX5 b).2.1 := by decide +kernel
theorem tyX5_ok : ∀ k, k < 8 → parseFieldDescriptor (TX5 k).2.2.1 = some (tyX5 k) := by decide +kernel
def TX6 : u_T := fun k => match k with
  | 0 => ("TrustRowsModel", "thrown", "I", false)
  | 1 => ("TrustRowsModel", "quorum", "I", true)
  | 2 => ("TrustRowsModel", "ownCounts", "Z", false)
  | 3 => ("TrustRowsModel", "writers", "I", false)
  | 4 => ("TrustRowsModel", "levels", "[I", true)
  | 5 => ("TrustRowsModel", "barred", "[Z", true)
  | 6 => ("TrustRowsModel", "keyMany", "[I", true)
  | 7 => ("TrustRowsModel", "keys", "[J", true)
  | 8 => ("TrustRowsModel", "begins", "[J", true)
  | 9 => ("TrustRowsModel", "ends", "[J", true)
  | 10 => ("TrustRowsModel", "results", "I", false)
  | 11 => ("TrustRowsModel", "by", "[I", true)
  | 12 => ("TrustRowsModel", "actions", "[J", true)
  | 13 => ("TrustRowsModel", "digests", "[J", true)
  | 14 => ("TrustRowsModel", "times", "[J", true)
  | 15 => ("TrustRowsModel", "dropped", "[Z", true)
  | 16 => ("TrustRowsModel", "clashes", "I", false)
  | 17 => ("TrustRowsModel", "clashing", "[J", true)
  | 18 => ("TrustRowsModel", "lesser", "[I", true)
  | 19 => ("TrustRowsModel", "later", "[I", true)
  | 20 => ("TrustRowsModel", "rules", "I", false)
  | 21 => ("TrustRowsModel", "targets", "[I", true)
  | 22 => ("TrustRowsModel", "branches", "[I", true)
  | 23 => ("TrustRowsModel", "least", "[I", true)
  | 24 => ("TrustRowsModel", "wants", "[I", true)
  | 25 => ("TrustRowsModel", "latest", "J", false)
  | 26 => ("TrustRowsModel", "rows", "I", false)
  | _ => ("TrustRowsModel", "audits", "[I", true)
def tyX6 : Nat → FieldType := fun k => match k with
  | 0 => .int
  | 1 => .int
  | 2 => .boolean
  | 3 => .int
  | 4 => .array .int
  | 5 => .array .boolean
  | 6 => .array .int
  | 7 => .array .long
  | 8 => .array .long
  | 9 => .array .long
  | 10 => .int
  | 11 => .array .int
  | 12 => .array .long
  | 13 => .array .long
  | 14 => .array .long
  | 15 => .array .boolean
  | 16 => .int
  | 17 => .array .long
  | 18 => .array .int
  | 19 => .array .int
  | 20 => .int
  | 21 => .array .int
  | 22 => .array .int
  | 23 => .array .int
  | 24 => .array .int
  | 25 => .long
  | 26 => .int
  | _ => .array .int
theorem nmX6 : ∀ a, a < 28 → ∀ b, b < 28 → a ≠ b → (TX6 a).2.1 ≠ (TX6 b).2.1 := by decide +kernel
theorem tyX6_ok : ∀ k, k < 28 → parseFieldDescriptor (TX6 k).2.2.1 = some (tyX6 k) := by decide +kernel
abbrev cX5_init : ByteArray := prog_1_method_1_code
def yX5_init : MethodName := ⟨RX5, "<init>", "(I)V"⟩
abbrev cJM_min : ByteArray := prog_10_method_69_code
def yJM_min : MethodName := ⟨RJM, "min", "(II)I"⟩
abbrev cJM_max : ByteArray := prog_10_method_65_code
def yJM_max : MethodName := ⟨RJM, "max", "(II)I"⟩
abbrev cX4_init : ByteArray := prog_6_method_1_code
def yX4_init : MethodName := ⟨RX4, "<init>", "()V"⟩
abbrev cX2_init : ByteArray := prog_4_method_1_code
def yX2_init : MethodName := ⟨RX2, "<init>", "()V"⟩
abbrev cX1_init : ByteArray := prog_3_method_1_code
def yX1_init : MethodName := ⟨RX1, "<init>", "()V"⟩
abbrev cX3_init : ByteArray := prog_5_method_1_code
def yX3_init : MethodName := ⟨RX3, "<init>", "()V"⟩
abbrev cX0_init : ByteArray := prog_2_method_1_code
def yX0_init : MethodName := ⟨RX0, "<init>", "()V"⟩
abbrev cX5_writer : ByteArray := prog_1_method_2_code
def yX5_writer : MethodName := ⟨RX5, "writer", "(I)I"⟩
abbrev cX4_add : ByteArray := prog_6_method_2_code
def yX4_add : MethodName := ⟨RX4, "add", "(I)I"⟩
abbrev cX5_isLevel : ByteArray := prog_1_method_19_code
def yX5_isLevel : MethodName := ⟨RX5, "isLevel", "(I)Z"⟩
abbrev cX5_key : ByteArray := prog_1_method_3_code
def yX5_key : MethodName := ⟨RX5, "key", "(IJJJ)I"⟩
abbrev cX4_addKey : ByteArray := prog_6_method_7_code
def yX4_addKey : MethodName := ⟨RX4, "addKey", "(IJJJ)I"⟩
abbrev cX4_mayWrite : ByteArray := prog_6_method_4_code
def yX4_mayWrite : MethodName := ⟨RX4, "mayWrite", "(I)Z"⟩
abbrev cX4_has : ByteArray := prog_6_method_3_code
def yX4_has : MethodName := ⟨RX4, "has", "(I)Z"⟩
abbrev cX5_sum : ByteArray := prog_1_method_4_code
def yX5_sum : MethodName := ⟨RX5, "sum", "(JJJ)J"⟩
abbrev cX5_sumUnder : ByteArray := prog_1_method_20_code
def yX5_sumUnder : MethodName := ⟨RX5, "sumUnder", "(JJJ)J"⟩
abbrev cX5_mixWord : ByteArray := prog_1_method_21_code
def yX5_mixWord : MethodName := ⟨RX5, "mixWord", "(JJ)J"⟩
abbrev cX5_result : ByteArray := prog_1_method_5_code
def yX5_result : MethodName := ⟨RX5, "result", "(IJJJJJ)I"⟩
abbrev cX4_fits : ByteArray := prog_6_method_8_code
def yX4_fits : MethodName := ⟨RX4, "fits", "(IJJJJ)Z"⟩
abbrev cX2_hasLike : ByteArray := prog_4_method_5_code
def yX2_hasLike : MethodName := ⟨RX2, "hasLike", "(IJJ)Z"⟩
abbrev cX4_levelOf : ByteArray := prog_6_method_5_code
def yX4_levelOf : MethodName := ⟨RX4, "levelOf", "(I)I"⟩
abbrev cX2_add : ByteArray := prog_4_method_2_code
def yX2_add : MethodName := ⟨RX2, "add", "(IIJJJ)I"⟩
abbrev cX5_noteClash : ByteArray := prog_1_method_16_code
def yX5_noteClash : MethodName := ⟨RX5, "noteClash", "(IJ)V"⟩
abbrev cX1_has : ByteArray := prog_3_method_3_code
def yX1_has : MethodName := ⟨RX1, "has", "(J)Z"⟩
abbrev cX2_firstAgainst : ByteArray := prog_4_method_7_code
def yX2_firstAgainst : MethodName := ⟨RX2, "firstAgainst", "(I)I"⟩
abbrev cX2_isStanding : ByteArray := prog_4_method_3_code
def yX2_isStanding : MethodName := ⟨RX2, "isStanding", "(I)Z"⟩
abbrev cX1_add : ByteArray := prog_3_method_2_code
def yX1_add : MethodName := ⟨RX1, "add", "(JII)V"⟩
abbrev cX5_stands : ByteArray := prog_1_method_6_code
def yX5_stands : MethodName := ⟨RX5, "stands", "(I)Z"⟩
abbrev cX5_bar : ByteArray := prog_1_method_7_code
def yX5_bar : MethodName := ⟨RX5, "bar", "(I)I"⟩
abbrev cX4_shutOut : ByteArray := prog_6_method_6_code
def yX4_shutOut : MethodName := ⟨RX4, "shutOut", "(I)V"⟩
abbrev cX2_dropAllOf : ByteArray := prog_4_method_6_code
def yX2_dropAllOf : MethodName := ⟨RX2, "dropAllOf", "(I)I"⟩
abbrev cX5_rule : ByteArray := prog_1_method_8_code
def yX5_rule : MethodName := ⟨RX5, "rule", "(IIII)I"⟩
abbrev cX3_add : ByteArray := prog_5_method_2_code
def yX3_add : MethodName := ⟨RX3, "add", "(IIII)I"⟩
abbrev cX5_isPlaceOrAny : ByteArray := prog_1_method_18_code
def yX5_isPlaceOrAny : MethodName := ⟨RX5, "isPlaceOrAny", "(I)Z"⟩
abbrev cX5_isPlace : ByteArray := prog_1_method_17_code
def yX5_isPlace : MethodName := ⟨RX5, "isPlace", "(I)Z"⟩
abbrev cX5_ruleFor : ByteArray := prog_1_method_9_code
def yX5_ruleFor : MethodName := ⟨RX5, "ruleFor", "(II)I"⟩
abbrev cX3_best : ByteArray := prog_5_method_3_code
def yX3_best : MethodName := ⟨RX3, "best", "(II)I"⟩
abbrev cX3_rankFor : ByteArray := prog_5_method_7_code
def yX3_rankFor : MethodName := ⟨RX3, "rankFor", "(III)I"⟩
abbrev cX3_has : ByteArray := prog_5_method_6_code
def yX3_has : MethodName := ⟨RX3, "has", "(I)Z"⟩
abbrev cX5_own : ByteArray := prog_1_method_10_code
def yX5_own : MethodName := ⟨RX5, "own", "(Z)V"⟩
abbrev cX5_take : ByteArray := prog_1_method_11_code
def yX5_take : MethodName := ⟨RX5, "take", "(JIIJ)I"⟩
abbrev cX2_latestOwn : ByteArray := prog_4_method_8_code
def yX2_latestOwn : MethodName := ⟨RX2, "latestOwn", "(JJ)I"⟩
abbrev cX2_counts : ByteArray := prog_4_method_12_code
def yX2_counts : MethodName := ⟨RX2, "counts", "(IJIJ)Z"⟩
abbrev cX0_add : ByteArray := prog_2_method_2_code
def yX0_add : MethodName := ⟨RX0, "add", "(IIIII)V"⟩
abbrev cX2_digestOf : ByteArray := prog_4_method_4_code
def yX2_digestOf : MethodName := ⟨RX2, "digestOf", "(I)J"⟩
abbrev cX3_levelOf : ByteArray := prog_5_method_4_code
def yX3_levelOf : MethodName := ⟨RX3, "levelOf", "(I)I"⟩
abbrev cX2_countWriters : ByteArray := prog_4_method_9_code
def yX2_countWriters : MethodName := ⟨RX2, "countWriters", "(JIJ)I"⟩
abbrev cJI_bitCount : ByteArray := prog_9_method_49_code
def yJI_bitCount : MethodName := ⟨RJI, "bitCount", "(I)I"⟩
abbrev cX3_wantedOf : ByteArray := prog_5_method_5_code
def yX3_wantedOf : MethodName := ⟨RX3, "wantedOf", "(II)I"⟩
abbrev cX2_tellOneDigest : ByteArray := prog_4_method_11_code
def yX2_tellOneDigest : MethodName := ⟨RX2, "tellOneDigest", "(JIJ)Z"⟩
abbrev cX2_firstCounting : ByteArray := prog_4_method_10_code
def yX2_firstCounting : MethodName := ⟨RX2, "firstCounting", "(JIJ)I"⟩
abbrev cX5_taken : ByteArray := prog_1_method_12_code
def yX5_taken : MethodName := ⟨RX5, "taken", "()J"⟩
abbrev cX5_counted : ByteArray := prog_1_method_13_code
def yX5_counted : MethodName := ⟨RX5, "counted", "(JIIJ)I"⟩
abbrev cX5_clash : ByteArray := prog_1_method_14_code
def yX5_clash : MethodName := ⟨RX5, "clash", "(II)I"⟩
abbrev cX1_numberAt : ByteArray := prog_3_method_4_code
def yX1_numberAt : MethodName := ⟨RX1, "numberAt", "(II)I"⟩
abbrev cX5_audit : ByteArray := prog_1_method_15_code
def yX5_audit : MethodName := ⟨RX5, "audit", "(II)I"⟩
abbrev cX0_valueAt : ByteArray := prog_2_method_3_code
def yX0_valueAt : MethodName := ⟨RX0, "valueAt", "(II)I"⟩
abbrev cL_cell : ByteArray := method_2_code
def yL_cell : MethodName := ⟨RL, "cell", "([II)I"⟩
abbrev cX6_init : ByteArray := prog_8_method_1_code
def yX6_init : MethodName := ⟨RX6, "<init>", "(I)V"⟩
abbrev cX6_writer : ByteArray := prog_8_method_5_code
def yX6_writer : MethodName := ⟨RX6, "writer", "(I)I"⟩
abbrev cX6_in : ByteArray := prog_8_method_3_code
def yX6_in : MethodName := ⟨RX6, "in", "(III)Z"⟩
abbrev cX6_key : ByteArray := prog_8_method_6_code
def yX6_key : MethodName := ⟨RX6, "key", "(IJJJ)I"⟩
abbrev cX6_isWriter : ByteArray := prog_8_method_4_code
def yX6_isWriter : MethodName := ⟨RX6, "isWriter", "(I)Z"⟩
abbrev cX6_sum : ByteArray := prog_8_method_9_code
def yX6_sum : MethodName := ⟨RX6, "sum", "(JJJ)J"⟩
abbrev cX6_sumOf : ByteArray := prog_8_method_8_code
def yX6_sumOf : MethodName := ⟨RX6, "sumOf", "(JJJ)J"⟩
abbrev cX6_turned : ByteArray := prog_8_method_7_code
def yX6_turned : MethodName := ⟨RX6, "turned", "(JI)J"⟩
abbrev cX6_result : ByteArray := prog_8_method_14_code
def yX6_result : MethodName := ⟨RX6, "result", "(IJJJJJ)I"⟩
abbrev cX6_fits : ByteArray := prog_8_method_10_code
def yX6_fits : MethodName := ⟨RX6, "fits", "(IJJJJ)Z"⟩
abbrev cX6_isThere : ByteArray := prog_8_method_11_code
def yX6_isThere : MethodName := ⟨RX6, "isThere", "(IJJ)Z"⟩
abbrev cX6_against : ByteArray := prog_8_method_13_code
def yX6_against : MethodName := ⟨RX6, "against", "(I)I"⟩
abbrev cX6_isClashing : ByteArray := prog_8_method_12_code
def yX6_isClashing : MethodName := ⟨RX6, "isClashing", "(J)Z"⟩
abbrev cX6_stands : ByteArray := prog_8_method_15_code
def yX6_stands : MethodName := ⟨RX6, "stands", "(I)Z"⟩
abbrev cX6_bar : ByteArray := prog_8_method_16_code
def yX6_bar : MethodName := ⟨RX6, "bar", "(I)I"⟩
abbrev cX6_rule : ByteArray := prog_8_method_17_code
def yX6_rule : MethodName := ⟨RX6, "rule", "(IIII)I"⟩
abbrev cX6_ruleFor : ByteArray := prog_8_method_21_code
def yX6_ruleFor : MethodName := ⟨RX6, "ruleFor", "(II)I"⟩
abbrev cX6_isPlace : ByteArray := prog_8_method_20_code
def yX6_isPlace : MethodName := ⟨RX6, "isPlace", "(II)Z"⟩
abbrev cX6_ruleOf : ByteArray := prog_8_method_19_code
def yX6_ruleOf : MethodName := ⟨RX6, "ruleOf", "(II)I"⟩
abbrev cX6_worth : ByteArray := prog_8_method_18_code
def yX6_worth : MethodName := ⟨RX6, "worth", "(III)I"⟩
abbrev cX6_own : ByteArray := prog_8_method_22_code
def yX6_own : MethodName := ⟨RX6, "own", "(Z)V"⟩
abbrev cX6_take : ByteArray := prog_8_method_29_code
def yX6_take : MethodName := ⟨RX6, "take", "(JIIJ)I"⟩
abbrev cX6_ownOf : ByteArray := prog_8_method_23_code
def yX6_ownOf : MethodName := ⟨RX6, "ownOf", "(JJ)I"⟩
abbrev cX6_tell : ByteArray := prog_8_method_27_code
def yX6_tell : MethodName := ⟨RX6, "tell", "(IIII)V"⟩
abbrev cX6_levelFor : ByteArray := prog_8_method_28_code
def yX6_levelFor : MethodName := ⟨RX6, "levelFor", "(II)I"⟩
abbrev cX6_many : ByteArray := prog_8_method_25_code
def yX6_many : MethodName := ⟨RX6, "many", "(JIJ)I"⟩
abbrev cX6_counts : ByteArray := prog_8_method_24_code
def yX6_counts : MethodName := ⟨RX6, "counts", "(IJIJ)Z"⟩
abbrev cX6_agreed : ByteArray := prog_8_method_26_code
def yX6_agreed : MethodName := ⟨RX6, "agreed", "(JIJ)I"⟩
abbrev cX6_taken : ByteArray := prog_8_method_30_code
def yX6_taken : MethodName := ⟨RX6, "taken", "()J"⟩
abbrev cX6_counted : ByteArray := prog_8_method_31_code
def yX6_counted : MethodName := ⟨RX6, "counted", "(JIIJ)I"⟩
abbrev cX6_clash : ByteArray := prog_8_method_32_code
def yX6_clash : MethodName := ⟨RX6, "clash", "(II)I"⟩
abbrev cX6_audit : ByteArray := prog_8_method_33_code
def yX6_audit : MethodName := ⟨RX6, "audit", "(II)I"⟩
abbrev cL_law : ByteArray := code
def yL_law : MethodName := ⟨RL, "law", "([I)Z"⟩
abbrev vwCl : List vw_C := [(RX0, TX0, 2), (RX1, TX1, 4), (RX2, TX2, 7), (RX3, TX3, 5), (RX4, TX4, 7), (RX5, TX5, 8), (RX6, TX6, 28)]
/-- all words of the tables that last -/
def xall : List Cond := lw_tbl.filter goodWord
theorem xall_t {w : Cond} (i : Nat) (h : tables_1[i]? = some w) (hg : goodWord w = true) : w ∈ xall := List.mem_filter.mpr ⟨List.mem_append_right _ (List.mem_of_getElem? h), hg⟩
theorem xall_s {w : Cond} (i : Nat) (h : (k2_sels lw_privs)[i]? = some w) (hg : goodWord w = true) : w ∈ xall := List.mem_filter.mpr ⟨List.mem_append_left _ (List.mem_of_getElem? h), hg⟩
theorem ts_0 : (.selects RX5 yX5_noteClash yX5_noteClash : Cond) ∈ xall := xall_s 0 (by decide +kernel) (by decide +kernel)
theorem ts_1 : (.selects RX3 yX3_rankFor yX3_rankFor : Cond) ∈ xall := xall_s 1 (by decide +kernel) (by decide +kernel)
theorem ts_2 : (.selects RX3 yX3_has yX3_has : Cond) ∈ xall := xall_s 2 (by decide +kernel) (by decide +kernel)
theorem ts_3 : (.selects RX2 yX2_counts yX2_counts : Cond) ∈ xall := xall_s 3 (by decide +kernel) (by decide +kernel)
theorem ts_4 : (.selects RX6 yX6_isWriter yX6_isWriter : Cond) ∈ xall := xall_s 4 (by decide +kernel) (by decide +kernel)
theorem ts_5 : (.selects RX6 yX6_fits yX6_fits : Cond) ∈ xall := xall_s 5 (by decide +kernel) (by decide +kernel)
theorem ts_6 : (.selects RX6 yX6_isThere yX6_isThere : Cond) ∈ xall := xall_s 6 (by decide +kernel) (by decide +kernel)
theorem ts_7 : (.selects RX6 yX6_against yX6_against : Cond) ∈ xall := xall_s 7 (by decide +kernel) (by decide +kernel)
theorem ts_8 : (.selects RX6 yX6_isClashing yX6_isClashing : Cond) ∈ xall := xall_s 8 (by decide +kernel) (by decide +kernel)
theorem ts_9 : (.selects RX6 yX6_ruleOf yX6_ruleOf : Cond) ∈ xall := xall_s 9 (by decide +kernel) (by decide +kernel)
theorem ts_10 : (.selects RX6 yX6_worth yX6_worth : Cond) ∈ xall := xall_s 10 (by decide +kernel) (by decide +kernel)
theorem ts_11 : (.selects RX6 yX6_ownOf yX6_ownOf : Cond) ∈ xall := xall_s 11 (by decide +kernel) (by decide +kernel)
theorem ts_12 : (.selects RX6 yX6_tell yX6_tell : Cond) ∈ xall := xall_s 12 (by decide +kernel) (by decide +kernel)
theorem ts_13 : (.selects RX6 yX6_levelFor yX6_levelFor : Cond) ∈ xall := xall_s 13 (by decide +kernel) (by decide +kernel)
theorem ts_14 : (.selects RX6 yX6_many yX6_many : Cond) ∈ xall := xall_s 14 (by decide +kernel) (by decide +kernel)
theorem ts_15 : (.selects RX6 yX6_counts yX6_counts : Cond) ∈ xall := xall_s 15 (by decide +kernel) (by decide +kernel)
theorem ts_16 : (.selects RX6 yX6_agreed yX6_agreed : Cond) ∈ xall := xall_s 16 (by decide +kernel) (by decide +kernel)
theorem inX0 : ∀ w ∈ u_ws RX0 TX0 2, w ∈ xall := by
  intro w hw
  obtain ⟨k, hk, rfl⟩ := List.mem_map.mp hw
  have hk := List.mem_range.mp hk
  match k, hk with
  | 0, _ => exact xall_t 132 (by decide +kernel) (by decide +kernel)
  | 1, _ => exact xall_t 134 (by decide +kernel) (by decide +kernel)
  | k + 2, h => exact absurd h (by omega)
theorem inX1 : ∀ w ∈ u_ws RX1 TX1 4, w ∈ xall := by
  intro w hw
  obtain ⟨k, hk, rfl⟩ := List.mem_map.mp hw
  have hk := List.mem_range.mp hk
  match k, hk with
  | 0, _ => exact xall_t 93 (by decide +kernel) (by decide +kernel)
  | 1, _ => exact xall_t 95 (by decide +kernel) (by decide +kernel)
  | 2, _ => exact xall_t 97 (by decide +kernel) (by decide +kernel)
  | 3, _ => exact xall_t 99 (by decide +kernel) (by decide +kernel)
  | k + 4, h => exact absurd h (by omega)
theorem inX2 : ∀ w ∈ u_ws RX2 TX2 7, w ∈ xall := by
  intro w hw
  obtain ⟨k, hk, rfl⟩ := List.mem_map.mp hw
  have hk := List.mem_range.mp hk
  match k, hk with
  | 0, _ => exact xall_t 68 (by decide +kernel) (by decide +kernel)
  | 1, _ => exact xall_t 70 (by decide +kernel) (by decide +kernel)
  | 2, _ => exact xall_t 72 (by decide +kernel) (by decide +kernel)
  | 3, _ => exact xall_t 74 (by decide +kernel) (by decide +kernel)
  | 4, _ => exact xall_t 76 (by decide +kernel) (by decide +kernel)
  | 5, _ => exact xall_t 78 (by decide +kernel) (by decide +kernel)
  | 6, _ => exact xall_t 80 (by decide +kernel) (by decide +kernel)
  | k + 7, h => exact absurd h (by omega)
theorem inX3 : ∀ w ∈ u_ws RX3 TX3 5, w ∈ xall := by
  intro w hw
  obtain ⟨k, hk, rfl⟩ := List.mem_map.mp hw
  have hk := List.mem_range.mp hk
  match k, hk with
  | 0, _ => exact xall_t 113 (by decide +kernel) (by decide +kernel)
  | 1, _ => exact xall_t 115 (by decide +kernel) (by decide +kernel)
  | 2, _ => exact xall_t 117 (by decide +kernel) (by decide +kernel)
  | 3, _ => exact xall_t 119 (by decide +kernel) (by decide +kernel)
  | 4, _ => exact xall_t 121 (by decide +kernel) (by decide +kernel)
  | k + 5, h => exact absurd h (by omega)
theorem inX4 : ∀ w ∈ u_ws RX4 TX4 7, w ∈ xall := by
  intro w hw
  obtain ⟨k, hk, rfl⟩ := List.mem_map.mp hw
  have hk := List.mem_range.mp hk
  match k, hk with
  | 0, _ => exact xall_t 37 (by decide +kernel) (by decide +kernel)
  | 1, _ => exact xall_t 39 (by decide +kernel) (by decide +kernel)
  | 2, _ => exact xall_t 41 (by decide +kernel) (by decide +kernel)
  | 3, _ => exact xall_t 43 (by decide +kernel) (by decide +kernel)
  | 4, _ => exact xall_t 45 (by decide +kernel) (by decide +kernel)
  | 5, _ => exact xall_t 47 (by decide +kernel) (by decide +kernel)
  | 6, _ => exact xall_t 49 (by decide +kernel) (by decide +kernel)
  | k + 7, h => exact absurd h (by omega)
theorem inX5 : ∀ w ∈ u_ws RX5 TX5 8, w ∈ xall := by
  intro w hw
  obtain ⟨k, hk, rfl⟩ := List.mem_map.mp hw
  have hk := List.mem_range.mp hk
  match k, hk with
  | 0, _ => exact xall_t 145 (by decide +kernel) (by decide +kernel)
  | 1, _ => exact xall_t 147 (by decide +kernel) (by decide +kernel)
  | 2, _ => exact xall_t 149 (by decide +kernel) (by decide +kernel)
  | 3, _ => exact xall_t 151 (by decide +kernel) (by decide +kernel)
  | 4, _ => exact xall_t 153 (by decide +kernel) (by decide +kernel)
  | 5, _ => exact xall_t 155 (by decide +kernel) (by decide +kernel)
  | 6, _ => exact xall_t 157 (by decide +kernel) (by decide +kernel)
  | 7, _ => exact xall_t 159 (by decide +kernel) (by decide +kernel)
  | k + 8, h => exact absurd h (by omega)
theorem inX6 : ∀ w ∈ u_ws RX6 TX6 28, w ∈ xall := by
  intro w hw
  obtain ⟨k, hk, rfl⟩ := List.mem_map.mp hw
  have hk := List.mem_range.mp hk
  match k, hk with
  | 0, _ => exact xall_t 404 (by decide +kernel) (by decide +kernel)
  | 1, _ => exact xall_t 406 (by decide +kernel) (by decide +kernel)
  | 2, _ => exact xall_t 408 (by decide +kernel) (by decide +kernel)
  | 3, _ => exact xall_t 410 (by decide +kernel) (by decide +kernel)
  | 4, _ => exact xall_t 412 (by decide +kernel) (by decide +kernel)
  | 5, _ => exact xall_t 414 (by decide +kernel) (by decide +kernel)
  | 6, _ => exact xall_t 416 (by decide +kernel) (by decide +kernel)
  | 7, _ => exact xall_t 418 (by decide +kernel) (by decide +kernel)
  | 8, _ => exact xall_t 420 (by decide +kernel) (by decide +kernel)
  | 9, _ => exact xall_t 422 (by decide +kernel) (by decide +kernel)
  | 10, _ => exact xall_t 424 (by decide +kernel) (by decide +kernel)
  | 11, _ => exact xall_t 426 (by decide +kernel) (by decide +kernel)
  | 12, _ => exact xall_t 428 (by decide +kernel) (by decide +kernel)
  | 13, _ => exact xall_t 430 (by decide +kernel) (by decide +kernel)
  | 14, _ => exact xall_t 432 (by decide +kernel) (by decide +kernel)
  | 15, _ => exact xall_t 434 (by decide +kernel) (by decide +kernel)
  | 16, _ => exact xall_t 436 (by decide +kernel) (by decide +kernel)
  | 17, _ => exact xall_t 438 (by decide +kernel) (by decide +kernel)
  | 18, _ => exact xall_t 440 (by decide +kernel) (by decide +kernel)
  | 19, _ => exact xall_t 442 (by decide +kernel) (by decide +kernel)
  | 20, _ => exact xall_t 444 (by decide +kernel) (by decide +kernel)
  | 21, _ => exact xall_t 446 (by decide +kernel) (by decide +kernel)
  | 22, _ => exact xall_t 448 (by decide +kernel) (by decide +kernel)
  | 23, _ => exact xall_t 450 (by decide +kernel) (by decide +kernel)
  | 24, _ => exact xall_t 452 (by decide +kernel) (by decide +kernel)
  | 25, _ => exact xall_t 454 (by decide +kernel) (by decide +kernel)
  | 26, _ => exact xall_t 456 (by decide +kernel) (by decide +kernel)
  | 27, _ => exact xall_t 458 (by decide +kernel) (by decide +kernel)
  | k + 28, h => exact absurd h (by omega)
def xx_nest : List (String × Nat × MethodName × String) := [(RX5, 24, yX4_init, "TrustRows"), (RX5, 31, yX2_init, "TrustRows"), (RX5, 38, yX1_init, "TrustRows"), (RX5, 45, yX3_init, "TrustRows"), (RX5, 52, yX0_init, "TrustRows"), (RX4, 36, yX5_isLevel, "TrustRows"), (RX4, 46, yX5_sumUnder, "TrustRows"), (RX3, 28, yX5_isPlaceOrAny, "TrustRows"), (RX3, 32, yX5_isLevel, "TrustRows")]
abbrev xT (k : Nat → ClassId) : List (ClassId × FieldType) := [(k 0, .int), (k 1, .boolean), (k 2, .long)]
