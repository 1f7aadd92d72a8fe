section
-- ===== PART A: goes FIRST, ahead of the names: the tables' words, and 'selects' of the private methods out of them =====
/-- a private method of a class that the tables say can be made, by its rows of tables_1 -/
def lw_okq (q : MethodName × Nat) : Prop := (q.1.cls ≠ "java/lang/invoke/MethodHandle" ∧ q.1.cls ≠ "java/lang/invoke/VarHandle") ∧ Cond.instantiable q.1.cls q.2 ∈ tables_1 ∧ Cond.privateMethod q.1 ∈ tables_1 ∧ Cond.instanceMethod q.1 ∈ tables_1
theorem lw_p0 : lw_okq (⟨"TrustRows", "noteClash", "(IJ)V"⟩, 8) := ⟨⟨by decide +kernel, by decide +kernel⟩, List.mem_of_getElem? (i := 11) (by decide +kernel), List.mem_of_getElem? (i := 224) (by decide +kernel), List.mem_of_getElem? (i := 225) (by decide +kernel)⟩
theorem lw_p1 : lw_okq (⟨"TrustRows$Rules", "rankFor", "(III)I"⟩, 5) := ⟨⟨by decide +kernel, by decide +kernel⟩, List.mem_of_getElem? (i := 103) (by decide +kernel), List.mem_of_getElem? (i := 284) (by decide +kernel), List.mem_of_getElem? (i := 285) (by decide +kernel)⟩
theorem lw_p2 : lw_okq (⟨"TrustRows$Rules", "has", "(I)Z"⟩, 5) := ⟨⟨by decide +kernel, by decide +kernel⟩, List.mem_of_getElem? (i := 103) (by decide +kernel), List.mem_of_getElem? (i := 288) (by decide +kernel), List.mem_of_getElem? (i := 289) (by decide +kernel)⟩
theorem lw_p3 : lw_okq (⟨"TrustRows$Results", "counts", "(IJIJ)Z"⟩, 7) := ⟨⟨by decide +kernel, by decide +kernel⟩, List.mem_of_getElem? (i := 56) (by decide +kernel), List.mem_of_getElem? (i := 304) (by decide +kernel), List.mem_of_getElem? (i := 305) (by decide +kernel)⟩
theorem lw_p4 : lw_okq (⟨"TrustRowsModel", "isWriter", "(I)Z"⟩, 28) := ⟨⟨by decide +kernel, by decide +kernel⟩, List.mem_of_getElem? (i := 371) (by decide +kernel), List.mem_of_getElem? (i := 473) (by decide +kernel), List.mem_of_getElem? (i := 474) (by decide +kernel)⟩
theorem lw_p5 : lw_okq (⟨"TrustRowsModel", "fits", "(IJJJJ)Z"⟩, 28) := ⟨⟨by decide +kernel, by decide +kernel⟩, List.mem_of_getElem? (i := 371) (by decide +kernel), List.mem_of_getElem? (i := 493) (by decide +kernel), List.mem_of_getElem? (i := 494) (by decide +kernel)⟩
theorem lw_p6 : lw_okq (⟨"TrustRowsModel", "isThere", "(IJJ)Z"⟩, 28) := ⟨⟨by decide +kernel, by decide +kernel⟩, List.mem_of_getElem? (i := 371) (by decide +kernel), List.mem_of_getElem? (i := 497) (by decide +kernel), List.mem_of_getElem? (i := 498) (by decide +kernel)⟩
theorem lw_p7 : lw_okq (⟨"TrustRowsModel", "against", "(I)I"⟩, 28) := ⟨⟨by decide +kernel, by decide +kernel⟩, List.mem_of_getElem? (i := 371) (by decide +kernel), List.mem_of_getElem? (i := 501) (by decide +kernel), List.mem_of_getElem? (i := 502) (by decide +kernel)⟩
theorem lw_p8 : lw_okq (⟨"TrustRowsModel", "isClashing", "(J)Z"⟩, 28) := ⟨⟨by decide +kernel, by decide +kernel⟩, List.mem_of_getElem? (i := 371) (by decide +kernel), List.mem_of_getElem? (i := 505) (by decide +kernel), List.mem_of_getElem? (i := 506) (by decide +kernel)⟩
theorem lw_p9 : lw_okq (⟨"TrustRowsModel", "ruleOf", "(II)I"⟩, 28) := ⟨⟨by decide +kernel, by decide +kernel⟩, List.mem_of_getElem? (i := 371) (by decide +kernel), List.mem_of_getElem? (i := 528) (by decide +kernel), List.mem_of_getElem? (i := 529) (by decide +kernel)⟩
theorem lw_p10 : lw_okq (⟨"TrustRowsModel", "worth", "(III)I"⟩, 28) := ⟨⟨by decide +kernel, by decide +kernel⟩, List.mem_of_getElem? (i := 371) (by decide +kernel), List.mem_of_getElem? (i := 532) (by decide +kernel), List.mem_of_getElem? (i := 533) (by decide +kernel)⟩
theorem lw_p11 : lw_okq (⟨"TrustRowsModel", "ownOf", "(JJ)I"⟩, 28) := ⟨⟨by decide +kernel, by decide +kernel⟩, List.mem_of_getElem? (i := 371) (by decide +kernel), List.mem_of_getElem? (i := 544) (by decide +kernel), List.mem_of_getElem? (i := 545) (by decide +kernel)⟩
theorem lw_p12 : lw_okq (⟨"TrustRowsModel", "tell", "(IIII)V"⟩, 28) := ⟨⟨by decide +kernel, by decide +kernel⟩, List.mem_of_getElem? (i := 371) (by decide +kernel), List.mem_of_getElem? (i := 548) (by decide +kernel), List.mem_of_getElem? (i := 549) (by decide +kernel)⟩
theorem lw_p13 : lw_okq (⟨"TrustRowsModel", "levelFor", "(II)I"⟩, 28) := ⟨⟨by decide +kernel, by decide +kernel⟩, List.mem_of_getElem? (i := 371) (by decide +kernel), List.mem_of_getElem? (i := 552) (by decide +kernel), List.mem_of_getElem? (i := 553) (by decide +kernel)⟩
theorem lw_p14 : lw_okq (⟨"TrustRowsModel", "many", "(JIJ)I"⟩, 28) := ⟨⟨by decide +kernel, by decide +kernel⟩, List.mem_of_getElem? (i := 371) (by decide +kernel), List.mem_of_getElem? (i := 556) (by decide +kernel), List.mem_of_getElem? (i := 557) (by decide +kernel)⟩
theorem lw_p15 : lw_okq (⟨"TrustRowsModel", "counts", "(IJIJ)Z"⟩, 28) := ⟨⟨by decide +kernel, by decide +kernel⟩, List.mem_of_getElem? (i := 371) (by decide +kernel), List.mem_of_getElem? (i := 560) (by decide +kernel), List.mem_of_getElem? (i := 561) (by decide +kernel)⟩
def lw_privs_1 : List (MethodName × Nat) := [(⟨"TrustRows", "noteClash", "(IJ)V"⟩, 8), (⟨"TrustRows$Rules", "rankFor", "(III)I"⟩, 5), (⟨"TrustRows$Rules", "has", "(I)Z"⟩, 5), (⟨"TrustRows$Results", "counts", "(IJIJ)Z"⟩, 7), (⟨"TrustRowsModel", "isWriter", "(I)Z"⟩, 28), (⟨"TrustRowsModel", "fits", "(IJJJJ)Z"⟩, 28), (⟨"TrustRowsModel", "isThere", "(IJJ)Z"⟩, 28), (⟨"TrustRowsModel", "against", "(I)I"⟩, 28), (⟨"TrustRowsModel", "isClashing", "(J)Z"⟩, 28), (⟨"TrustRowsModel", "ruleOf", "(II)I"⟩, 28), (⟨"TrustRowsModel", "worth", "(III)I"⟩, 28), (⟨"TrustRowsModel", "ownOf", "(JJ)I"⟩, 28), (⟨"TrustRowsModel", "tell", "(IIII)V"⟩, 28), (⟨"TrustRowsModel", "levelFor", "(II)I"⟩, 28), (⟨"TrustRowsModel", "many", "(JIJ)I"⟩, 28), (⟨"TrustRowsModel", "counts", "(IJIJ)Z"⟩, 28)]
theorem lw_r1 : ∀ q ∈ lw_privs_1, lw_okq q := List.forall_mem_cons.mpr ⟨lw_p0, List.forall_mem_cons.mpr ⟨lw_p1, List.forall_mem_cons.mpr ⟨lw_p2, List.forall_mem_cons.mpr ⟨lw_p3, List.forall_mem_cons.mpr ⟨lw_p4, List.forall_mem_cons.mpr ⟨lw_p5, List.forall_mem_cons.mpr ⟨lw_p6, List.forall_mem_cons.mpr ⟨lw_p7, List.forall_mem_cons.mpr ⟨lw_p8, List.forall_mem_cons.mpr ⟨lw_p9, List.forall_mem_cons.mpr ⟨lw_p10, List.forall_mem_cons.mpr ⟨lw_p11, List.forall_mem_cons.mpr ⟨lw_p12, List.forall_mem_cons.mpr ⟨lw_p13, List.forall_mem_cons.mpr ⟨lw_p14, List.forall_mem_cons.mpr ⟨lw_p15, fun _ h => absurd h List.not_mem_nil⟩⟩⟩⟩⟩⟩⟩⟩⟩⟩⟩⟩⟩⟩⟩⟩
theorem lw_p16 : lw_okq (⟨"TrustRowsModel", "agreed", "(JIJ)I"⟩, 28) := ⟨⟨by decide +kernel, by decide +kernel⟩, List.mem_of_getElem? (i := 371) (by decide +kernel), List.mem_of_getElem? (i := 564) (by decide +kernel), List.mem_of_getElem? (i := 565) (by decide +kernel)⟩
def lw_privs_2 : List (MethodName × Nat) := [(⟨"TrustRowsModel", "agreed", "(JIJ)I"⟩, 28)]
theorem lw_r2 : ∀ q ∈ lw_privs_2, lw_okq q := List.forall_mem_cons.mpr ⟨lw_p16, fun _ h => absurd h List.not_mem_nil⟩
def lw_privs : List (MethodName × Nat) := lw_privs_1 ++ (lw_privs_2)
def lw_tbl : List Cond := k2_sels lw_privs ++ tables_1
theorem lw_privs_ok : ∀ q ∈ lw_privs, lw_okq q := by
  show ∀ q ∈ lw_privs_1 ++ (lw_privs_2), lw_okq q
  exact List.forall_mem_append.mpr ⟨lw_r1, lw_r2⟩
def RX0 : String := "TrustRows$AuditRows"
def RX1 : String := "TrustRows$Clashes"
def RX2 : String := "TrustRows$Results"
def RX3 : String := "TrustRows$Rules"
def RX4 : String := "TrustRows$Writers"
def RX5 : String := "TrustRows"
def RX6 : String := "TrustRowsModel"
def RJI : String := "java/lang/Integer"
def RJM : String := "java/lang/Math"
def RL : String := "TrustRowsLaw"
def TX0 : u_T := fun k => match k with
  | 0 => ("TrustRows$AuditRows", "cells", "[I", true)
  | _ => ("TrustRows$AuditRows", "count", "I", false)
def tyX0 : Nat → FieldType := fun k => match k with
  | 0 => .array .int
  | _ => .int
theorem nmX0 : ∀ a, a < 2 → ∀ b, b < 2 → a ≠ b → (TX0 a).2.1 ≠ (TX0 b).2.1 := by decide +kernel
theorem tyX0_ok : ∀ k, k < 2 → parseFieldDescriptor (TX0 k).2.2.1 = some (tyX0 k) := by decide +kernel
def TX1 : u_T := fun k => match k with
  | 0 => ("TrustRows$Clashes", "actions", "[J", true)
  | 1 => ("TrustRows$Clashes", "lessers", "[I", true)
  | 2 => ("TrustRows$Clashes", "laters", "[I", true)
  | _ => ("TrustRows$Clashes", "count", "I", false)
def tyX1 : Nat → FieldType := fun k => match k with
  | 0 => .array .long
  | 1 => .array .int
  | 2 => .array .int
  | _ => .int
theorem nmX1 : ∀ a, a < 4 → ∀ b, b < 4 → a ≠ b → (TX1 a).2.1 ≠ (TX1 b).2.1 := by decide +kernel
theorem tyX1_ok : ∀ k, k < 4 → parseFieldDescriptor (TX1 k).2.2.1 = some (tyX1 k) := by decide +kernel
def TX2 : u_T := fun k => match k with
  | 0 => ("TrustRows$Results", "writerNumbers", "[I", true)
  | 1 => ("TrustRows$Results", "levels", "[I", true)
  | 2 => ("TrustRows$Results", "actions", "[J", true)
  | 3 => ("TrustRows$Results", "digests", "[J", true)
  | 4 => ("TrustRows$Results", "times", "[J", true)
  | 5 => ("TrustRows$Results", "dropped", "[Z", true)
  | _ => ("TrustRows$Results", "count", "I", false)
def tyX2 : Nat → FieldType := fun k => match k with
  | 0 => .array .int
  | 1 => .array .int
  | 2 => .array .long
  | 3 => .array .long
  | 4 => .array .long
  | 5 => .array .boolean
  | _ => .int
theorem nmX2 : ∀ a, a < 7 → ∀ b, b < 7 → a ≠ b → (TX2 a).2.1 ≠ (TX2 b).2.1 := by decide +kernel
theorem tyX2_ok : ∀ k, k < 7 → parseFieldDescriptor (TX2 k).2.2.1 = some (tyX2 k) := by decide +kernel
def TX3 : u_T := fun k => match k with
  | 0 => ("TrustRows$Rules", "targets", "[I", true)
  | 1 => ("TrustRows$Rules", "branches", "[I", true)
  | 2 => ("TrustRows$Rules", "levels", "[I", true)
  | 3 => ("TrustRows$Rules", "wanteds", "[I", true)
  | _ => ("TrustRows$Rules", "count", "I", false)
def tyX3 : Nat → FieldType := fun k => match k with
  | 0 => .array .int
  | 1 => .array .int
  | 2 => .array .int
  | 3 => .array .int
  | _ => .int
theorem nmX3 : ∀ a, a < 5 → ∀ b, b < 5 → a ≠ b → (TX3 a).2.1 ≠ (TX3 b).2.1 := by decide +kernel
theorem tyX3_ok : ∀ k, k < 5 → parseFieldDescriptor (TX3 k).2.2.1 = some (tyX3 k) := by decide +kernel
def TX4 : u_T := fun k => match k with
  | 0 => ("TrustRows$Writers", "levels", "[I", true)
  | 1 => ("TrustRows$Writers", "barred", "[Z", true)
  | 2 => ("TrustRows$Writers", "keyCounts", "[I", true)
  | 3 => ("TrustRows$Writers", "keys", "[J", true)
  | 4 => ("TrustRows$Writers", "froms", "[J", true)
  | 5 => ("TrustRows$Writers", "untils", "[J", true)
  | _ => ("TrustRows$Writers", "count", "I", false)
def tyX4 : Nat → FieldType := fun k => match k with
  | 0 => .array .int
  | 1 => .array .boolean
  | 2 => .array .int
  | 3 => .array .long
  | 4 => .array .long
  | 5 => .array .long
  | _ => .int
theorem nmX4 : ∀ a, a < 7 → ∀ b, b < 7 → a ≠ b → (TX4 a).2.1 ≠ (TX4 b).2.1 := by decide +kernel
theorem tyX4_ok : ∀ k, k < 7 → parseFieldDescriptor (TX4 k).2.2.1 = some (tyX4 k) := by decide +kernel
def TX5 : u_T := fun k => match k with
  | 0 => ("TrustRows", "quorum", "I", true)
  | 1 => ("TrustRows", "writers", "LTrustRows$Writers;", true)
  | 2 => ("TrustRows", "results", "LTrustRows$Results;", true)
  | 3 => ("TrustRows", "clashes", "LTrustRows$Clashes;", true)
  | 4 => ("TrustRows", "rules", "LTrustRows$Rules;", true)
  | 5 => ("TrustRows", "auditRows", "LTrustRows$AuditRows;", true)
  | 6 => ("TrustRows", "ownCounts", "Z", false)
  | _ => ("TrustRows", "latestTaken", "J", false)
def tyX5 : Nat → FieldType := fun k => match k with
  | 0 => .int
  | 1 => .object "TrustRows$Writers"
  | 2 => .object "TrustRows$Results"
  | 3 => .object "TrustRows$Clashes"
  | 4 => .object "TrustRows$Rules"
  | 5 => .object "TrustRows$AuditRows"
  | 6 => .boolean
  | _ => .long
theorem nmX5 : ∀ a, a < 8 → ∀ b, b < 8 → a ≠ b → (TX5 a).2.1 ≠ (TX5 b).2.1 := by decide +kernel
theorem tyX5_ok : ∀ k, k < 8 → parseFieldDescriptor (TX5 k).2.2.1 = some (tyX5 k) := by decide +kernel
def TX6 : u_T := fun k => match k with
  | 0 => ("TrustRowsModel", "thrown", "I", false)
  | 1 => ("TrustRowsModel", "quorum", "I", true)
  | 2 => ("TrustRowsModel", "ownCounts", "Z", false)
  | 3 => ("TrustRowsModel", "writers", "I", false)
  | 4 => ("TrustRowsModel", "levels", "[I", true)
  | 5 => ("TrustRowsModel", "barred", "[Z", true)
  | 6 => ("TrustRowsModel", "keyMany", "[I", true)
  | 7 => ("TrustRowsModel", "keys", "[J", true)
  | 8 => ("TrustRowsModel", "begins", "[J", true)
  | 9 => ("TrustRowsModel", "ends", "[J", true)
  | 10 => ("TrustRowsModel", "results", "I", false)
  | 11 => ("TrustRowsModel", "by", "[I", true)
  | 12 => ("TrustRowsModel", "actions", "[J", true)
  | 13 => ("TrustRowsModel", "digests", "[J", true)
  | 14 => ("TrustRowsModel", "times", "[J", true)
  | 15 => ("TrustRowsModel", "dropped", "[Z", true)
  | 16 => ("TrustRowsModel", "clashes", "I", false)
  | 17 => ("TrustRowsModel", "clashing", "[J", true)
  | 18 => ("TrustRowsModel", "lesser", "[I", true)
  | 19 => ("TrustRowsModel", "later", "[I", true)
  | 20 => ("TrustRowsModel", "rules", "I", false)
  | 21 => ("TrustRowsModel", "targets", "[I", true)
  | 22 => ("TrustRowsModel", "branches", "[I", true)
  | 23 => ("TrustRowsModel", "least", "[I", true)
  | 24 => ("TrustRowsModel", "wants", "[I", true)
  | 25 => ("TrustRowsModel", "latest", "J", false)
  | 26 => ("TrustRowsModel", "rows", "I", false)
  | _ => ("TrustRowsModel", "audits", "[I", true)
def tyX6 : Nat → FieldType := fun k => match k with
  | 0 => .int
  | 1 => .int
  | 2 => .boolean
  | 3 => .int
  | 4 => .array .int
  | 5 => .array .boolean
  | 6 => .array .int
  | 7 => .array .long
  | 8 => .array .long
  | 9 => .array .long
  | 10 => .int
  | 11 => .array .int
  | 12 => .array .long
  | 13 => .array .long
  | 14 => .array .long
  | 15 => .array .boolean
  | 16 => .int
  | 17 => .array .long
  | 18 => .array .int
  | 19 => .array .int
  | 20 => .int
  | 21 => .array .int
  | 22 => .array .int
  | 23 => .array .int
  | 24 => .array .int
  | 25 => .long
  | 26 => .int
  | _ => .array .int
theorem nmX6 : ∀ a, a < 28 → ∀ b, b < 28 → a ≠ b → (TX6 a).2.1 ≠ (TX6 b).2.1 := by decide +kernel
theorem tyX6_ok : ∀ k, k < 28 → parseFieldDescriptor (TX6 k).2.2.1 = some (tyX6 k) := by decide +kernel
abbrev cX5_init : ByteArray := prog_1_method_1_code
def yX5_init : MethodName := ⟨RX5, "<init>", "(I)V"⟩
abbrev cJM_min : ByteArray := prog_10_method_69_code
def yJM_min : MethodName := ⟨RJM, "min", "(II)I"⟩
abbrev cJM_max : ByteArray := prog_10_method_65_code
def yJM_max : MethodName := ⟨RJM, "max", "(II)I"⟩
abbrev cX4_init : ByteArray := prog_6_method_1_code
def yX4_init : MethodName := ⟨RX4, "<init>", "()V"⟩
abbrev cX2_init : ByteArray := prog_4_method_1_code
def yX2_init : MethodName := ⟨RX2, "<init>", "()V"⟩
abbrev cX1_init : ByteArray := prog_3_method_1_code
def yX1_init : MethodName := ⟨RX1, "<init>", "()V"⟩
abbrev cX3_init : ByteArray := prog_5_method_1_code
def yX3_init : MethodName := ⟨RX3, "<init>", "()V"⟩
abbrev cX0_init : ByteArray := prog_2_method_1_code
def yX0_init : MethodName := ⟨RX0, "<init>", "()V"⟩
abbrev cX5_writer : ByteArray := prog_1_method_2_code
def yX5_writer : MethodName := ⟨RX5, "writer", "(I)I"⟩
abbrev cX4_add : ByteArray := prog_6_method_2_code
def yX4_add : MethodName := ⟨RX4, "add", "(I)I"⟩
abbrev cX5_isLevel : ByteArray := prog_1_method_19_code
def yX5_isLevel : MethodName := ⟨RX5, "isLevel", "(I)Z"⟩
abbrev cX5_key : ByteArray := prog_1_method_3_code
def yX5_key : MethodName := ⟨RX5, "key", "(IJJJ)I"⟩
abbrev cX4_addKey : ByteArray := prog_6_method_7_code
def yX4_addKey : MethodName := ⟨RX4, "addKey", "(IJJJ)I"⟩
abbrev cX4_mayWrite : ByteArray := prog_6_method_4_code
def yX4_mayWrite : MethodName := ⟨RX4, "mayWrite", "(I)Z"⟩
abbrev cX4_has : ByteArray := prog_6_method_3_code
def yX4_has : MethodName := ⟨RX4, "has", "(I)Z"⟩
abbrev cX5_sum : ByteArray := prog_1_method_4_code
def yX5_sum : MethodName := ⟨RX5, "sum", "(JJJ)J"⟩
abbrev cX5_sumUnder : ByteArray := prog_1_method_20_code
def yX5_sumUnder : MethodName := ⟨RX5, "sumUnder", "(JJJ)J"⟩
abbrev cX5_mixWord : ByteArray := prog_1_method_21_code
def yX5_mixWord : MethodName := ⟨RX5, "mixWord", "(JJ)J"⟩
abbrev cX5_result : ByteArray := prog_1_method_5_code
def yX5_result : MethodName := ⟨RX5, "result", "(IJJJJJ)I"⟩
abbrev cX4_fits : ByteArray := prog_6_method_8_code
def yX4_fits : MethodName := ⟨RX4, "fits", "(IJJJJ)Z"⟩
abbrev cX2_hasLike : ByteArray := prog_4_method_5_code
def yX2_hasLike : MethodName := ⟨RX2, "hasLike", "(IJJ)Z"⟩
abbrev cX4_levelOf : ByteArray := prog_6_method_5_code
def yX4_levelOf : MethodName := ⟨RX4, "levelOf", "(I)I"⟩
abbrev cX2_add : ByteArray := prog_4_method_2_code
def yX2_add : MethodName := ⟨RX2, "add", "(IIJJJ)I"⟩
abbrev cX5_noteClash : ByteArray := prog_1_method_16_code
def yX5_noteClash : MethodName := ⟨RX5, "noteClash", "(IJ)V"⟩
abbrev cX1_has : ByteArray := prog_3_method_3_code
def yX1_has : MethodName := ⟨RX1, "has", "(J)Z"⟩
abbrev cX2_firstAgainst : ByteArray := prog_4_method_7_code
def yX2_firstAgainst : MethodName := ⟨RX2, "firstAgainst", "(I)I"⟩
abbrev cX2_isStanding : ByteArray := prog_4_method_3_code
def yX2_isStanding : MethodName := ⟨RX2, "isStanding", "(I)Z"⟩
abbrev cX1_add : ByteArray := prog_3_method_2_code
def yX1_add : MethodName := ⟨RX1, "add", "(JII)V"⟩
abbrev cX5_stands : ByteArray := prog_1_method_6_code
def yX5_stands : MethodName := ⟨RX5, "stands", "(I)Z"⟩
abbrev cX5_bar : ByteArray := prog_1_method_7_code
def yX5_bar : MethodName := ⟨RX5, "bar", "(I)I"⟩
abbrev cX4_shutOut : ByteArray := prog_6_method_6_code
def yX4_shutOut : MethodName := ⟨RX4, "shutOut", "(I)V"⟩
abbrev cX2_dropAllOf : ByteArray := prog_4_method_6_code
def yX2_dropAllOf : MethodName := ⟨RX2, "dropAllOf", "(I)I"⟩
abbrev cX5_rule : ByteArray := prog_1_method_8_code
def yX5_rule : MethodName := ⟨RX5, "rule", "(IIII)I"⟩
abbrev cX3_add : ByteArray := prog_5_method_2_code
def yX3_add : MethodName := ⟨RX3, "add", "(IIII)I"⟩
abbrev cX5_isPlaceOrAny : ByteArray := prog_1_method_18_code
def yX5_isPlaceOrAny : MethodName := ⟨RX5, "isPlaceOrAny", "(I)Z"⟩
abbrev cX5_isPlace : ByteArray := prog_1_method_17_code
def yX5_isPlace : MethodName := ⟨RX5, "isPlace", "(I)Z"⟩
abbrev cX5_ruleFor : ByteArray := prog_1_method_9_code
def yX5_ruleFor : MethodName := ⟨RX5, "ruleFor", "(II)I"⟩
abbrev cX3_best : ByteArray := prog_5_method_3_code
def yX3_best : MethodName := ⟨RX3, "best", "(II)I"⟩
abbrev cX3_rankFor : ByteArray := prog_5_method_7_code
def yX3_rankFor : MethodName := ⟨RX3, "rankFor", "(III)I"⟩
abbrev cX3_has : ByteArray := prog_5_method_6_code
def yX3_has : MethodName := ⟨RX3, "has", "(I)Z"⟩
abbrev cX5_own : ByteArray := prog_1_method_10_code
def yX5_own : MethodName := ⟨RX5, "own", "(Z)V"⟩
abbrev cX5_take : ByteArray := prog_1_method_11_code
def yX5_take : MethodName := ⟨RX5, "take", "(JIIJ)I"⟩
abbrev cX2_latestOwn : ByteArray := prog_4_method_8_code
def yX2_latestOwn : MethodName := ⟨RX2, "latestOwn", "(JJ)I"⟩
abbrev cX2_counts : ByteArray := prog_4_method_12_code
def yX2_counts : MethodName := ⟨RX2, "counts", "(IJIJ)Z"⟩
abbrev cX0_add : ByteArray := prog_2_method_2_code
def yX0_add : MethodName := ⟨RX0, "add", "(IIIII)V"⟩
abbrev cX2_digestOf : ByteArray := prog_4_method_4_code
def yX2_digestOf : MethodName := ⟨RX2, "digestOf", "(I)J"⟩
abbrev cX3_levelOf : ByteArray := prog_5_method_4_code
def yX3_levelOf : MethodName := ⟨RX3, "levelOf", "(I)I"⟩
abbrev cX2_countWriters : ByteArray := prog_4_method_9_code
def yX2_countWriters : MethodName := ⟨RX2, "countWriters", "(JIJ)I"⟩
abbrev cJI_bitCount : ByteArray := prog_9_method_49_code
def yJI_bitCount : MethodName := ⟨RJI, "bitCount", "(I)I"⟩
abbrev cX3_wantedOf : ByteArray := prog_5_method_5_code
def yX3_wantedOf : MethodName := ⟨RX3, "wantedOf", "(II)I"⟩
abbrev cX2_tellOneDigest : ByteArray := prog_4_method_11_code
def yX2_tellOneDigest : MethodName := ⟨RX2, "tellOneDigest", "(JIJ)Z"⟩
abbrev cX2_firstCounting : ByteArray := prog_4_method_10_code
def yX2_firstCounting : MethodName := ⟨RX2, "firstCounting", "(JIJ)I"⟩
abbrev cX5_taken : ByteArray := prog_1_method_12_code
def yX5_taken : MethodName := ⟨RX5, "taken", "()J"⟩
abbrev cX5_counted : ByteArray := prog_1_method_13_code
def yX5_counted : MethodName := ⟨RX5, "counted", "(JIIJ)I"⟩
abbrev cX5_clash : ByteArray := prog_1_method_14_code
def yX5_clash : MethodName := ⟨RX5, "clash", "(II)I"⟩
abbrev cX1_numberAt : ByteArray := prog_3_method_4_code
def yX1_numberAt : MethodName := ⟨RX1, "numberAt", "(II)I"⟩
abbrev cX5_audit : ByteArray := prog_1_method_15_code
def yX5_audit : MethodName := ⟨RX5, "audit", "(II)I"⟩
abbrev cX0_valueAt : ByteArray := prog_2_method_3_code
def yX0_valueAt : MethodName := ⟨RX0, "valueAt", "(II)I"⟩
abbrev cL_cell : ByteArray := method_2_code
def yL_cell : MethodName := ⟨RL, "cell", "([II)I"⟩
abbrev cX6_init : ByteArray := prog_8_method_1_code
def yX6_init : MethodName := ⟨RX6, "<init>", "(I)V"⟩
abbrev cX6_writer : ByteArray := prog_8_method_5_code
def yX6_writer : MethodName := ⟨RX6, "writer", "(I)I"⟩
abbrev cX6_in : ByteArray := prog_8_method_3_code
def yX6_in : MethodName := ⟨RX6, "in", "(III)Z"⟩
abbrev cX6_key : ByteArray := prog_8_method_6_code
def yX6_key : MethodName := ⟨RX6, "key", "(IJJJ)I"⟩
abbrev cX6_isWriter : ByteArray := prog_8_method_4_code
def yX6_isWriter : MethodName := ⟨RX6, "isWriter", "(I)Z"⟩
abbrev cX6_sum : ByteArray := prog_8_method_9_code
def yX6_sum : MethodName := ⟨RX6, "sum", "(JJJ)J"⟩
abbrev cX6_sumOf : ByteArray := prog_8_method_8_code
def yX6_sumOf : MethodName := ⟨RX6, "sumOf", "(JJJ)J"⟩
abbrev cX6_turned : ByteArray := prog_8_method_7_code
def yX6_turned : MethodName := ⟨RX6, "turned", "(JI)J"⟩
abbrev cX6_result : ByteArray := prog_8_method_14_code
def yX6_result : MethodName := ⟨RX6, "result", "(IJJJJJ)I"⟩
abbrev cX6_fits : ByteArray := prog_8_method_10_code
def yX6_fits : MethodName := ⟨RX6, "fits", "(IJJJJ)Z"⟩
abbrev cX6_isThere : ByteArray := prog_8_method_11_code
def yX6_isThere : MethodName := ⟨RX6, "isThere", "(IJJ)Z"⟩
abbrev cX6_against : ByteArray := prog_8_method_13_code
def yX6_against : MethodName := ⟨RX6, "against", "(I)I"⟩
abbrev cX6_isClashing : ByteArray := prog_8_method_12_code
def yX6_isClashing : MethodName := ⟨RX6, "isClashing", "(J)Z"⟩
abbrev cX6_stands : ByteArray := prog_8_method_15_code
def yX6_stands : MethodName := ⟨RX6, "stands", "(I)Z"⟩
abbrev cX6_bar : ByteArray := prog_8_method_16_code
def yX6_bar : MethodName := ⟨RX6, "bar", "(I)I"⟩
abbrev cX6_rule : ByteArray := prog_8_method_17_code
def yX6_rule : MethodName := ⟨RX6, "rule", "(IIII)I"⟩
abbrev cX6_ruleFor : ByteArray := prog_8_method_21_code
def yX6_ruleFor : MethodName := ⟨RX6, "ruleFor", "(II)I"⟩
abbrev cX6_isPlace : ByteArray := prog_8_method_20_code
def yX6_isPlace : MethodName := ⟨RX6, "isPlace", "(II)Z"⟩
abbrev cX6_ruleOf : ByteArray := prog_8_method_19_code
def yX6_ruleOf : MethodName := ⟨RX6, "ruleOf", "(II)I"⟩
abbrev cX6_worth : ByteArray := prog_8_method_18_code
def yX6_worth : MethodName := ⟨RX6, "worth", "(III)I"⟩
abbrev cX6_own : ByteArray := prog_8_method_22_code
def yX6_own : MethodName := ⟨RX6, "own", "(Z)V"⟩
abbrev cX6_take : ByteArray := prog_8_method_29_code
def yX6_take : MethodName := ⟨RX6, "take", "(JIIJ)I"⟩
abbrev cX6_ownOf : ByteArray := prog_8_method_23_code
def yX6_ownOf : MethodName := ⟨RX6, "ownOf", "(JJ)I"⟩
abbrev cX6_tell : ByteArray := prog_8_method_27_code
def yX6_tell : MethodName := ⟨RX6, "tell", "(IIII)V"⟩
abbrev cX6_levelFor : ByteArray := prog_8_method_28_code
def yX6_levelFor : MethodName := ⟨RX6, "levelFor", "(II)I"⟩
abbrev cX6_many : ByteArray := prog_8_method_25_code
def yX6_many : MethodName := ⟨RX6, "many", "(JIJ)I"⟩
abbrev cX6_counts : ByteArray := prog_8_method_24_code
def yX6_counts : MethodName := ⟨RX6, "counts", "(IJIJ)Z"⟩
abbrev cX6_agreed : ByteArray := prog_8_method_26_code
def yX6_agreed : MethodName := ⟨RX6, "agreed", "(JIJ)I"⟩
abbrev cX6_taken : ByteArray := prog_8_method_30_code
def yX6_taken : MethodName := ⟨RX6, "taken", "()J"⟩
abbrev cX6_counted : ByteArray := prog_8_method_31_code
def yX6_counted : MethodName := ⟨RX6, "counted", "(JIIJ)I"⟩
abbrev cX6_clash : ByteArray := prog_8_method_32_code
def yX6_clash : MethodName := ⟨RX6, "clash", "(II)I"⟩
abbrev cX6_audit : ByteArray := prog_8_method_33_code
def yX6_audit : MethodName := ⟨RX6, "audit", "(II)I"⟩
abbrev cL_law : ByteArray := code
def yL_law : MethodName := ⟨RL, "law", "([I)Z"⟩
abbrev vwCl : List vw_C := [(RX0, TX0, 2), (RX1, TX1, 4), (RX2, TX2, 7), (RX3, TX3, 5), (RX4, TX4, 7), (RX5, TX5, 8), (RX6, TX6, 28)]
/-- all words of the tables that last -/
def xall : List Cond := lw_tbl.filter goodWord
theorem xall_t {w : Cond} (i : Nat) (h : tables_1[i]? = some w) (hg : goodWord w = true) : w ∈ xall := List.mem_filter.mpr ⟨List.mem_append_right _ (List.mem_of_getElem? h), hg⟩
theorem xall_s {w : Cond} (i : Nat) (h : (k2_sels lw_privs)[i]? = some w) (hg : goodWord w = true) : w ∈ xall := List.mem_filter.mpr ⟨List.mem_append_left _ (List.mem_of_getElem? h), hg⟩
theorem ts_0 : (.selects RX5 yX5_noteClash yX5_noteClash : Cond) ∈ xall := xall_s 0 (by decide +kernel) (by decide +kernel)
theorem ts_1 : (.selects RX3 yX3_rankFor yX3_rankFor : Cond) ∈ xall := xall_s 1 (by decide +kernel) (by decide +kernel)
theorem ts_2 : (.selects RX3 yX3_has yX3_has : Cond) ∈ xall := xall_s 2 (by decide +kernel) (by decide +kernel)
theorem ts_3 : (.selects RX2 yX2_counts yX2_counts : Cond) ∈ xall := xall_s 3 (by decide +kernel) (by decide +kernel)
theorem ts_4 : (.selects RX6 yX6_isWriter yX6_isWriter : Cond) ∈ xall := xall_s 4 (by decide +kernel) (by decide +kernel)
theorem ts_5 : (.selects RX6 yX6_fits yX6_fits : Cond) ∈ xall := xall_s 5 (by decide +kernel) (by decide +kernel)
theorem ts_6 : (.selects RX6 yX6_isThere yX6_isThere : Cond) ∈ xall := xall_s 6 (by decide +kernel) (by decide +kernel)
theorem ts_7 : (.selects RX6 yX6_against yX6_against : Cond) ∈ xall := xall_s 7 (by decide +kernel) (by decide +kernel)
theorem ts_8 : (.selects RX6 yX6_isClashing yX6_isClashing : Cond) ∈ xall := xall_s 8 (by decide +kernel) (by decide +kernel)
theorem ts_9 : (.selects RX6 yX6_ruleOf yX6_ruleOf : Cond) ∈ xall := xall_s 9 (by decide +kernel) (by decide +kernel)
theorem ts_10 : (.selects RX6 yX6_worth yX6_worth : Cond) ∈ xall := xall_s 10 (by decide +kernel) (by decide +kernel)
theorem ts_11 : (.selects RX6 yX6_ownOf yX6_ownOf : Cond) ∈ xall := xall_s 11 (by decide +kernel) (by decide +kernel)
theorem ts_12 : (.selects RX6 yX6_tell yX6_tell : Cond) ∈ xall := xall_s 12 (by decide +kernel) (by decide +kernel)
theorem ts_13 : (.selects RX6 yX6_levelFor yX6_levelFor : Cond) ∈ xall := xall_s 13 (by decide +kernel) (by decide +kernel)
theorem ts_14 : (.selects RX6 yX6_many yX6_many : Cond) ∈ xall := xall_s 14 (by decide +kernel) (by decide +kernel)
theorem ts_15 : (.selects RX6 yX6_counts yX6_counts : Cond) ∈ xall := xall_s 15 (by decide +kernel) (by decide +kernel)
theorem ts_16 : (.selects RX6 yX6_agreed yX6_agreed : Cond) ∈ xall := xall_s 16 (by decide +kernel) (by decide +kernel)
theorem inX0 : ∀ w ∈ u_ws RX0 TX0 2, w ∈ xall := by
  intro w hw
  obtain ⟨k, hk, rfl⟩ := List.mem_map.mp hw
  have hk := List.mem_range.mp hk
  match k, hk with
  | 0, _ => exact xall_t 132 (by decide +kernel) (by decide +kernel)
  | 1, _ => exact xall_t 134 (by decide +kernel) (by decide +kernel)
  | k + 2, h => exact absurd h (by omega)
theorem inX1 : ∀ w ∈ u_ws RX1 TX1 4, w ∈ xall := by
  intro w hw
  obtain ⟨k, hk, rfl⟩ := List.mem_map.mp hw
  have hk := List.mem_range.mp hk
  match k, hk with
  | 0, _ => exact xall_t 93 (by decide +kernel) (by decide +kernel)
  | 1, _ => exact xall_t 95 (by decide +kernel) (by decide +kernel)
  | 2, _ => exact xall_t 97 (by decide +kernel) (by decide +kernel)
  | 3, _ => exact xall_t 99 (by decide +kernel) (by decide +kernel)
  | k + 4, h => exact absurd h (by omega)
theorem inX2 : ∀ w ∈ u_ws RX2 TX2 7, w ∈ xall := by
  intro w hw
  obtain ⟨k, hk, rfl⟩ := List.mem_map.mp hw
  have hk := List.mem_range.mp hk
  match k, hk with
  | 0, _ => exact xall_t 68 (by decide +kernel) (by decide +kernel)
  | 1, _ => exact xall_t 70 (by decide +kernel) (by decide +kernel)
  | 2, _ => exact xall_t 72 (by decide +kernel) (by decide +kernel)
  | 3, _ => exact xall_t 74 (by decide +kernel) (by decide +kernel)
  | 4, _ => exact xall_t 76 (by decide +kernel) (by decide +kernel)
  | 5, _ => exact xall_t 78 (by decide +kernel) (by decide +kernel)
  | 6, _ => exact xall_t 80 (by decide +kernel) (by decide +kernel)
  | k + 7, h => exact absurd h (by omega)
theorem inX3 : ∀ w ∈ u_ws RX3 TX3 5, w ∈ xall := by
  intro w hw
  obtain ⟨k, hk, rfl⟩ := List.mem_map.mp hw
  have hk := List.mem_range.mp hk
  match k, hk with
  | 0, _ => exact xall_t 113 (by decide +kernel) (by decide +kernel)
  | 1, _ => exact xall_t 115 (by decide +kernel) (by decide +kernel)
  | 2, _ => exact xall_t 117 (by decide +kernel) (by decide +kernel)
  | 3, _ => exact xall_t 119 (by decide +kernel) (by decide +kernel)
  | 4, _ => exact xall_t 121 (by decide +kernel) (by decide +kernel)
  | k + 5, h => exact absurd h (by omega)
theorem inX4 : ∀ w ∈ u_ws RX4 TX4 7, w ∈ xall := by
  intro w hw
  obtain ⟨k, hk, rfl⟩ := List.mem_map.mp hw
  have hk := List.mem_range.mp hk
  match k, hk with
  | 0, _ => exact xall_t 37 (by decide +kernel) (by decide +kernel)
  | 1, _ => exact xall_t 39 (by decide +kernel) (by decide +kernel)
  | 2, _ => exact xall_t 41 (by decide +kernel) (by decide +kernel)
  | 3, _ => exact xall_t 43 (by decide +kernel) (by decide +kernel)
  | 4, _ => exact xall_t 45 (by decide +kernel) (by decide +kernel)
  | 5, _ => exact xall_t 47 (by decide +kernel) (by decide +kernel)
  | 6, _ => exact xall_t 49 (by decide +kernel) (by decide +kernel)
  | k + 7, h => exact absurd h (by omega)
theorem inX5 : ∀ w ∈ u_ws RX5 TX5 8, w ∈ xall := by
  intro w hw
  obtain ⟨k, hk, rfl⟩ := List.mem_map.mp hw
  have hk := List.mem_range.mp hk
  match k, hk with
  | 0, _ => exact xall_t 145 (by decide +kernel) (by decide +kernel)
  | 1, _ => exact xall_t 147 (by decide +kernel) (by decide +kernel)
  | 2, _ => exact xall_t 149 (by decide +kernel) (by decide +kernel)
  | 3, _ => exact xall_t 151 (by decide +kernel) (by decide +kernel)
  | 4, _ => exact xall_t 153 (by decide +kernel) (by decide +kernel)
  | 5, _ => exact xall_t 155 (by decide +kernel) (by decide +kernel)
  | 6, _ => exact xall_t 157 (by decide +kernel) (by decide +kernel)
  | 7, _ => exact xall_t 159 (by decide +kernel) (by decide +kernel)
  | k + 8, h => exact absurd h (by omega)
theorem inX6 : ∀ w ∈ u_ws RX6 TX6 28, w ∈ xall := by
  intro w hw
  obtain ⟨k, hk, rfl⟩ := List.mem_map.mp hw
  have hk := List.mem_range.mp hk
  match k, hk with
  | 0, _ => exact xall_t 404 (by decide +kernel) (by decide +kernel)
  | 1, _ => exact xall_t 406 (by decide +kernel) (by decide +kernel)
  | 2, _ => exact xall_t 408 (by decide +kernel) (by decide +kernel)
  | 3, _ => exact xall_t 410 (by decide +kernel) (by decide +kernel)
  | 4, _ => exact xall_t 412 (by decide +kernel) (by decide +kernel)
  | 5, _ => exact xall_t 414 (by decide +kernel) (by decide +kernel)
  | 6, _ => exact xall_t 416 (by decide +kernel) (by decide +kernel)
  | 7, _ => exact xall_t 418 (by decide +kernel) (by decide +kernel)
  | 8, _ => exact xall_t 420 (by decide +kernel) (by decide +kernel)
  | 9, _ => exact xall_t 422 (by decide +kernel) (by decide +kernel)
  | 10, _ => exact xall_t 424 (by decide +kernel) (by decide +kernel)
  | 11, _ => exact xall_t 426 (by decide +kernel) (by decide +kernel)
  | 12, _ => exact xall_t 428 (by decide +kernel) (by decide +kernel)
  | 13, _ => exact xall_t 430 (by decide +kernel) (by decide +kernel)
  | 14, _ => exact xall_t 432 (by decide +kernel) (by decide +kernel)
  | 15, _ => exact xall_t 434 (by decide +kernel) (by decide +kernel)
  | 16, _ => exact xall_t 436 (by decide +kernel) (by decide +kernel)
  | 17, _ => exact xall_t 438 (by decide +kernel) (by decide +kernel)
  | 18, _ => exact xall_t 440 (by decide +kernel) (by decide +kernel)
  | 19, _ => exact xall_t 442 (by decide +kernel) (by decide +kernel)
  | 20, _ => exact xall_t 444 (by decide +kernel) (by decide +kernel)
  | 21, _ => exact xall_t 446 (by decide +kernel) (by decide +kernel)
  | 22, _ => exact xall_t 448 (by decide +kernel) (by decide +kernel)
  | 23, _ => exact xall_t 450 (by decide +kernel) (by decide +kernel)
  | 24, _ => exact xall_t 452 (by decide +kernel) (by decide +kernel)
  | 25, _ => exact xall_t 454 (by decide +kernel) (by decide +kernel)
  | 26, _ => exact xall_t 456 (by decide +kernel) (by decide +kernel)
  | 27, _ => exact xall_t 458 (by decide +kernel) (by decide +kernel)
  | k + 28, h => exact absurd h (by omega)
def xx_nest : List (String × Nat × MethodName × String) := [(RX5, 24, yX4_init, "TrustRows"), (RX5, 31, yX2_init, "TrustRows"), (RX5, 38, yX1_init, "TrustRows"), (RX5, 45, yX3_init, "TrustRows"), (RX5, 52, yX0_init, "TrustRows"), (RX4, 36, yX5_isLevel, "TrustRows"), (RX4, 46, yX5_sumUnder, "TrustRows"), (RX3, 28, yX5_isPlaceOrAny, "TrustRows"), (RX3, 32, yX5_isLevel, "TrustRows")]
abbrev xT (k : Nat → ClassId) : List (ClassId × FieldType) := [(k 0, .int), (k 1, .boolean), (k 2, .long)]
end
section
theorem tw_1 : ((.initialized RX5) : Cond) ∈ xall := xall_t 1 (by decide +kernel) (by decide +kernel)
theorem tw_2 : ((.initialized RJM) : Cond) ∈ xall := xall_t 2 (by decide +kernel) (by decide +kernel)
theorem tw_3 : ((.initialized RX4) : Cond) ∈ xall := xall_t 3 (by decide +kernel) (by decide +kernel)
theorem tw_4 : ((.initialized RX2) : Cond) ∈ xall := xall_t 4 (by decide +kernel) (by decide +kernel)
theorem tw_5 : ((.initialized RX1) : Cond) ∈ xall := xall_t 5 (by decide +kernel) (by decide +kernel)
theorem tw_6 : ((.initialized RX3) : Cond) ∈ xall := xall_t 6 (by decide +kernel) (by decide +kernel)
theorem tw_7 : ((.initialized RX0) : Cond) ∈ xall := xall_t 7 (by decide +kernel) (by decide +kernel)
theorem tw_9 : ((.initialized RJI) : Cond) ∈ xall := xall_t 9 (by decide +kernel) (by decide +kernel)
theorem tw_15 : ((.methodLink RX5 3 ⟨"java/lang/Object", "<init>", "()V"⟩) : Cond) ∈ xall := xall_t 15 (by decide +kernel) (by decide +kernel)
theorem tw_16 : ((.instanceMethod ⟨"java/lang/Object", "<init>", "()V"⟩) : Cond) ∈ xall := xall_t 16 (by decide +kernel) (by decide +kernel)
theorem tw_17 : ((.code ⟨"java/lang/Object", "<init>", "()V"⟩ object_method_1_code 1 none) : Cond) ∈ xall := xall_t 17 (by decide +kernel) (by decide +kernel)
theorem tw_18 : ((.methodLink RX5 9 yJM_min) : Cond) ∈ xall := xall_t 18 (by decide +kernel) (by decide +kernel)
theorem tw_19 : ((.static yJM_min) : Cond) ∈ xall := xall_t 19 (by decide +kernel) (by decide +kernel)
theorem tw_20 : ((.code yJM_min prog_10_method_69_code 2 (some .int)) : Cond) ∈ xall := xall_t 20 (by decide +kernel) (by decide +kernel)
theorem tw_21 : ((.methodLink RX5 15 yJM_max) : Cond) ∈ xall := xall_t 21 (by decide +kernel) (by decide +kernel)
theorem tw_22 : ((.static yJM_max) : Cond) ∈ xall := xall_t 22 (by decide +kernel) (by decide +kernel)
theorem tw_23 : ((.code yJM_max prog_10_method_65_code 2 (some .int)) : Cond) ∈ xall := xall_t 23 (by decide +kernel) (by decide +kernel)
theorem tw_24 : ((.classLink RX5 22 RX4) : Cond) ∈ xall := xall_t 24 (by decide +kernel) (by decide +kernel)
theorem tw_25 : ((.instantiable RX4 7) : Cond) ∈ xall := xall_t 25 (by decide +kernel) (by decide +kernel)
theorem tw_27 : ((.instanceMethod yX4_init) : Cond) ∈ xall := xall_t 27 (by decide +kernel) (by decide +kernel)
theorem tw_28 : ((.code yX4_init prog_6_method_1_code 1 none) : Cond) ∈ xall := xall_t 28 (by decide +kernel) (by decide +kernel)
theorem tw_29 : ((.methodLink RX4 3 ⟨"java/lang/Object", "<init>", "()V"⟩) : Cond) ∈ xall := xall_t 29 (by decide +kernel) (by decide +kernel)
theorem tw_30 : ((.fieldLink RX4 9 "TrustRows$Writers" "levels" "[I") : Cond) ∈ xall := xall_t 30 (by decide +kernel) (by decide +kernel)
theorem tw_31 : ((.fieldLink RX4 15 "TrustRows$Writers" "barred" "[Z") : Cond) ∈ xall := xall_t 31 (by decide +kernel) (by decide +kernel)
theorem tw_32 : ((.fieldLink RX4 19 "TrustRows$Writers" "keyCounts" "[I") : Cond) ∈ xall := xall_t 32 (by decide +kernel) (by decide +kernel)
theorem tw_33 : ((.fieldLink RX4 22 "TrustRows$Writers" "keys" "[J") : Cond) ∈ xall := xall_t 33 (by decide +kernel) (by decide +kernel)
theorem tw_34 : ((.fieldLink RX4 26 "TrustRows$Writers" "froms" "[J") : Cond) ∈ xall := xall_t 34 (by decide +kernel) (by decide +kernel)
theorem tw_35 : ((.fieldLink RX4 29 "TrustRows$Writers" "untils" "[J") : Cond) ∈ xall := xall_t 35 (by decide +kernel) (by decide +kernel)
theorem tw_36 : ((.fieldLink RX4 32 "TrustRows$Writers" "count" "I") : Cond) ∈ xall := xall_t 36 (by decide +kernel) (by decide +kernel)
theorem tw_52 : ((.arrayClass .int) : Cond) ∈ xall := xall_t 52 (by decide +kernel) (by decide +kernel)
theorem tw_53 : ((.arrayClass .boolean) : Cond) ∈ xall := xall_t 53 (by decide +kernel) (by decide +kernel)
theorem tw_54 : ((.arrayClass .long) : Cond) ∈ xall := xall_t 54 (by decide +kernel) (by decide +kernel)
theorem tw_55 : ((.classLink RX5 29 RX2) : Cond) ∈ xall := xall_t 55 (by decide +kernel) (by decide +kernel)
theorem tw_56 : ((.instantiable RX2 7) : Cond) ∈ xall := xall_t 56 (by decide +kernel) (by decide +kernel)
theorem tw_58 : ((.instanceMethod yX2_init) : Cond) ∈ xall := xall_t 58 (by decide +kernel) (by decide +kernel)
theorem tw_59 : ((.code yX2_init prog_4_method_1_code 1 none) : Cond) ∈ xall := xall_t 59 (by decide +kernel) (by decide +kernel)
theorem tw_60 : ((.methodLink RX2 3 ⟨"java/lang/Object", "<init>", "()V"⟩) : Cond) ∈ xall := xall_t 60 (by decide +kernel) (by decide +kernel)
theorem tw_61 : ((.fieldLink RX2 9 "TrustRows$Results" "writerNumbers" "[I") : Cond) ∈ xall := xall_t 61 (by decide +kernel) (by decide +kernel)
theorem tw_62 : ((.fieldLink RX2 15 "TrustRows$Results" "levels" "[I") : Cond) ∈ xall := xall_t 62 (by decide +kernel) (by decide +kernel)
theorem tw_63 : ((.fieldLink RX2 18 "TrustRows$Results" "actions" "[J") : Cond) ∈ xall := xall_t 63 (by decide +kernel) (by decide +kernel)
theorem tw_64 : ((.fieldLink RX2 22 "TrustRows$Results" "digests" "[J") : Cond) ∈ xall := xall_t 64 (by decide +kernel) (by decide +kernel)
theorem tw_65 : ((.fieldLink RX2 25 "TrustRows$Results" "times" "[J") : Cond) ∈ xall := xall_t 65 (by decide +kernel) (by decide +kernel)
theorem tw_66 : ((.fieldLink RX2 28 "TrustRows$Results" "dropped" "[Z") : Cond) ∈ xall := xall_t 66 (by decide +kernel) (by decide +kernel)
theorem tw_67 : ((.fieldLink RX2 32 "TrustRows$Results" "count" "I") : Cond) ∈ xall := xall_t 67 (by decide +kernel) (by decide +kernel)
theorem tw_83 : ((.classLink RX5 36 RX1) : Cond) ∈ xall := xall_t 83 (by decide +kernel) (by decide +kernel)
theorem tw_84 : ((.instantiable RX1 4) : Cond) ∈ xall := xall_t 84 (by decide +kernel) (by decide +kernel)
theorem tw_86 : ((.instanceMethod yX1_init) : Cond) ∈ xall := xall_t 86 (by decide +kernel) (by decide +kernel)
theorem tw_87 : ((.code yX1_init prog_3_method_1_code 1 none) : Cond) ∈ xall := xall_t 87 (by decide +kernel) (by decide +kernel)
theorem tw_88 : ((.methodLink RX1 3 ⟨"java/lang/Object", "<init>", "()V"⟩) : Cond) ∈ xall := xall_t 88 (by decide +kernel) (by decide +kernel)
theorem tw_89 : ((.fieldLink RX1 9 "TrustRows$Clashes" "actions" "[J") : Cond) ∈ xall := xall_t 89 (by decide +kernel) (by decide +kernel)
theorem tw_90 : ((.fieldLink RX1 15 "TrustRows$Clashes" "lessers" "[I") : Cond) ∈ xall := xall_t 90 (by decide +kernel) (by decide +kernel)
theorem tw_91 : ((.fieldLink RX1 19 "TrustRows$Clashes" "laters" "[I") : Cond) ∈ xall := xall_t 91 (by decide +kernel) (by decide +kernel)
theorem tw_92 : ((.fieldLink RX1 22 "TrustRows$Clashes" "count" "I") : Cond) ∈ xall := xall_t 92 (by decide +kernel) (by decide +kernel)
theorem tw_102 : ((.classLink RX5 43 RX3) : Cond) ∈ xall := xall_t 102 (by decide +kernel) (by decide +kernel)
theorem tw_103 : ((.instantiable RX3 5) : Cond) ∈ xall := xall_t 103 (by decide +kernel) (by decide +kernel)
theorem tw_105 : ((.instanceMethod yX3_init) : Cond) ∈ xall := xall_t 105 (by decide +kernel) (by decide +kernel)
theorem tw_106 : ((.code yX3_init prog_5_method_1_code 1 none) : Cond) ∈ xall := xall_t 106 (by decide +kernel) (by decide +kernel)
theorem tw_107 : ((.methodLink RX3 3 ⟨"java/lang/Object", "<init>", "()V"⟩) : Cond) ∈ xall := xall_t 107 (by decide +kernel) (by decide +kernel)
theorem tw_108 : ((.fieldLink RX3 9 "TrustRows$Rules" "targets" "[I") : Cond) ∈ xall := xall_t 108 (by decide +kernel) (by decide +kernel)
theorem tw_109 : ((.fieldLink RX3 15 "TrustRows$Rules" "branches" "[I") : Cond) ∈ xall := xall_t 109 (by decide +kernel) (by decide +kernel)
theorem tw_110 : ((.fieldLink RX3 18 "TrustRows$Rules" "levels" "[I") : Cond) ∈ xall := xall_t 110 (by decide +kernel) (by decide +kernel)
theorem tw_111 : ((.fieldLink RX3 21 "TrustRows$Rules" "wanteds" "[I") : Cond) ∈ xall := xall_t 111 (by decide +kernel) (by decide +kernel)
theorem tw_112 : ((.fieldLink RX3 24 "TrustRows$Rules" "count" "I") : Cond) ∈ xall := xall_t 112 (by decide +kernel) (by decide +kernel)
theorem tw_124 : ((.classLink RX5 50 RX0) : Cond) ∈ xall := xall_t 124 (by decide +kernel) (by decide +kernel)
theorem tw_125 : ((.instantiable RX0 2) : Cond) ∈ xall := xall_t 125 (by decide +kernel) (by decide +kernel)
theorem tw_127 : ((.instanceMethod yX0_init) : Cond) ∈ xall := xall_t 127 (by decide +kernel) (by decide +kernel)
theorem tw_128 : ((.code yX0_init prog_2_method_1_code 1 none) : Cond) ∈ xall := xall_t 128 (by decide +kernel) (by decide +kernel)
theorem tw_129 : ((.methodLink RX0 3 ⟨"java/lang/Object", "<init>", "()V"⟩) : Cond) ∈ xall := xall_t 129 (by decide +kernel) (by decide +kernel)
theorem tw_130 : ((.fieldLink RX0 9 "TrustRows$AuditRows" "cells" "[I") : Cond) ∈ xall := xall_t 130 (by decide +kernel) (by decide +kernel)
theorem tw_131 : ((.fieldLink RX0 15 "TrustRows$AuditRows" "count" "I") : Cond) ∈ xall := xall_t 131 (by decide +kernel) (by decide +kernel)
theorem tw_137 : ((.fieldLink RX5 18 "TrustRows" "quorum" "I") : Cond) ∈ xall := xall_t 137 (by decide +kernel) (by decide +kernel)
theorem tw_138 : ((.fieldLink RX5 25 "TrustRows" "writers" "LTrustRows$Writers;") : Cond) ∈ xall := xall_t 138 (by decide +kernel) (by decide +kernel)
theorem tw_139 : ((.fieldLink RX5 32 "TrustRows" "results" "LTrustRows$Results;") : Cond) ∈ xall := xall_t 139 (by decide +kernel) (by decide +kernel)
theorem tw_140 : ((.fieldLink RX5 39 "TrustRows" "clashes" "LTrustRows$Clashes;") : Cond) ∈ xall := xall_t 140 (by decide +kernel) (by decide +kernel)
theorem tw_141 : ((.fieldLink RX5 46 "TrustRows" "rules" "LTrustRows$Rules;") : Cond) ∈ xall := xall_t 141 (by decide +kernel) (by decide +kernel)
theorem tw_142 : ((.fieldLink RX5 53 "TrustRows" "auditRows" "LTrustRows$AuditRows;") : Cond) ∈ xall := xall_t 142 (by decide +kernel) (by decide +kernel)
theorem tw_143 : ((.fieldLink RX5 57 "TrustRows" "ownCounts" "Z") : Cond) ∈ xall := xall_t 143 (by decide +kernel) (by decide +kernel)
theorem tw_144 : ((.fieldLink RX5 61 "TrustRows" "latestTaken" "J") : Cond) ∈ xall := xall_t 144 (by decide +kernel) (by decide +kernel)
theorem tw_166 : ((.methodLink RX5 65 yX4_add) : Cond) ∈ xall := xall_t 166 (by decide +kernel) (by decide +kernel)
theorem tw_167 : ((.instanceMethod yX4_add) : Cond) ∈ xall := xall_t 167 (by decide +kernel) (by decide +kernel)
theorem tw_168 : ((.selects RX4 yX4_add yX4_add) : Cond) ∈ xall := xall_t 168 (by decide +kernel) (by decide +kernel)
theorem tw_169 : ((.code yX4_add prog_6_method_2_code 3 (some .int)) : Cond) ∈ xall := xall_t 169 (by decide +kernel) (by decide +kernel)
theorem tw_171 : ((.static yX5_isLevel) : Cond) ∈ xall := xall_t 171 (by decide +kernel) (by decide +kernel)
theorem tw_172 : ((.code yX5_isLevel prog_1_method_19_code 1 (some .boolean)) : Cond) ∈ xall := xall_t 172 (by decide +kernel) (by decide +kernel)
theorem tw_177 : ((.methodLink RX5 69 yX4_addKey) : Cond) ∈ xall := xall_t 177 (by decide +kernel) (by decide +kernel)
theorem tw_178 : ((.instanceMethod yX4_addKey) : Cond) ∈ xall := xall_t 178 (by decide +kernel) (by decide +kernel)
theorem tw_179 : ((.selects RX4 yX4_addKey yX4_addKey) : Cond) ∈ xall := xall_t 179 (by decide +kernel) (by decide +kernel)
theorem tw_180 : ((.code yX4_addKey prog_6_method_7_code 10 (some .int)) : Cond) ∈ xall := xall_t 180 (by decide +kernel) (by decide +kernel)
theorem tw_181 : ((.methodLink RX4 43 yX4_mayWrite) : Cond) ∈ xall := xall_t 181 (by decide +kernel) (by decide +kernel)
theorem tw_182 : ((.instanceMethod yX4_mayWrite) : Cond) ∈ xall := xall_t 182 (by decide +kernel) (by decide +kernel)
theorem tw_183 : ((.selects RX4 yX4_mayWrite yX4_mayWrite) : Cond) ∈ xall := xall_t 183 (by decide +kernel) (by decide +kernel)
theorem tw_184 : ((.code yX4_mayWrite prog_6_method_4_code 2 (some .boolean)) : Cond) ∈ xall := xall_t 184 (by decide +kernel) (by decide +kernel)
theorem tw_185 : ((.methodLink RX4 40 yX4_has) : Cond) ∈ xall := xall_t 185 (by decide +kernel) (by decide +kernel)
theorem tw_186 : ((.instanceMethod yX4_has) : Cond) ∈ xall := xall_t 186 (by decide +kernel) (by decide +kernel)
theorem tw_187 : ((.selects RX4 yX4_has yX4_has) : Cond) ∈ xall := xall_t 187 (by decide +kernel) (by decide +kernel)
theorem tw_188 : ((.code yX4_has prog_6_method_3_code 2 (some .boolean)) : Cond) ∈ xall := xall_t 188 (by decide +kernel) (by decide +kernel)
theorem tw_193 : ((.methodLink RX5 73 yX5_sumUnder) : Cond) ∈ xall := xall_t 193 (by decide +kernel) (by decide +kernel)
theorem tw_194 : ((.static yX5_sumUnder) : Cond) ∈ xall := xall_t 194 (by decide +kernel) (by decide +kernel)
theorem tw_195 : ((.code yX5_sumUnder prog_1_method_20_code 6 (some .long)) : Cond) ∈ xall := xall_t 195 (by decide +kernel) (by decide +kernel)
theorem tw_196 : ((.methodLink RX5 160 yX5_mixWord) : Cond) ∈ xall := xall_t 196 (by decide +kernel) (by decide +kernel)
theorem tw_197 : ((.static yX5_mixWord) : Cond) ∈ xall := xall_t 197 (by decide +kernel) (by decide +kernel)
theorem tw_198 : ((.code yX5_mixWord prog_1_method_21_code 7 (some .long)) : Cond) ∈ xall := xall_t 198 (by decide +kernel) (by decide +kernel)
theorem tw_199 : ((.constantLong RX5 164 255) : Cond) ∈ xall := xall_t 199 (by decide +kernel) (by decide +kernel)
theorem tw_200 : ((.constantLong RX5 166 (-7046029254386353131)) : Cond) ∈ xall := xall_t 200 (by decide +kernel) (by decide +kernel)
theorem tw_205 : ((.methodLink RX5 77 yX4_mayWrite) : Cond) ∈ xall := xall_t 205 (by decide +kernel) (by decide +kernel)
theorem tw_206 : ((.methodLink RX5 81 yX4_fits) : Cond) ∈ xall := xall_t 206 (by decide +kernel) (by decide +kernel)
theorem tw_207 : ((.instanceMethod yX4_fits) : Cond) ∈ xall := xall_t 207 (by decide +kernel) (by decide +kernel)
theorem tw_208 : ((.selects RX4 yX4_fits yX4_fits) : Cond) ∈ xall := xall_t 208 (by decide +kernel) (by decide +kernel)
theorem tw_209 : ((.code yX4_fits prog_6_method_8_code 14 (some .boolean)) : Cond) ∈ xall := xall_t 209 (by decide +kernel) (by decide +kernel)
theorem tw_211 : ((.methodLink RX5 85 yX2_hasLike) : Cond) ∈ xall := xall_t 211 (by decide +kernel) (by decide +kernel)
theorem tw_212 : ((.instanceMethod yX2_hasLike) : Cond) ∈ xall := xall_t 212 (by decide +kernel) (by decide +kernel)
theorem tw_213 : ((.selects RX2 yX2_hasLike yX2_hasLike) : Cond) ∈ xall := xall_t 213 (by decide +kernel) (by decide +kernel)
theorem tw_214 : ((.code yX2_hasLike prog_4_method_5_code 8 (some .boolean)) : Cond) ∈ xall := xall_t 214 (by decide +kernel) (by decide +kernel)
theorem tw_215 : ((.methodLink RX5 89 yX4_levelOf) : Cond) ∈ xall := xall_t 215 (by decide +kernel) (by decide +kernel)
theorem tw_216 : ((.instanceMethod yX4_levelOf) : Cond) ∈ xall := xall_t 216 (by decide +kernel) (by decide +kernel)
theorem tw_217 : ((.selects RX4 yX4_levelOf yX4_levelOf) : Cond) ∈ xall := xall_t 217 (by decide +kernel) (by decide +kernel)
theorem tw_218 : ((.code yX4_levelOf prog_6_method_5_code 2 (some .int)) : Cond) ∈ xall := xall_t 218 (by decide +kernel) (by decide +kernel)
theorem tw_219 : ((.methodLink RX5 92 yX2_add) : Cond) ∈ xall := xall_t 219 (by decide +kernel) (by decide +kernel)
theorem tw_220 : ((.instanceMethod yX2_add) : Cond) ∈ xall := xall_t 220 (by decide +kernel) (by decide +kernel)
theorem tw_221 : ((.selects RX2 yX2_add yX2_add) : Cond) ∈ xall := xall_t 221 (by decide +kernel) (by decide +kernel)
theorem tw_222 : ((.code yX2_add prog_4_method_2_code 10 (some .int)) : Cond) ∈ xall := xall_t 222 (by decide +kernel) (by decide +kernel)
theorem tw_223 : ((.methodLink RX5 95 yX5_noteClash) : Cond) ∈ xall := xall_t 223 (by decide +kernel) (by decide +kernel)
theorem tw_225 : ((.instanceMethod yX5_noteClash) : Cond) ∈ xall := xall_t 225 (by decide +kernel) (by decide +kernel)
theorem tw_226 : ((.code yX5_noteClash prog_1_method_16_code 5 none) : Cond) ∈ xall := xall_t 226 (by decide +kernel) (by decide +kernel)
theorem tw_227 : ((.methodLink RX5 129 yX1_has) : Cond) ∈ xall := xall_t 227 (by decide +kernel) (by decide +kernel)
theorem tw_228 : ((.instanceMethod yX1_has) : Cond) ∈ xall := xall_t 228 (by decide +kernel) (by decide +kernel)
theorem tw_229 : ((.selects RX1 yX1_has yX1_has) : Cond) ∈ xall := xall_t 229 (by decide +kernel) (by decide +kernel)
theorem tw_230 : ((.code yX1_has prog_3_method_3_code 4 (some .boolean)) : Cond) ∈ xall := xall_t 230 (by decide +kernel) (by decide +kernel)
theorem tw_231 : ((.methodLink RX5 154 yX2_firstAgainst) : Cond) ∈ xall := xall_t 231 (by decide +kernel) (by decide +kernel)
theorem tw_232 : ((.instanceMethod yX2_firstAgainst) : Cond) ∈ xall := xall_t 232 (by decide +kernel) (by decide +kernel)
theorem tw_233 : ((.selects RX2 yX2_firstAgainst yX2_firstAgainst) : Cond) ∈ xall := xall_t 233 (by decide +kernel) (by decide +kernel)
theorem tw_234 : ((.code yX2_firstAgainst prog_4_method_7_code 4 (some .int)) : Cond) ∈ xall := xall_t 234 (by decide +kernel) (by decide +kernel)
theorem tw_235 : ((.methodLink RX2 36 yX2_isStanding) : Cond) ∈ xall := xall_t 235 (by decide +kernel) (by decide +kernel)
theorem tw_236 : ((.instanceMethod yX2_isStanding) : Cond) ∈ xall := xall_t 236 (by decide +kernel) (by decide +kernel)
theorem tw_237 : ((.selects RX2 yX2_isStanding yX2_isStanding) : Cond) ∈ xall := xall_t 237 (by decide +kernel) (by decide +kernel)
theorem tw_238 : ((.code yX2_isStanding prog_4_method_3_code 2 (some .boolean)) : Cond) ∈ xall := xall_t 238 (by decide +kernel) (by decide +kernel)
theorem tw_239 : ((.methodLink RX5 157 yX1_add) : Cond) ∈ xall := xall_t 239 (by decide +kernel) (by decide +kernel)
theorem tw_240 : ((.instanceMethod yX1_add) : Cond) ∈ xall := xall_t 240 (by decide +kernel) (by decide +kernel)
theorem tw_241 : ((.selects RX1 yX1_add yX1_add) : Cond) ∈ xall := xall_t 241 (by decide +kernel) (by decide +kernel)
theorem tw_242 : ((.code yX1_add prog_3_method_2_code 5 none) : Cond) ∈ xall := xall_t 242 (by decide +kernel) (by decide +kernel)
theorem tw_247 : ((.methodLink RX5 99 yX2_isStanding) : Cond) ∈ xall := xall_t 247 (by decide +kernel) (by decide +kernel)
theorem tw_252 : ((.methodLink RX5 102 yX4_shutOut) : Cond) ∈ xall := xall_t 252 (by decide +kernel) (by decide +kernel)
theorem tw_253 : ((.instanceMethod yX4_shutOut) : Cond) ∈ xall := xall_t 253 (by decide +kernel) (by decide +kernel)
theorem tw_254 : ((.selects RX4 yX4_shutOut yX4_shutOut) : Cond) ∈ xall := xall_t 254 (by decide +kernel) (by decide +kernel)
theorem tw_255 : ((.code yX4_shutOut prog_6_method_6_code 2 none) : Cond) ∈ xall := xall_t 255 (by decide +kernel) (by decide +kernel)
theorem tw_256 : ((.methodLink RX5 106 yX2_dropAllOf) : Cond) ∈ xall := xall_t 256 (by decide +kernel) (by decide +kernel)
theorem tw_257 : ((.instanceMethod yX2_dropAllOf) : Cond) ∈ xall := xall_t 257 (by decide +kernel) (by decide +kernel)
theorem tw_258 : ((.selects RX2 yX2_dropAllOf yX2_dropAllOf) : Cond) ∈ xall := xall_t 258 (by decide +kernel) (by decide +kernel)
theorem tw_259 : ((.code yX2_dropAllOf prog_4_method_6_code 4 (some .int)) : Cond) ∈ xall := xall_t 259 (by decide +kernel) (by decide +kernel)
theorem tw_264 : ((.methodLink RX5 109 yX3_add) : Cond) ∈ xall := xall_t 264 (by decide +kernel) (by decide +kernel)
theorem tw_265 : ((.instanceMethod yX3_add) : Cond) ∈ xall := xall_t 265 (by decide +kernel) (by decide +kernel)
theorem tw_266 : ((.selects RX3 yX3_add yX3_add) : Cond) ∈ xall := xall_t 266 (by decide +kernel) (by decide +kernel)
theorem tw_267 : ((.code yX3_add prog_5_method_2_code 6 (some .int)) : Cond) ∈ xall := xall_t 267 (by decide +kernel) (by decide +kernel)
theorem tw_269 : ((.static yX5_isPlaceOrAny) : Cond) ∈ xall := xall_t 269 (by decide +kernel) (by decide +kernel)
theorem tw_270 : ((.code yX5_isPlaceOrAny prog_1_method_18_code 1 (some .boolean)) : Cond) ∈ xall := xall_t 270 (by decide +kernel) (by decide +kernel)
theorem tw_271 : ((.methodLink RX5 112 yX5_isPlace) : Cond) ∈ xall := xall_t 271 (by decide +kernel) (by decide +kernel)
theorem tw_272 : ((.static yX5_isPlace) : Cond) ∈ xall := xall_t 272 (by decide +kernel) (by decide +kernel)
theorem tw_273 : ((.code yX5_isPlace prog_1_method_17_code 1 (some .boolean)) : Cond) ∈ xall := xall_t 273 (by decide +kernel) (by decide +kernel)
theorem tw_279 : ((.methodLink RX5 115 yX3_best) : Cond) ∈ xall := xall_t 279 (by decide +kernel) (by decide +kernel)
theorem tw_280 : ((.instanceMethod yX3_best) : Cond) ∈ xall := xall_t 280 (by decide +kernel) (by decide +kernel)
theorem tw_281 : ((.selects RX3 yX3_best yX3_best) : Cond) ∈ xall := xall_t 281 (by decide +kernel) (by decide +kernel)
theorem tw_282 : ((.code yX3_best prog_5_method_3_code 7 (some .int)) : Cond) ∈ xall := xall_t 282 (by decide +kernel) (by decide +kernel)
theorem tw_283 : ((.methodLink RX3 35 yX3_rankFor) : Cond) ∈ xall := xall_t 283 (by decide +kernel) (by decide +kernel)
theorem tw_285 : ((.instanceMethod yX3_rankFor) : Cond) ∈ xall := xall_t 285 (by decide +kernel) (by decide +kernel)
theorem tw_286 : ((.code yX3_rankFor prog_5_method_7_code 8 (some .int)) : Cond) ∈ xall := xall_t 286 (by decide +kernel) (by decide +kernel)
theorem tw_287 : ((.methodLink RX3 39 yX3_has) : Cond) ∈ xall := xall_t 287 (by decide +kernel) (by decide +kernel)
theorem tw_289 : ((.instanceMethod yX3_has) : Cond) ∈ xall := xall_t 289 (by decide +kernel) (by decide +kernel)
theorem tw_290 : ((.code yX3_has prog_5_method_6_code 2 (some .boolean)) : Cond) ∈ xall := xall_t 290 (by decide +kernel) (by decide +kernel)
theorem tw_299 : ((.methodLink RX5 118 yX2_latestOwn) : Cond) ∈ xall := xall_t 299 (by decide +kernel) (by decide +kernel)
theorem tw_300 : ((.instanceMethod yX2_latestOwn) : Cond) ∈ xall := xall_t 300 (by decide +kernel) (by decide +kernel)
theorem tw_301 : ((.selects RX2 yX2_latestOwn yX2_latestOwn) : Cond) ∈ xall := xall_t 301 (by decide +kernel) (by decide +kernel)
theorem tw_302 : ((.code yX2_latestOwn prog_4_method_8_code 10 (some .int)) : Cond) ∈ xall := xall_t 302 (by decide +kernel) (by decide +kernel)
theorem tw_303 : ((.methodLink RX2 40 yX2_counts) : Cond) ∈ xall := xall_t 303 (by decide +kernel) (by decide +kernel)
theorem tw_305 : ((.instanceMethod yX2_counts) : Cond) ∈ xall := xall_t 305 (by decide +kernel) (by decide +kernel)
theorem tw_306 : ((.code yX2_counts prog_4_method_12_code 7 (some .boolean)) : Cond) ∈ xall := xall_t 306 (by decide +kernel) (by decide +kernel)
theorem tw_307 : ((.methodLink RX5 122 yX0_add) : Cond) ∈ xall := xall_t 307 (by decide +kernel) (by decide +kernel)
theorem tw_308 : ((.instanceMethod yX0_add) : Cond) ∈ xall := xall_t 308 (by decide +kernel) (by decide +kernel)
theorem tw_309 : ((.selects RX0 yX0_add yX0_add) : Cond) ∈ xall := xall_t 309 (by decide +kernel) (by decide +kernel)
theorem tw_310 : ((.code yX0_add prog_2_method_2_code 7 none) : Cond) ∈ xall := xall_t 310 (by decide +kernel) (by decide +kernel)
theorem tw_311 : ((.methodLink RX5 125 yX2_digestOf) : Cond) ∈ xall := xall_t 311 (by decide +kernel) (by decide +kernel)
theorem tw_312 : ((.instanceMethod yX2_digestOf) : Cond) ∈ xall := xall_t 312 (by decide +kernel) (by decide +kernel)
theorem tw_313 : ((.selects RX2 yX2_digestOf yX2_digestOf) : Cond) ∈ xall := xall_t 313 (by decide +kernel) (by decide +kernel)
theorem tw_314 : ((.code yX2_digestOf prog_4_method_4_code 2 (some .long)) : Cond) ∈ xall := xall_t 314 (by decide +kernel) (by decide +kernel)
theorem tw_315 : ((.methodLink RX5 133 yX3_levelOf) : Cond) ∈ xall := xall_t 315 (by decide +kernel) (by decide +kernel)
theorem tw_316 : ((.instanceMethod yX3_levelOf) : Cond) ∈ xall := xall_t 316 (by decide +kernel) (by decide +kernel)
theorem tw_317 : ((.selects RX3 yX3_levelOf yX3_levelOf) : Cond) ∈ xall := xall_t 317 (by decide +kernel) (by decide +kernel)
theorem tw_318 : ((.code yX3_levelOf prog_5_method_4_code 2 (some .int)) : Cond) ∈ xall := xall_t 318 (by decide +kernel) (by decide +kernel)
theorem tw_319 : ((.methodLink RX5 134 yX2_countWriters) : Cond) ∈ xall := xall_t 319 (by decide +kernel) (by decide +kernel)
theorem tw_320 : ((.instanceMethod yX2_countWriters) : Cond) ∈ xall := xall_t 320 (by decide +kernel) (by decide +kernel)
theorem tw_321 : ((.selects RX2 yX2_countWriters yX2_countWriters) : Cond) ∈ xall := xall_t 321 (by decide +kernel) (by decide +kernel)
theorem tw_322 : ((.code yX2_countWriters prog_4_method_9_code 8 (some .int)) : Cond) ∈ xall := xall_t 322 (by decide +kernel) (by decide +kernel)
theorem tw_323 : ((.methodLink RX2 44 yJI_bitCount) : Cond) ∈ xall := xall_t 323 (by decide +kernel) (by decide +kernel)
theorem tw_324 : ((.static yJI_bitCount) : Cond) ∈ xall := xall_t 324 (by decide +kernel) (by decide +kernel)
theorem tw_325 : ((.code yJI_bitCount prog_9_method_49_code 1 (some .int)) : Cond) ∈ xall := xall_t 325 (by decide +kernel) (by decide +kernel)
theorem tw_326 : ((.constant RJI 265 1431655765) : Cond) ∈ xall := xall_t 326 (by decide +kernel) (by decide +kernel)
theorem tw_327 : ((.constant RJI 266 858993459) : Cond) ∈ xall := xall_t 327 (by decide +kernel) (by decide +kernel)
theorem tw_328 : ((.constant RJI 267 252645135) : Cond) ∈ xall := xall_t 328 (by decide +kernel) (by decide +kernel)
theorem tw_329 : ((.methodLink RX5 138 yX3_wantedOf) : Cond) ∈ xall := xall_t 329 (by decide +kernel) (by decide +kernel)
theorem tw_330 : ((.instanceMethod yX3_wantedOf) : Cond) ∈ xall := xall_t 330 (by decide +kernel) (by decide +kernel)
theorem tw_331 : ((.selects RX3 yX3_wantedOf yX3_wantedOf) : Cond) ∈ xall := xall_t 331 (by decide +kernel) (by decide +kernel)
theorem tw_332 : ((.code yX3_wantedOf prog_5_method_5_code 3 (some .int)) : Cond) ∈ xall := xall_t 332 (by decide +kernel) (by decide +kernel)
theorem tw_333 : ((.methodLink RX5 141 yX2_tellOneDigest) : Cond) ∈ xall := xall_t 333 (by decide +kernel) (by decide +kernel)
theorem tw_334 : ((.instanceMethod yX2_tellOneDigest) : Cond) ∈ xall := xall_t 334 (by decide +kernel) (by decide +kernel)
theorem tw_335 : ((.selects RX2 yX2_tellOneDigest yX2_tellOneDigest) : Cond) ∈ xall := xall_t 335 (by decide +kernel) (by decide +kernel)
theorem tw_336 : ((.code yX2_tellOneDigest prog_4_method_11_code 9 (some .boolean)) : Cond) ∈ xall := xall_t 336 (by decide +kernel) (by decide +kernel)
theorem tw_337 : ((.methodLink RX2 50 yX2_firstCounting) : Cond) ∈ xall := xall_t 337 (by decide +kernel) (by decide +kernel)
theorem tw_338 : ((.instanceMethod yX2_firstCounting) : Cond) ∈ xall := xall_t 338 (by decide +kernel) (by decide +kernel)
theorem tw_339 : ((.selects RX2 yX2_firstCounting yX2_firstCounting) : Cond) ∈ xall := xall_t 339 (by decide +kernel) (by decide +kernel)
theorem tw_340 : ((.code yX2_firstCounting prog_4_method_10_code 7 (some .int)) : Cond) ∈ xall := xall_t 340 (by decide +kernel) (by decide +kernel)
theorem tw_341 : ((.methodLink RX2 54 yX2_digestOf) : Cond) ∈ xall := xall_t 341 (by decide +kernel) (by decide +kernel)
theorem tw_342 : ((.methodLink RX5 145 yX2_firstCounting) : Cond) ∈ xall := xall_t 342 (by decide +kernel) (by decide +kernel)
theorem tw_355 : ((.methodLink RX5 148 yX1_numberAt) : Cond) ∈ xall := xall_t 355 (by decide +kernel) (by decide +kernel)
theorem tw_356 : ((.instanceMethod yX1_numberAt) : Cond) ∈ xall := xall_t 356 (by decide +kernel) (by decide +kernel)
theorem tw_357 : ((.selects RX1 yX1_numberAt yX1_numberAt) : Cond) ∈ xall := xall_t 357 (by decide +kernel) (by decide +kernel)
theorem tw_358 : ((.code yX1_numberAt prog_3_method_4_code 3 (some .int)) : Cond) ∈ xall := xall_t 358 (by decide +kernel) (by decide +kernel)
theorem tw_363 : ((.methodLink RX5 151 yX0_valueAt) : Cond) ∈ xall := xall_t 363 (by decide +kernel) (by decide +kernel)
theorem tw_364 : ((.instanceMethod yX0_valueAt) : Cond) ∈ xall := xall_t 364 (by decide +kernel) (by decide +kernel)
theorem tw_365 : ((.selects RX0 yX0_valueAt yX0_valueAt) : Cond) ∈ xall := xall_t 365 (by decide +kernel) (by decide +kernel)
theorem tw_366 : ((.code yX0_valueAt prog_2_method_3_code 3 (some .int)) : Cond) ∈ xall := xall_t 366 (by decide +kernel) (by decide +kernel)
end
section
/-! my own rows over the kit's: contracts of one form, calls of one row -/
/-- the nest mates' call words, which no word list carries: they go with the world -/
def xx_N (U : State) : Prop := ∀ q ∈ xx_nest, va_Nw (.methodLinkNest q.1 q.2.1 q.2.2.1 q.2.2.2) U
theorem xx_N.warm {s U : State} (hW : s.WarmedH U.vm) (h : xx_N s) : xx_N U := fun q hq => va_Nw.warmM hW (h q hq)
theorem xx_N.same {s U : State} (hv : s.vm = U.vm) (h : xx_N s) : xx_N U := fun q hq => va_Nw.same rfl hv (h q hq)
/-- a method's start: its arguments, its cells, the classes, the nest words -/
def xx_Pre (D : va_G) (cl : List vw_C) (tys : List (ClassId × FieldType)) (av : List Value) (ws : va_W) (sz : Nat) : Array Value → State → Prop := va_Pc av (fun U => U.heap.size = sz ∧ va_P D cl ws U.heap ∧ (va_K D cl tys U ∧ xx_N U) ∧ va_D (fun _ => True) ws)
/-- a method's end: the cells that it leaves -/
def xx_B {S : Type} (D : va_G) (cl : List vw_C) (tys : List (ClassId × FieldType)) (A : Nat → Prop) (w : S → va_W) : S → State → Prop := fun u t => va_P D cl (w u) t.heap ∧ va_K D cl tys t ∧ va_D A (w u)
def xx_Ci {S : Type} (l : Launch) (y : MethodName) (ws : List Cond) (rm : Room) (D : va_G) (cl : List vw_C) (tys : List (ClassId × FieldType)) (av : List Value) (w0 : va_W) (post : Int32 → S → Prop) (w1 : S → va_W) (mc ms : Nat) : Prop :=
  ∀ sz : Nat, Met l y ws rm (xx_Pre D cl tys av w0 sz) (va_Qi post (xx_B D cl tys (va_A w0 sz) w1) (va_A w0 sz)) mc ms (va_A w0 sz)
def xx_Cl {S : Type} (l : Launch) (y : MethodName) (ws : List Cond) (rm : Room) (D : va_G) (cl : List vw_C) (tys : List (ClassId × FieldType)) (av : List Value) (w0 : va_W) (post : Int64 → S → Prop) (w1 : S → va_W) (mc ms : Nat) : Prop :=
  ∀ sz : Nat, Met l y ws rm (xx_Pre D cl tys av w0 sz) (va_Ql post (xx_B D cl tys (va_A w0 sz) w1) (va_A w0 sz)) mc ms (va_A w0 sz)
def xx_Cv {S : Type} (l : Launch) (y : MethodName) (ws : List Cond) (rm : Room) (D : va_G) (cl : List vw_C) (tys : List (ClassId × FieldType)) (av : List Value) (w0 : va_W) (post : S → Prop) (w1 : S → va_W) (mc ms : Nat) : Prop :=
  ∀ sz : Nat, Met l y ws rm (xx_Pre D cl tys av w0 sz) (va_Qv post (xx_B D cl tys (va_A w0 sz) w1) (va_A w0 sz)) mc ms (va_A w0 sz)
theorem xx_blind {D : va_G} {cl : List vw_C} {tys : List (ClassId × FieldType)} {av : List Value} {ws : va_W} {sz : Nat} : FrameBlind (xx_Pre D cl tys av ws sz) := by
  intro a U g mk q
  obtain ⟨q0, q1, qP, ⟨qK, qN⟩, qD⟩ := q
  exact ⟨q0, q1, qP, ⟨va_K.moved (u := U) (U := U.calling g mk a) (Vm.Alike.refl U.vm) qK, xx_N.same (s := U) (U := U.calling g mk a) rfl qN⟩, qD⟩
theorem xx_subP {D : va_G} {cl : List vw_C} {ws wc : va_W} {H : Heap} (hP : va_P D cl ws H) (is : List Nat) (hC : is.map (fun i => ws[i]?) = wc.map some) : va_P D cl wc H := by
  intro k q hq
  have h1 : (is.map (fun i => ws[i]?))[k]? = some (some q) := by rw [hC, List.getElem?_map, hq]; rfl
  rw [List.getElem?_map] at h1
  cases hi : is[k]? with
  | none => rw [hi] at h1; cases h1
  | some i => rw [hi] at h1; exact hP i q (Option.some.inj h1)
theorem xx_preS {s : State} {H : Heap} {D : va_G} {cl : List vw_C} {tys : List (ClassId × FieldType)} {A : Nat → Prop} {ws wc : va_W} (hK : va_K D cl tys s) (hN : xx_N s) (hP : va_P D cl ws H) (hD : va_D A ws) (is : List Nat) (hn : va_nd is = true) (hC : is.map (fun i => ws[i]?) = wc.map some) {As : List Value} : PreS s H (xx_Pre D cl tys As wc H.size) As :=
  ⟨xx_blind, fun U hU hW => ⟨rfl, by rw [hU], by rw [hU]; exact xx_subP hP is hC, ⟨va_K.moved hW.alike hK, hN.warm hW⟩, (hD.sub is hn hC).weaken (fun _ _ _ _ => trivial)⟩⟩
theorem xx_preV {s : State} {H : Heap} {D : va_G} {cl : List vw_C} {tys : List (ClassId × FieldType)} {A : Nat → Prop} {ws wc : va_W} (hK : va_K D cl tys s) (hN : xx_N s) (hP : va_P D cl ws H) (hD : va_D A ws) (is : List Nat) (hn : va_nd is = true) (hC : is.map (fun i => ws[i]?) = wc.map some) {As : List Value} {b : Nat} (ci q0 : Nat) {C : String} {T : u_T} {n : Nat} {fs : List Value} (hc : cl[ci]? = some (C, T, n)) (he : ws[q0]? = some (b, .inr (ci, fs))) : PreV s H C b (xx_Pre D cl tys (.ref b :: As) wc H.size) As :=
  ⟨xx_blind, va_recv hK hP hc he, fun U hU hW => ⟨rfl, by rw [hU], by rw [hU]; exact xx_subP hP is hC, ⟨va_K.moved hW.alike hK, hN.warm hW⟩, (hD.sub is hn hC).weaken (fun _ _ _ _ => trivial)⟩⟩
/-- a contract out of a walk -/
theorem xx_met {l : Launch} {y : MethodName} {ws : List Cond} {rm : Room} {cc : ByteArray} {maxL : Nat} {ret : Option FieldType} {Qf : (Nat → Prop) → Array Value → State → Outcome → State → Prop} {mc ms sz : Nat} {av : List Value} {w0 : va_W} {D : va_G} {cl : List vw_C} {tys : List (ClassId × FieldType)}
    (hy : plainName y.cls = true) (hw : ws = Cond.code y cc maxL ret :: xall) (hav : (lg_sl av).length ≤ maxL)
    (body : ∀ (p : Program) (e : Env) (s : State) (m : MethodId) (below : List Frame) (meth : Method) (c : Code) (A : Nat → Prop) (ls : Array Slot), p.tables.exec = Jvm.exec → c.code = cc → meth.sig.returnType = ret → (∀ w ∈ xall, w.before av.toArray s = true) → s.vm.findClass y.cls = some m.cls → meth.locks = false → meth.name = y.name → c.maxLocals = maxL → (∀ q, s.heap.size ≤ q → A q) → va_S A s.heap s.heap [] → va_P D cl w0 s.heap → va_D A w0 → va_K D cl tys s → xx_N s → lv_has ls maxL (lv_args 0 av) →
      W p l e rm s m av.toArray below meth c s.heap [] 0 0 (MQ below (Qf A) av.toArray s mc ms A) (F0 m 0 ls [])) :
    Met l y ws rm (xx_Pre D cl tys av w0 sz) (Qf (va_A w0 sz)) mc ms (va_A w0 sz) := by
  refine Met.ofW (cc := cc) (maxL := maxL) (ret := ret) hy hw ?_
  intro p e s m args below meth c s₁ B hml hv
  obtain ⟨rfl, hsz, hP, ⟨hK, hN⟩, hD0⟩ := hv
  have hts0 := atoms_spec (ws := ws) B.pre
  have hts : ∀ w ∈ xall, w.before av.toArray s = true := fun w h => hts0 w (by rw [hw]; exact List.mem_cons_of_mem _ h)
  have hown : s.vm.findClass y.cls = some m.cls := findClass_of_methodNamed B.named
  have hin : meth.name = y.name := (name_of_methodNamed B.named B.method).1
  subst hsz
  have hl := lv_entry av (n := maxL) hav
  rw [lg_entry_eq]
  exact body p e s m below meth c (va_A w0 s.heap.size) _ B.exec B.bytes B.returns hts hown B.notSynchronized hin hml (fun q h => Or.inr h) va_S.rf hP hD0.self hK hN hl
theorem xall_good {w : Cond} (h : w ∈ xall) : (w.onTables && w.keeps) = true ∨ ∃ ty, w = .arrayClass ty := good_of_word (List.mem_filter.mp h).2
theorem xx_gc {w : Cond} (h : w ∈ xall) : GoodIn xall (w :: xall) := fun x hx => by
  rcases List.mem_cons.mp hx with rfl | hx
  · exact ⟨h, xall_good h⟩
  · exact ⟨hx, xall_good hx⟩
theorem xx_gl {big a b : List Cond} (ha : ∀ w ∈ a, w ∈ xall) (hb : GoodIn xall b) : GoodIn xall (a ++ b) := fun w h => by
  rcases List.mem_append.mp h with h | h
  · exact ⟨ha w h, xall_good (ha w h)⟩
  · exact hb w h
theorem xx_gV {own : String} {idx : Nat} {C : String} {y : MethodName} {w : Cond} (h1 : (.methodLink own idx y : Cond) ∈ xall) (h2 : (.instanceMethod y : Cond) ∈ xall) (h3 : (.selects C y y : Cond) ∈ xall) (h4 : (.initialized C : Cond) ∈ xall) (h5 : w ∈ xall) : GoodIn xall (wsV own idx C y (w :: xall)) := by
  refine xx_gl (big := xall) ?_ (xx_gc h5)
  intro w hw
  simp only [List.mem_cons, List.not_mem_nil, or_false] at hw
  rcases hw with rfl | rfl | rfl | rfl <;> assumption
theorem xx_gS {own : String} {idx : Nat} {y : MethodName} {w : Cond} (h1 : (.methodLink own idx y : Cond) ∈ xall) (h2 : (.static y : Cond) ∈ xall) (h3 : (.initialized y.cls : Cond) ∈ xall) (h5 : w ∈ xall) : GoodIn xall (va_wsS own idx y (w :: xall)) := by
  refine xx_gl (big := xall) ?_ (xx_gc h5)
  intro w hw
  simp only [List.mem_cons, List.not_mem_nil, or_false] at hw
  rcases hw with rfl | rfl | rfl <;> assumption
section XXR
variable {p : Program} {l : Launch} {e : Env} {R : Room} {s : State} {m : MethodId} {args : Array Value} {below : List Frame} {meth : Method} {c : Code} {H : Heap} {locs : List Loc} {cells slots : Nat} {Q : State → Prop}
variable {cc : ByteArray} {pc : Nat} {ls : Array Slot} {rest st0 : List Value} {D : va_G} {cl : List vw_C} {A : Nat → Prop} {a : Nat} {tys : List (ClassId × FieldType)} {ws : va_W} {H0 : Heap}
theorem xx_topi {x y : Int32} (h : x = y) (k : W p l e R s m args below meth c H locs cells slots Q (F0 m pc ls (.int y :: rest))) : W p l e R s m args below meth c H locs cells slots Q (F0 m pc ls (.int x :: rest)) := by rw [h]; exact k
theorem xx_topl {x y : Int64} (h : x = y) (k : W p l e R s m args below meth c H locs cells slots Q (F0 m pc ls (.long y :: rest))) : W p l e R s m args below meth c H locs cells slots Q (F0 m pc ls (.long x :: rest)) := by rw [h]; exact k
theorem xx_iald (hexec : p.tables.exec = Jvm.exec) (hb : c.code = cc) (hK : va_K D cl tys s) (hP : va_P D cl ws H) (q0 t0 : Nat) {cA : ClassId} {n : Nat} {f : Nat → Int32} (ha : ws[q0]? = some (a, .inl (cA, n, .inl f))) (ht : tys[t0]? = some (cA, .int)) {i : Nat} (hi : i < n) (hn : n < 2 ^ 31) (hdg : decode cc pc = .ok (.iaload, 1))
    (kk : W p l e R s m args below meth c H locs cells slots Q (F0 m (pc + 1) ls (.int (f i) :: rest))) : W p l e R s m args below meth c H locs cells slots Q (F0 m pc ls (.int (nI i) :: .ref a :: rest)) :=
  va_iald hexec hb hK hP q0 t0 ha ht (vp_in_nI hi hn) hdg (by rw [nI_clamp (Nat.lt_trans hi hn)]; exact kk)
theorem xx_zald (hexec : p.tables.exec = Jvm.exec) (hb : c.code = cc) (hK : va_K D cl tys s) (hP : va_P D cl ws H) (q0 t0 : Nat) {cA : ClassId} {n : Nat} {f : Nat → Int32} (ha : ws[q0]? = some (a, .inl (cA, n, .inl f))) (ht : tys[t0]? = some (cA, .boolean)) {i : Nat} (hi : i < n) (hn : n < 2 ^ 31) (hdg : decode cc pc = .ok (.baload, 1))
    (kk : W p l e R s m args below meth c H locs cells slots Q (F0 m (pc + 1) ls (.int (f i) :: rest))) : W p l e R s m args below meth c H locs cells slots Q (F0 m pc ls (.int (nI i) :: .ref a :: rest)) :=
  va_zald hexec hb hK hP q0 t0 ha ht (vp_in_nI hi hn) hdg (by rw [nI_clamp (Nat.lt_trans hi hn)]; exact kk)
theorem xx_lald (hexec : p.tables.exec = Jvm.exec) (hb : c.code = cc) (hK : va_K D cl tys s) (hP : va_P D cl ws H) (q0 t0 : Nat) {cA : ClassId} {n : Nat} {f : Nat → Int64} (ha : ws[q0]? = some (a, .inl (cA, n, .inr (.inl f)))) (ht : tys[t0]? = some (cA, .long)) {i : Nat} (hi : i < n) (hn : n < 2 ^ 31) (hdg : decode cc pc = .ok (.laload, 1))
    (kk : W p l e R s m args below meth c H locs cells slots Q (F0 m (pc + 1) ls (.long (f i) :: rest))) : W p l e R s m args below meth c H locs cells slots Q (F0 m pc ls (.int (nI i) :: .ref a :: rest)) :=
  va_lald hexec hb hK hP q0 t0 ha ht (vp_in_nI hi hn) hdg (by rw [nI_clamp (Nat.lt_trans hi hn)]; exact kk)
theorem xx_iast (hexec : p.tables.exec = Jvm.exec) (hb : c.code = cc) (hK : va_K D cl tys s) (hP : va_P D cl ws H) (hD : va_D A ws) (hS : va_S A H0 H locs) (q0 t0 : Nat) {cA : ClassId} {n : Nat} {f g : Nat → Int32} (ha : ws[q0]? = some (a, .inl (cA, n, .inl f))) (ht : tys[t0]? = some (cA, .int)) {i : Nat} {x : Int32} (hi : i < n) (hn : n < 2 ^ 31) (hg : upd f i x = g) (hdg : decode cc pc = .ok (.iastore, 1))
    (kk : ∀ (H1 : Heap) (locs1 : List Loc), va_P D cl (ws.set q0 (a, .inl (cA, n, .inl g))) H1 → va_D A (ws.set q0 (a, .inl (cA, n, .inl g))) → va_S A H0 H1 locs1 → W p l e R s m args below meth c H1 locs1 cells slots Q (F0 m (pc + 1) ls rest)) : W p l e R s m args below meth c H locs cells slots Q (F0 m pc ls (.int x :: .int (nI i) :: .ref a :: rest)) := by
  subst hg
  refine va_iast hexec hb hK hP hD hS q0 t0 ha ht (vp_in_nI hi hn) hdg ?_
  rw [nI_clamp (Nat.lt_trans hi hn)]
  exact kk
theorem xx_zast (hexec : p.tables.exec = Jvm.exec) (hb : c.code = cc) (hK : va_K D cl tys s) (hP : va_P D cl ws H) (hD : va_D A ws) (hS : va_S A H0 H locs) (q0 t0 : Nat) {cA : ClassId} {n : Nat} {f g : Nat → Int32} (ha : ws[q0]? = some (a, .inl (cA, n, .inl f))) (ht : tys[t0]? = some (cA, .boolean)) {i : Nat} {x : Int32} (hi : i < n) (hn : n < 2 ^ 31) (hx1 : vp_nar .boolean x = x) (hg : upd f i x = g) (hdg : decode cc pc = .ok (.bastore, 1))
    (kk : ∀ (H1 : Heap) (locs1 : List Loc), va_P D cl (ws.set q0 (a, .inl (cA, n, .inl g))) H1 → va_D A (ws.set q0 (a, .inl (cA, n, .inl g))) → va_S A H0 H1 locs1 → W p l e R s m args below meth c H1 locs1 cells slots Q (F0 m (pc + 1) ls rest)) : W p l e R s m args below meth c H locs cells slots Q (F0 m pc ls (.int x :: .int (nI i) :: .ref a :: rest)) := by
  subst hg
  refine va_zast hexec hb hK hP hD hS q0 t0 ha ht (vp_in_nI hi hn) hdg ?_
  rw [nI_clamp (Nat.lt_trans hi hn), hx1]
  exact kk
theorem xx_last (hexec : p.tables.exec = Jvm.exec) (hb : c.code = cc) (hK : va_K D cl tys s) (hP : va_P D cl ws H) (hD : va_D A ws) (hS : va_S A H0 H locs) (q0 t0 : Nat) {cA : ClassId} {n : Nat} {f g : Nat → Int64} (ha : ws[q0]? = some (a, .inl (cA, n, .inr (.inl f)))) (ht : tys[t0]? = some (cA, .long)) {i : Nat} {x : Int64} (hi : i < n) (hn : n < 2 ^ 31) (hg : vp_updL f i x = g) (hdg : decode cc pc = .ok (.lastore, 1))
    (kk : ∀ (H1 : Heap) (locs1 : List Loc), va_P D cl (ws.set q0 (a, .inl (cA, n, .inr (.inl g)))) H1 → va_D A (ws.set q0 (a, .inl (cA, n, .inr (.inl g)))) → va_S A H0 H1 locs1 → W p l e R s m args below meth c H1 locs1 cells slots Q (F0 m (pc + 1) ls rest)) : W p l e R s m args below meth c H locs cells slots Q (F0 m pc ls (.long x :: .int (nI i) :: .ref a :: rest)) := by
  subst hg
  refine va_last hexec hb hK hP hD hS q0 t0 ha ht (vp_in_nI hi hn) hdg ?_
  rw [nI_clamp (Nat.lt_trans hi hn)]
  exact kk
/-- a new array of numbers, whose class is known already -/
theorem xx_newa (hexec : p.tables.exec = Jvm.exec) (hb : c.code = cc) {atype : ArrayType} (harr : (Cond.arrayClass (newarray.typeOf atype)).before args s = true) {ty : FieldType} (hty : newarray.typeOf atype = ty) (t0 : Nat) {kA : ClassId} (ht : tys[t0]? = some (kA, ty)) (hra : ∀ x : ClassId, va_RA s x ty → s.vm.findClass ("[" ++ ty.toString) = some x) (hK : va_K D cl tys s) (hP : va_P D cl ws H) (hD : va_D A ws) (hS : va_S A H0 H locs) (hA : ∀ q, H0.size ≤ q → A q)
    {n : Int32} {N' : Nat} {a0 : vp_A} (ha : ∀ cA : ClassId, vp_cell cA a0 = arrV cA N' (fun _ => defaultValue ty)) (hn : ¬ n < 0) (hN : n.toNatClampNeg = N') (hbytes : N' * componentBytes ty ≤ 536870912) (hcells : cells + 1 ≤ R.cells) (hslots : slots + N' ≤ R.slots) (hdg : decode cc pc = .ok (.newarray atype, 2))
    (kk : ∀ (q : Nat) (H1 : Heap), va_P D cl (ws ++ [(q, .inl (kA, a0))]) H1 → va_D A (ws ++ [(q, .inl (kA, a0))]) → va_S A H0 H1 locs →
      W p l e R s m args below meth c H1 locs (cells + 1) (slots + N') Q (F0 m (pc + 2) ls (.ref q :: rest))) : W p l e R s m args below meth c H locs cells slots Q (F0 m pc ls (.int n :: rest)) := by
  refine va_newa hexec hb harr hty hK hP hD hS hA ha hn hN hbytes hcells hslots hdg (fun q cA H1 hK2 hP2 hD2 hS2 => ?_)
  have h1 := hra _ (hK.2 t0 _ ht).2
  have h2 := hra _ (hK2.2 tys.length (cA, ty) (by simp)).2
  have e1 : cA = kA := Option.some.inj (h2.symm.trans h1)
  subst e1
  exact kk q H1 hP2 hD2 hS2
theorem xx_calli {S : Type} {post : Int32 → S → Prop} {w1 : S → va_W} {av : Array Value} {mc ms : Nat} {wc : va_W} (wr : va_W) (isC isR : List Nat) (hr : va_Run p l e R s m args below meth c H locs cells slots mc ms (F0 m pc ls st0) rest (va_Qi post (xx_B D cl tys (va_A wc H.size) w1) (va_A wc H.size) av) (va_A wc H.size)) (hP : va_P D cl ws H) (hD : va_D A ws) (hS : va_S A H0 H locs) (hA : ∀ q, H0.size ≤ q → A q) (hC : isC.map (fun i => ws[i]?) = wc.map some) (hR : isR.map (fun i => ws[i]?) = wr.map some) (hn : va_nd isR = true) (hdis : ∀ i ∈ isR, i ∉ isC)
    (kk : ∀ (r : Int32) (u : S) (H1 : Heap) (locs1 : List Loc), post r u → va_P D cl (wr ++ w1 u) H1 → va_D A (wr ++ w1 u) → va_S A H0 H1 locs1 → W p l e R s m args below meth c H1 locs1 (cells + mc) (slots + ms) Q (F0 m (pc + 3) ls (.int r :: rest))) : W p l e R s m args below meth c H locs cells slots Q (F0 m pc ls st0) := by
  have hF := va_free hD hS hA isC hC
  refine va_calli hr hS (fun q _ h => hF q h) hF (fun r u t H1 locs1 ht hvm hw hB hz hk hS1 => ?_)
  obtain ⟨hP1, -, hD1⟩ := hB
  rw [ht] at hP1
  obtain ⟨hP2, hD2⟩ := va_join hP hD isC isR hC hR hn hdis hk hF hP1 hD1
  exact kk r u H1 locs1 hw hP2 hD2 hS1
theorem xx_calll {S : Type} {post : Int64 → S → Prop} {w1 : S → va_W} {av : Array Value} {mc ms : Nat} {wc : va_W} (wr : va_W) (isC isR : List Nat) (hr : va_Run p l e R s m args below meth c H locs cells slots mc ms (F0 m pc ls st0) rest (va_Ql post (xx_B D cl tys (va_A wc H.size) w1) (va_A wc H.size) av) (va_A wc H.size)) (hP : va_P D cl ws H) (hD : va_D A ws) (hS : va_S A H0 H locs) (hA : ∀ q, H0.size ≤ q → A q) (hC : isC.map (fun i => ws[i]?) = wc.map some) (hR : isR.map (fun i => ws[i]?) = wr.map some) (hn : va_nd isR = true) (hdis : ∀ i ∈ isR, i ∉ isC)
    (kk : ∀ (r : Int64) (u : S) (H1 : Heap) (locs1 : List Loc), post r u → va_P D cl (wr ++ w1 u) H1 → va_D A (wr ++ w1 u) → va_S A H0 H1 locs1 → W p l e R s m args below meth c H1 locs1 (cells + mc) (slots + ms) Q (F0 m (pc + 3) ls (.long r :: rest))) : W p l e R s m args below meth c H locs cells slots Q (F0 m pc ls st0) := by
  have hF := va_free hD hS hA isC hC
  refine va_calll hr hS (fun q _ h => hF q h) hF (fun r u t H1 locs1 ht hvm hw hB hz hk hS1 => ?_)
  obtain ⟨hP1, -, hD1⟩ := hB
  rw [ht] at hP1
  obtain ⟨hP2, hD2⟩ := va_join hP hD isC isR hC hR hn hdis hk hF hP1 hD1
  exact kk r u H1 locs1 hw hP2 hD2 hS1
theorem xx_callv {S : Type} {post : S → Prop} {w1 : S → va_W} {av : Array Value} {mc ms : Nat} {wc : va_W} (wr : va_W) (isC isR : List Nat) (hr : va_Run p l e R s m args below meth c H locs cells slots mc ms (F0 m pc ls st0) rest (va_Qv post (xx_B D cl tys (va_A wc H.size) w1) (va_A wc H.size) av) (va_A wc H.size)) (hP : va_P D cl ws H) (hD : va_D A ws) (hS : va_S A H0 H locs) (hA : ∀ q, H0.size ≤ q → A q) (hC : isC.map (fun i => ws[i]?) = wc.map some) (hR : isR.map (fun i => ws[i]?) = wr.map some) (hn : va_nd isR = true) (hdis : ∀ i ∈ isR, i ∉ isC)
    (kk : ∀ (u : S) (H1 : Heap) (locs1 : List Loc), post u → va_P D cl (wr ++ w1 u) H1 → va_D A (wr ++ w1 u) → va_S A H0 H1 locs1 → W p l e R s m args below meth c H1 locs1 (cells + mc) (slots + ms) Q (F0 m (pc + 3) ls rest)) : W p l e R s m args below meth c H locs cells slots Q (F0 m pc ls st0) := by
  have hF := va_free hD hS hA isC hC
  refine va_callv hr hS (fun q _ h => hF q h) hF (fun u t H1 locs1 ht hvm hw hB hz hk hS1 => ?_)
  obtain ⟨hP1, -, hD1⟩ := hB
  rw [ht] at hP1
  obtain ⟨hP2, hD2⟩ := va_join hP hD isC isR hC hR hn hdis hk hF hP1 hD1
  exact kk u H1 locs1 hw hP2 hD2 hS1
theorem xx_iret {S : Type} {post : Int32 → S → Prop} {w1 : S → va_W} (u : S) {v : Int32} (hexec : p.tables.exec = Jvm.exec) (hb : c.code = cc) (hr : meth.sig.returnType = some .int) (hlocks : meth.locks = false) (hS : va_S A s.heap H locs) (hK : va_K D cl tys s) (hP : va_P D cl (w1 u) H) (hD : va_D A (w1 u)) (hdg : decode cc pc = .ok (.ireturn, 1)) (hw : post v u) : W p l e R s m args below meth c H locs cells slots (MQ below (va_Qi post (xx_B D cl tys A w1) A) args s cells slots A) (F0 m pc ls [.int v]) :=
  W.iret hexec hb hr (fun t ht hW => ⟨⟨v, u, rfl, hw, by rw [ht]; exact hP, va_K.moved hW.alike hK, hD⟩, hS.F ht⟩) hS.2.2 hdg hlocks
theorem xx_zret {S : Type} {post : Int32 → S → Prop} {w1 : S → va_W} (u : S) {v : Int32} (hexec : p.tables.exec = Jvm.exec) (hb : c.code = cc) (hr : meth.sig.returnType = some .boolean) (hlocks : meth.locks = false) (hv : narrow .boolean (.int v) = .int v) (hS : va_S A s.heap H locs) (hK : va_K D cl tys s) (hP : va_P D cl (w1 u) H) (hD : va_D A (w1 u)) (hdg : decode cc pc = .ok (.ireturn, 1)) (hw : post v u) : W p l e R s m args below meth c H locs cells slots (MQ below (va_Qi post (xx_B D cl tys A w1) A) args s cells slots A) (F0 m pc ls [.int v]) :=
  W.zret hexec hb hr hv (fun t ht hW => ⟨⟨v, u, rfl, hw, by rw [ht]; exact hP, va_K.moved hW.alike hK, hD⟩, hS.F ht⟩) hS.2.2 hdg hlocks
theorem xx_lret {S : Type} {post : Int64 → S → Prop} {w1 : S → va_W} (u : S) {v : Int64} (hexec : p.tables.exec = Jvm.exec) (hb : c.code = cc) (hr : meth.sig.returnType = some .long) (hlocks : meth.locks = false) (hS : va_S A s.heap H locs) (hK : va_K D cl tys s) (hP : va_P D cl (w1 u) H) (hD : va_D A (w1 u)) (hdg : decode cc pc = .ok (.lreturn, 1)) (hw : post v u) : W p l e R s m args below meth c H locs cells slots (MQ below (va_Ql post (xx_B D cl tys A w1) A) args s cells slots A) (F0 m pc ls [.long v]) :=
  W.lret hexec hb hr (fun t ht hW => ⟨⟨v, u, rfl, hw, by rw [ht]; exact hP, va_K.moved hW.alike hK, hD⟩, hS.F ht⟩) hS.2.2 hdg hlocks
theorem xx_vret {S : Type} {post : S → Prop} {w1 : S → va_W} (u : S) (hexec : p.tables.exec = Jvm.exec) (hb : c.code = cc) (hr : meth.sig.returnType = none) (hlocks : meth.locks = false) (hS : va_S A s.heap H locs) (hK : va_K D cl tys s) (hP : va_P D cl (w1 u) H) (hD : va_D A (w1 u)) (hdg : decode cc pc = .ok (.return_, 1)) (hw : post u) : W p l e R s m args below meth c H locs cells slots (MQ below (va_Qv post (xx_B D cl tys A w1) A) args s cells slots A) (F0 m pc ls []) :=
  W.vret hexec hb hr (fun t ht hW => ⟨⟨u, rfl, hw, by rw [ht]; exact hP, va_K.moved hW.alike hK, hD⟩, hS.F ht⟩) hS.2.2 hdg hlocks
end XXR
/-- a boolean answer -/
def xb (r : Int32) (P : Prop) : Prop := (r = 1 ∧ P) ∨ (r = 0 ∧ ¬ P)
theorem xb_t {P : Prop} (h : P) : xb 1 P := Or.inl ⟨rfl, h⟩
theorem xb_f {P : Prop} (h : ¬ P) : xb 0 P := Or.inr ⟨rfl, h⟩
theorem xb_eq {r r' : Int32} {P P' : Prop} (h : xb r P) (h' : xb r' P') (e : P ↔ P') : r = r' := by
  rcases h with ⟨rfl, h⟩ | ⟨rfl, h⟩ <;> rcases h' with ⟨rfl, h'⟩ | ⟨rfl, h'⟩
  · rfl
  · exact absurd (e.mp h) h'
  · exact absurd (e.mpr h') h
  · rfl
/-- a truth value in a cell -/
def bI (b : Bool) : Int32 := if b then 1 else 0
theorem bI_ne {b : Bool} (h : ¬ bI b = 0) : b = true := by cases b <;> simp_all [bI]
theorem bI_eq {b : Bool} (h : bI b = 0) : b = false := by cases b <;> simp_all [bI]
/-- functions changed at one place -/
def xu_N (f : Nat → Nat) (k v : Nat) : Nat → Nat := fun j => if j = k then v else f j
def xu_B (f : Nat → Bool) (k : Nat) (v : Bool) : Nat → Bool := fun j => if j = k then v else f j
theorem xx_updN (f : Nat → Nat) (k v : Nat) : upd (fun i => nI (f i)) k (nI v) = fun i => nI (xu_N f k v i) := by
  funext j; simp only [upd, xu_N]; split <;> rfl
theorem xx_updB (f : Nat → Bool) (k : Nat) (v : Bool) : upd (fun i => bI (f i)) k (bI v) = fun i => bI (xu_B f k v i) := by
  funext j; simp only [upd, xu_B]; split <;> rfl
/-- an index that was looked at -/
theorem xx_ix {x : Int32} {n : Nat} (hn : n < 2 ^ 31) (h0 : ¬ x < 0) (h1 : ¬ nI n ≤ x) : ∃ j, j < n ∧ x = nI j := by
  rcases pk_ix x hn with h | h | h
  · exact absurd h h0
  · exact absurd h h1
  · exact h
theorem xx_ix2 {x : Int32} {n : Nat} (hn : n < 2 ^ 31) (h0 : ¬ x < 0) (h1 : x < nI n) : ∃ j, j < n ∧ x = nI j := xx_ix hn h0 (fun h => absurd (Int32.lt_of_lt_of_le h1 h) (Int32.lt_irrefl))
theorem xx_nix {x : Int32} {n : Nat} (hn : n < 2 ^ 31) (h : x < 0 ∨ nI n ≤ x) : ¬ ∃ j, j < n ∧ x = nI j := by
  rintro ⟨j, hj, rfl⟩
  rcases h with h | h
  · exact nI_pos (Nat.lt_trans hj hn) h
  · exact nI_ge hj hn h
end
section
/-! pure rows: indices, counts, loops' steps -/
def ixN (n : Nat) (x : Int32) : Prop := ∃ j, j < n ∧ x = nI j
theorem xx_ngt {x : Int32} {n : Nat} (hn : n + 1 < 2 ^ 31) (h : nI n < x) : ¬ ixN (n + 1) x := by
  rintro ⟨j, hj, rfl⟩
  have := (nI_ltI (by omega) (by omega)).mp h
  omega
theorem xx_ile {x : Int32} {n : Nat} (hn : n + 1 < 2 ^ 31) (h0 : ¬ x < 0) (h1 : ¬ nI n < x) : ixN (n + 1) x := by
  obtain ⟨j, hj, rfl⟩ := nI_of h0
  have h2 : ¬ n < j := fun z => h1 ((nI_ltI (by omega) hj).mpr z)
  exact ⟨j, by omega, rfl⟩
theorem xx_none {n : Nat} {x : Int32} {P : Nat → Prop} (h : ¬ ixN n x) : ¬ ∃ j, j < n ∧ x = nI j ∧ P j := fun ⟨j, a, b, _⟩ => h ⟨j, a, b⟩
theorem xx_none4 {n : Nat} {x : Int32} {P Q : Nat → Prop} (h : ¬ ∃ j, j < n ∧ x = nI j ∧ P j) : ¬ ∃ j, j < n ∧ x = nI j ∧ (P j ∧ Q j) := fun ⟨j, a, b, d, _⟩ => h ⟨j, a, b, d⟩
theorem xx_one {n j : Nat} {P : Nat → Prop} (hn : n < 2 ^ 31) (hj : j < n) (h : ¬ P j) : ¬ ∃ i, i < n ∧ nI j = nI i ∧ P i := by
  rintro ⟨i, hi, e, hp⟩
  have := (nI_eq (by omega) (by omega)).mp e
  subst this
  exact h hp
theorem xx_nlt {x y : Int32} (h : y ≤ x) : ¬ x < y := by
  rw [Int32.lt_iff_toInt_lt]; rw [Int32.le_iff_toInt_le] at h; omega
theorem xx_nle {x y : Int32} (h : ¬ x < y) : y ≤ x := by
  rw [Int32.lt_iff_toInt_lt] at h; rw [Int32.le_iff_toInt_le]; omega
theorem xx_m1 {j : Nat} (h : j < 2 ^ 31) : ¬ (-1 : Int32) = nI j := by
  intro e
  have e2 := congrArg Int32.toInt e
  rw [nI_toInt h] at e2
  have e3 : (-1 : Int32).toInt = -1 := by decide
  omega
theorem xx_nm1 {j : Nat} (h : j < 2 ^ 31) : ¬ nI j = (-1 : Int32) := fun e => xx_m1 h e.symm
theorem bI_nar (b : Bool) : narrow .boolean (.int (bI b)) = .int (bI b) := by cases b <;> rfl
theorem bI_fit (b : Bool) : fits .boolean (.int (bI b)) = true := by cases b <;> rfl
/-- the step of the sum, for the byte at a shift -/
def xs_mix (x w : Int64) (sh : Nat) : Int64 := (((x ^^^ ((w.toUInt64 >>> ((nI sh).toInt64.toUInt64 &&& Int64.toUInt64 63)).toInt64 &&& 255)) <<< ((nI 11).toInt64 &&& 63)) ||| ((x ^^^ ((w.toUInt64 >>> ((nI sh).toInt64.toUInt64 &&& Int64.toUInt64 63)).toInt64 &&& 255)).toUInt64 >>> ((nI 53).toInt64.toUInt64 &&& Int64.toUInt64 63)).toInt64) * (-7046029254386353131)
def xs_word (x w : Int64) : Int64 := xs_mix (xs_mix (xs_mix (xs_mix (xs_mix (xs_mix (xs_mix (xs_mix x w 56) w 48) w 40) w 32) w 24) w 16) w 8) w 0
def xs_sum (x a d : Int64) : Int64 := xs_word (xs_word x a) d
/-- how many below n -/
def xcnt (P : Nat → Bool) : Nat → Nat
  | 0 => 0
  | n + 1 => xcnt P n + (if P n then 1 else 0)
theorem xcnt_no {P : Nat → Bool} {i : Nat} (h : P i = false) : xcnt P (i + 1) = xcnt P i := by simp [xcnt, h]
theorem xcnt_yes {P : Nat → Bool} {i : Nat} (h : P i = true) : xcnt P (i + 1) = xcnt P i + 1 := by simp [xcnt, h]
/-- dropped ones, once those of writer w below i are dropped too -/
def xd_drop (ew : Nat → Nat) (ex : Nat → Bool) (w i : Nat) : Nat → Bool := fun j => ex j || (decide (j < i) && decide (ew j = w))
theorem xd_zero (ew : Nat → Nat) (ex : Nat → Bool) (w : Nat) : xd_drop ew ex w 0 = ex := by
  funext j; simp [xd_drop]
theorem xd_self (ew : Nat → Nat) (ex : Nat → Bool) (w i : Nat) : xd_drop ew ex w i i = ex i := by simp [xd_drop]
theorem xd_skip {ew : Nat → Nat} {ex : Nat → Bool} {w i : Nat} (h : ¬ ew i = w) : xd_drop ew ex w (i + 1) = xd_drop ew ex w i := by
  funext j
  by_cases hj : j = i
  · subst hj; simp [xd_drop, h]
  · have : (j < i + 1) = (j < i) := propext ⟨fun z => by omega, fun z => by omega⟩
    simp only [xd_drop, this]
theorem xd_skip2 {ew : Nat → Nat} {ex : Nat → Bool} {w i : Nat} (h : ex i = true) : xd_drop ew ex w (i + 1) = xd_drop ew ex w i := by
  funext j
  by_cases hj : j = i
  · subst hj; simp [xd_drop, h]
  · have : (j < i + 1) = (j < i) := propext ⟨fun z => by omega, fun z => by omega⟩
    simp only [xd_drop, this]
theorem xd_put {ew : Nat → Nat} {ex : Nat → Bool} {w i : Nat} (h : ew i = w) : xu_B (xd_drop ew ex w i) i true = xd_drop ew ex w (i + 1) := by
  funext j
  by_cases hj : j = i
  · subst hj; simp [xu_B, xd_drop, h]
  · have : (j < i + 1) = (j < i) := propext ⟨fun z => by omega, fun z => by omega⟩
    simp only [xu_B, if_neg hj, xd_drop, this]
/-- the writers seen, a bit each -/
def xs_seen (P : Nat → Bool) (ew : Nat → Nat) : Nat → Int32
  | 0 => nI 0
  | i + 1 => if P i then xs_seen P ew i ||| (nI 1 <<< (nI (ew i) &&& 31)) else xs_seen P ew i
theorem xs_seen_yes {P : Nat → Bool} {ew : Nat → Nat} {i : Nat} (h : P i = true) : xs_seen P ew (i + 1) = xs_seen P ew i ||| (nI 1 <<< (nI (ew i) &&& 31)) := by simp [xs_seen, h]
theorem xs_seen_no {P : Nat → Bool} {ew : Nat → Nat} {i : Nat} (h : P i = false) : xs_seen P ew (i + 1) = xs_seen P ew i := by simp [xs_seen, h]
/-- how much of target and branch a rule names -/
def xs_rank (t b : Int32) : Nat := (if t = (-1) then 0 else 2) + (if b = (-1) then 0 else 1)
theorem xs_rank_le (t b : Int32) : xs_rank t b ≤ 3 := by unfold xs_rank; split <;> split <;> omega
/-- the latest own one: a loop's steps -/
def xl_I (O : Nat → Prop) (et : Nat → Int64) (i : Nat) (b5 : Int32) (t6 : Int64) : Prop := (b5 = (-1) ∧ ∀ j, j < i → ¬ O j) ∨ (∃ b, b5 = nI b ∧ t6 = et b ∧ b < i ∧ O b ∧ ∀ j, j < i → O j → ¬ (et b < et j) ∧ (b < j → et j < et b))
theorem xl_skip {O : Nat → Prop} {et : Nat → Int64} {i : Nat} {b5 : Int32} {t6 : Int64} (h : xl_I O et i b5 t6) (hn : ¬ O i) : xl_I O et (i + 1) b5 t6 := by
  rcases h with ⟨h1, h2⟩ | ⟨b, h1, h2, h3, h4, h5⟩
  · exact Or.inl ⟨h1, fun j hj hO => by
      rcases Nat.lt_or_ge j i with z | z
      · exact h2 j z hO
      · obtain rfl : j = i := by omega
        exact hn hO⟩
  · exact Or.inr ⟨b, h1, h2, by omega, h4, fun j hj hO => by
      rcases Nat.lt_or_ge j i with z | z
      · exact h5 j z hO
      · obtain rfl : j = i := by omega
        exact absurd hO hn⟩
theorem xl_new {O : Nat → Prop} {et : Nat → Int64} {i : Nat} {b5 : Int32} {t6 : Int64} (hi : i < 2 ^ 31) (h : xl_I O et i b5 t6) (hO : O i) (hc : b5 = (-1) ∨ ¬ et i < t6) : xl_I O et (i + 1) (nI i) (et i) := by
  refine Or.inr ⟨i, rfl, rfl, by omega, hO, fun j hj hOj => ?_⟩
  rcases Nat.lt_or_ge j i with z | z
  · refine ⟨?_, fun q => absurd q (by omega)⟩
    rcases h with ⟨h1, h2⟩ | ⟨b, h1, h2, h3, h4, h5⟩
    · exact absurd hOj (h2 j z)
    · rcases hc with hc | hc
      · exact absurd (hc.symm.trans h1) (xx_m1 (by omega))
      · have := (h5 j z hOj).1
        rw [h2] at hc
        rw [Int64.lt_iff_toInt_lt] at *
        omega
  · obtain rfl : j = i := by omega
    exact ⟨by rw [Int64.lt_iff_toInt_lt]; omega, fun q => absurd q (by omega)⟩
theorem xl_old {O : Nat → Prop} {et : Nat → Int64} {i : Nat} {b5 : Int32} {t6 : Int64} (h : xl_I O et i b5 t6) (hO : O i) (hb : ¬ b5 = (-1)) (hc : et i < t6) : xl_I O et (i + 1) b5 t6 := by
  rcases h with ⟨h1, h2⟩ | ⟨b, h1, h2, h3, h4, h5⟩
  · exact absurd h1 hb
  · refine Or.inr ⟨b, h1, h2, by omega, h4, fun j hj hOj => ?_⟩
    rcases Nat.lt_or_ge j i with z | z
    · exact h5 j z hOj
    · obtain rfl : j = i := by omega
      rw [h2] at hc
      exact ⟨by rw [Int64.lt_iff_toInt_lt] at *; omega, fun _ => hc⟩
/-- the rule that goes ahead: a loop's steps -/
def xq_I (O : Nat → Prop) (R : Nat → Nat) (i : Nat) (b3 : Int32) (m : Nat) : Prop := (b3 = (-1) ∧ m = 0 ∧ ∀ j, j < i → ¬ O j) ∨ (∃ q, b3 = nI q ∧ m = R q ∧ q < i ∧ O q ∧ ∀ j, j < i → O j → R j ≤ R q ∧ (q < j → R j < R q))
theorem xq_skip {O : Nat → Prop} {R : Nat → Nat} {i m : Nat} {b3 : Int32} (h : xq_I O R i b3 m) (hn : ¬ O i) : xq_I O R (i + 1) b3 m := by
  rcases h with ⟨h1, h0, h2⟩ | ⟨b, h1, h2, h3, h4, h5⟩
  · exact Or.inl ⟨h1, h0, fun j hj hO => by
      rcases Nat.lt_or_ge j i with z | z
      · exact h2 j z hO
      · obtain rfl : j = i := by omega
        exact hn hO⟩
  · exact Or.inr ⟨b, h1, h2, by omega, h4, fun j hj hO => by
      rcases Nat.lt_or_ge j i with z | z
      · exact h5 j z hO
      · obtain rfl : j = i := by omega
        exact absurd hO hn⟩
theorem xq_new {O : Nat → Prop} {R : Nat → Nat} {i m : Nat} {b3 : Int32} (h : xq_I O R i b3 m) (hO : O i) (hc : m ≤ R i) : xq_I O R (i + 1) (nI i) (R i) := by
  refine Or.inr ⟨i, rfl, rfl, by omega, hO, fun j hj hOj => ?_⟩
  rcases Nat.lt_or_ge j i with z | z
  · refine ⟨?_, fun q => absurd q (by omega)⟩
    rcases h with ⟨h1, h0, h2⟩ | ⟨b, h1, h2, h3, h4, h5⟩
    · exact absurd hOj (h2 j z)
    · have := (h5 j z hOj).1
      omega
  · obtain rfl : j = i := by omega
    exact ⟨Nat.le_refl _, fun q => absurd q (by omega)⟩
theorem xq_old {O : Nat → Prop} {R : Nat → Nat} {i m : Nat} {b3 : Int32} (h : xq_I O R i b3 m) (hO : O i) (hc : R i < m) : xq_I O R (i + 1) b3 m := by
  rcases h with ⟨h1, h0, h2⟩ | ⟨b, h1, h2, h3, h4, h5⟩
  · exact absurd hc (by omega)
  · refine Or.inr ⟨b, h1, h2, by omega, h4, fun j hj hOj => ?_⟩
    rcases Nat.lt_or_ge j i with z | z
    · exact h5 j z hOj
    · obtain rfl : j = i := by omega
      exact ⟨by omega, fun _ => by omega⟩
theorem xx_lnle {t : Int64} (h : ¬ (0 ≤ t)) : t < 0 := by
  rw [Int64.le_iff_toInt_le] at h; rw [Int64.lt_iff_toInt_lt]; omega
theorem xx_lnlt {t : Int64} (h : 0 ≤ t) : ¬ t < 0 := by
  rw [Int64.le_iff_toInt_le] at h; rw [Int64.lt_iff_toInt_lt]; omega
def xs_clamp (x : Int32) : Int32 := if nI 1 < (if x < nI 5 then x else nI 5) then (if x < nI 5 then x else nI 5) else nI 1
abbrev xx_at (l : List Nat) : Nat → Nat := fun i => l.getD i 0
/-- the JDK's count of bits, in its own steps -/
def xs_pop1 (i : Int32) : Int32 := i - ((i.toUInt32 >>> ((nI 1).toUInt32 &&& Int32.toUInt32 31)).toInt32 &&& (nI 1431655765))
def xs_pop2 (i : Int32) : Int32 := (i &&& (nI 858993459)) + ((i.toUInt32 >>> ((nI 2).toUInt32 &&& Int32.toUInt32 31)).toInt32 &&& (nI 858993459))
def xs_pop3 (i : Int32) : Int32 := (i + (i.toUInt32 >>> ((nI 4).toUInt32 &&& Int32.toUInt32 31)).toInt32) &&& (nI 252645135)
def xs_pop4 (i : Int32) : Int32 := i + (i.toUInt32 >>> ((nI 8).toUInt32 &&& Int32.toUInt32 31)).toInt32
def xs_pop5 (i : Int32) : Int32 := i + (i.toUInt32 >>> ((nI 16).toUInt32 &&& Int32.toUInt32 31)).toInt32
def xs_pop (i : Int32) : Int32 := xs_pop5 (xs_pop4 (xs_pop3 (xs_pop2 (xs_pop1 i)))) &&& (nI 63)
abbrev bW (k : Nat → ClassId) (ow : Nat → Nat) (wc : Nat) (wl : Nat → Int32) (wb : Nat → Bool) (wk : Nat → Nat) (kk : Nat → Int64) (kf : Nat → Int64) (ku : Nat → Int64) : va_W := [((ow 0), .inr (4, [.ref (ow 1), .ref (ow 2), .ref (ow 3), .ref (ow 4), .ref (ow 5), .ref (ow 6), .int (nI wc)])), ((ow 1), .inl (k 0, 12, .inl wl)), ((ow 2), .inl (k 1, 12, .inl (fun z9 => bI (wb z9)))), ((ow 3), .inl (k 0, 12, .inl (fun z9 => nI (wk z9)))), ((ow 4), .inl (k 2, 48, .inr (.inl kk))), ((ow 5), .inl (k 2, 48, .inr (.inl kf))), ((ow 6), .inl (k 2, 48, .inr (.inl ku)))]
abbrev bE (k : Nat → ClassId) (oe : Nat → Nat) (ec : Nat) (ew : Nat → Nat) (el : Nat → Int32) (ea : Nat → Int64) (ed : Nat → Int64) (et : Nat → Int64) (ex : Nat → Bool) : va_W := [((oe 0), .inr (2, [.ref (oe 1), .ref (oe 2), .ref (oe 3), .ref (oe 4), .ref (oe 5), .ref (oe 6), .int (nI ec)])), ((oe 1), .inl (k 0, 100, .inl (fun z9 => nI (ew z9)))), ((oe 2), .inl (k 0, 100, .inl el)), ((oe 3), .inl (k 2, 100, .inr (.inl ea))), ((oe 4), .inl (k 2, 100, .inr (.inl ed))), ((oe 5), .inl (k 2, 100, .inr (.inl et))), ((oe 6), .inl (k 1, 100, .inl (fun z9 => bI (ex z9))))]
abbrev bC (k : Nat → ClassId) (oc : Nat → Nat) (cc : Nat) (ca : Nat → Int64) (cl : Nat → Int32) (ch : Nat → Int32) : va_W := [((oc 0), .inr (1, [.ref (oc 1), .ref (oc 2), .ref (oc 3), .int (nI cc)])), ((oc 1), .inl (k 2, 50, .inr (.inl ca))), ((oc 2), .inl (k 0, 50, .inl cl)), ((oc 3), .inl (k 0, 50, .inl ch))]
abbrev bU (k : Nat → ClassId) (ou : Nat → Nat) (uc : Nat) (ut : Nat → Int32) (ub : Nat → Int32) (ul : Nat → Int32) (uw : Nat → Int32) : va_W := [((ou 0), .inr (3, [.ref (ou 1), .ref (ou 2), .ref (ou 3), .ref (ou 4), .int (nI uc)])), ((ou 1), .inl (k 0, 20, .inl ut)), ((ou 2), .inl (k 0, 20, .inl ub)), ((ou 3), .inl (k 0, 20, .inl ul)), ((ou 4), .inl (k 0, 20, .inl uw))]
abbrev bA (k : Nat → ClassId) (oa : Nat → Nat) (ac : Nat) (as : Nat → Int32) : va_W := [((oa 0), .inr (0, [.ref (oa 1), .int (nI ac)])), ((oa 1), .inl (k 0, 1000, .inl as))]
abbrev bT (k : Nat → ClassId) (ot : Nat) (tq : Int32) (ow : Nat → Nat) (oe : Nat → Nat) (oc : Nat → Nat) (ou : Nat → Nat) (oa : Nat → Nat) (to : Bool) (tt : Int64) : va_W := [(ot, .inr (5, [.int tq, .ref (ow 0), .ref (oe 0), .ref (oc 0), .ref (ou 0), .ref (oa 0), .int (bI to), .long tt]))]
end
section
theorem dX5_isPlace_0 : decode cX5_isPlace 0 = .ok (.iload_n 0, 1) := by decide +kernel
theorem dX5_isPlace_1 : decode cX5_isPlace 1 = .ok (.ifCond .lt 13, 3) := by decide +kernel
theorem dX5_isPlace_4 : decode cX5_isPlace 4 = .ok (.iload_n 0, 1) := by decide +kernel
theorem dX5_isPlace_5 : decode cX5_isPlace 5 = .ok (.bipush 7, 2) := by decide +kernel
theorem dX5_isPlace_7 : decode cX5_isPlace 7 = .ok (.if_icmp .gt 7, 3) := by decide +kernel
theorem dX5_isPlace_10 : decode cX5_isPlace 10 = .ok (.iconst 1, 1) := by decide +kernel
theorem dX5_isPlace_11 : decode cX5_isPlace 11 = .ok (.goto 4, 3) := by decide +kernel
theorem dX5_isPlace_14 : decode cX5_isPlace 14 = .ok (.iconst 0, 1) := by decide +kernel
theorem dX5_isPlace_15 : decode cX5_isPlace 15 = .ok (.ireturn, 1) := by decide +kernel
theorem dX5_isLevel_0 : decode cX5_isLevel 0 = .ok (.iload_n 0, 1) := by decide +kernel
theorem dX5_isLevel_1 : decode cX5_isLevel 1 = .ok (.ifCond .lt 12, 3) := by decide +kernel
theorem dX5_isLevel_4 : decode cX5_isLevel 4 = .ok (.iload_n 0, 1) := by decide +kernel
theorem dX5_isLevel_5 : decode cX5_isLevel 5 = .ok (.iconst 2, 1) := by decide +kernel
theorem dX5_isLevel_6 : decode cX5_isLevel 6 = .ok (.if_icmp .gt 7, 3) := by decide +kernel
theorem dX5_isLevel_9 : decode cX5_isLevel 9 = .ok (.iconst 1, 1) := by decide +kernel
theorem dX5_isLevel_10 : decode cX5_isLevel 10 = .ok (.goto 4, 3) := by decide +kernel
theorem dX5_isLevel_13 : decode cX5_isLevel 13 = .ok (.iconst 0, 1) := by decide +kernel
theorem dX5_isLevel_14 : decode cX5_isLevel 14 = .ok (.ireturn, 1) := by decide +kernel
theorem dX5_isPlaceOrAny_0 : decode cX5_isPlaceOrAny 0 = .ok (.iload_n 0, 1) := by decide +kernel
theorem dX5_isPlaceOrAny_1 : decode cX5_isPlaceOrAny 1 = .ok (.iconst (-1), 1) := by decide +kernel
theorem dX5_isPlaceOrAny_2 : decode cX5_isPlaceOrAny 2 = .ok (.if_icmp .eq 10, 3) := by decide +kernel
theorem dX5_isPlaceOrAny_5 : decode cX5_isPlaceOrAny 5 = .ok (.iload_n 0, 1) := by decide +kernel
theorem dX5_isPlaceOrAny_6 : decode cX5_isPlaceOrAny 6 = .ok (.invokestatic 112, 3) := by decide +kernel
theorem dX5_isPlaceOrAny_9 : decode cX5_isPlaceOrAny 9 = .ok (.ifCond .eq 7, 3) := by decide +kernel
theorem dX5_isPlaceOrAny_12 : decode cX5_isPlaceOrAny 12 = .ok (.iconst 1, 1) := by decide +kernel
theorem dX5_isPlaceOrAny_13 : decode cX5_isPlaceOrAny 13 = .ok (.goto 4, 3) := by decide +kernel
theorem dX5_isPlaceOrAny_16 : decode cX5_isPlaceOrAny 16 = .ok (.iconst 0, 1) := by decide +kernel
theorem dX5_isPlaceOrAny_17 : decode cX5_isPlaceOrAny 17 = .ok (.ireturn, 1) := by decide +kernel
theorem dX5_mixWord_0 : decode cX5_mixWord 0 = .ok (.lload_n 0, 1) := by decide +kernel
theorem dX5_mixWord_1 : decode cX5_mixWord 1 = .ok (.lstore 4, 2) := by decide +kernel
theorem dX5_mixWord_3 : decode cX5_mixWord 3 = .ok (.bipush 56, 2) := by decide +kernel
theorem dX5_mixWord_5 : decode cX5_mixWord 5 = .ok (.istore 6, 2) := by decide +kernel
theorem dX5_mixWord_7 : decode cX5_mixWord 7 = .ok (.iload 6, 2) := by decide +kernel
theorem dX5_mixWord_9 : decode cX5_mixWord 9 = .ok (.ifCond .lt 39, 3) := by decide +kernel
theorem dX5_mixWord_12 : decode cX5_mixWord 12 = .ok (.lload 4, 2) := by decide +kernel
theorem dX5_mixWord_14 : decode cX5_mixWord 14 = .ok (.lload_n 2, 1) := by decide +kernel
theorem dX5_mixWord_15 : decode cX5_mixWord 15 = .ok (.iload 6, 2) := by decide +kernel
theorem dX5_mixWord_17 : decode cX5_mixWord 17 = .ok (.lushr, 1) := by decide +kernel
theorem dX5_mixWord_18 : decode cX5_mixWord 18 = .ok (.ldc2_w 164, 3) := by decide +kernel
theorem dX5_mixWord_21 : decode cX5_mixWord 21 = .ok (.land, 1) := by decide +kernel
theorem dX5_mixWord_22 : decode cX5_mixWord 22 = .ok (.lxor, 1) := by decide +kernel
theorem dX5_mixWord_23 : decode cX5_mixWord 23 = .ok (.lstore 4, 2) := by decide +kernel
theorem dX5_mixWord_25 : decode cX5_mixWord 25 = .ok (.lload 4, 2) := by decide +kernel
theorem dX5_mixWord_27 : decode cX5_mixWord 27 = .ok (.bipush 11, 2) := by decide +kernel
theorem dX5_mixWord_29 : decode cX5_mixWord 29 = .ok (.lshl, 1) := by decide +kernel
theorem dX5_mixWord_30 : decode cX5_mixWord 30 = .ok (.lload 4, 2) := by decide +kernel
theorem dX5_mixWord_32 : decode cX5_mixWord 32 = .ok (.bipush 53, 2) := by decide +kernel
theorem dX5_mixWord_34 : decode cX5_mixWord 34 = .ok (.lushr, 1) := by decide +kernel
theorem dX5_mixWord_35 : decode cX5_mixWord 35 = .ok (.lor, 1) := by decide +kernel
theorem dX5_mixWord_36 : decode cX5_mixWord 36 = .ok (.ldc2_w 166, 3) := by decide +kernel
theorem dX5_mixWord_39 : decode cX5_mixWord 39 = .ok (.lmul, 1) := by decide +kernel
theorem dX5_mixWord_40 : decode cX5_mixWord 40 = .ok (.lstore 4, 2) := by decide +kernel
theorem dX5_mixWord_42 : decode cX5_mixWord 42 = .ok (.iinc 6 (-8), 3) := by decide +kernel
theorem dX5_mixWord_45 : decode cX5_mixWord 45 = .ok (.goto (-38), 3) := by decide +kernel
theorem dX5_mixWord_48 : decode cX5_mixWord 48 = .ok (.lload 4, 2) := by decide +kernel
theorem dX5_mixWord_50 : decode cX5_mixWord 50 = .ok (.lreturn, 1) := by decide +kernel
theorem dX5_sumUnder_0 : decode cX5_sumUnder 0 = .ok (.lload_n 0, 1) := by decide +kernel
theorem dX5_sumUnder_1 : decode cX5_sumUnder 1 = .ok (.lload_n 2, 1) := by decide +kernel
theorem dX5_sumUnder_2 : decode cX5_sumUnder 2 = .ok (.invokestatic 160, 3) := by decide +kernel
theorem dX5_sumUnder_5 : decode cX5_sumUnder 5 = .ok (.lload 4, 2) := by decide +kernel
theorem dX5_sumUnder_7 : decode cX5_sumUnder 7 = .ok (.invokestatic 160, 3) := by decide +kernel
theorem dX5_sumUnder_10 : decode cX5_sumUnder 10 = .ok (.lreturn, 1) := by decide +kernel
def p_isPlace (x : Int32) : Int32 → Unit → Prop := fun r u => xb r (ixN 8 x)
set_option maxHeartbeats 4000000 in
set_option maxRecDepth 100000 in
theorem c_isPlace (l : Launch) (D : va_G) (k : Nat → ClassId) (x : Int32) : xx_Ci l yX5_isPlace (.code yX5_isPlace cX5_isPlace 1 (some .boolean) :: xall) ({ frames := 0, cells := 0, slots := 0, locals := 0 } : Room) D vwCl (xT k) [.int x] ([]) (p_isPlace x) (fun (u : Unit) => []) 0 0 := by
  intro sz
  refine xx_met (Qf := fun A => va_Qi (p_isPlace x) (xx_B D vwCl (xT k) A (fun (u : Unit) => [])) A) (cc := cX5_isPlace) (maxL := 1) (ret := (some .boolean)) (by decide) rfl (Nat.le_of_ble_eq_true rfl) ?_
  intro p e s m below meth c A ls hx hb hr hts hown hlocks hin hml hA hS hP hD hK hN hl
  have hl : lv_has ls 1 [(0, .int x)] := hl
  have hown : s.vm.findClass RX5 = some m.cls := hown
  refine lv_iload_n hx hb dX5_isPlace_0 rfl (lv_at hl 0 rfl) ?_
  refine lv_if_lt (tgt := 14) hx hb dX5_isPlace_1 (by decide) (fun c1 => ?_) (fun c1 => ?_)
  · refine lv_iconst (v := (nI 0)) hx hb dX5_isPlace_14 (by decide) ?_
    refine xx_zret () hx hb hr hlocks rfl hS hK hP hD dX5_isPlace_15 ?_
    first | exact xb_f (xx_nix (by decide) (Or.inl c1)) | exact xb_f (xx_ngt (by decide) c7) | exact xb_t (xx_ile (by decide) c1 c7)
  · refine lv_iload_n hx hb dX5_isPlace_4 rfl (lv_at hl 0 rfl) ?_
    refine lv_bipush (v := (nI 7)) hx hb dX5_isPlace_5 (by decide) ?_
    refine lv_icmp_gt (tgt := 14) hx hb dX5_isPlace_7 (by decide) (fun c7 => ?_) (fun c7 => ?_)
    · refine lv_iconst (v := (nI 0)) hx hb dX5_isPlace_14 (by decide) ?_
      refine xx_zret () hx hb hr hlocks rfl hS hK hP hD dX5_isPlace_15 ?_
      first | exact xb_f (xx_nix (by decide) (Or.inl c1)) | exact xb_f (xx_ngt (by decide) c7) | exact xb_t (xx_ile (by decide) c1 c7)
    · refine lv_iconst (v := (nI 1)) hx hb dX5_isPlace_10 (by decide) ?_
      refine lv_goto (tgt := 15) hx hb dX5_isPlace_11 (by decide) ?_
      refine xx_zret () hx hb hr hlocks rfl hS hK hP hD dX5_isPlace_15 ?_
      first | exact xb_f (xx_nix (by decide) (Or.inl c1)) | exact xb_f (xx_ngt (by decide) c7) | exact xb_t (xx_ile (by decide) c1 c7)
def p_isLevel (x : Int32) : Int32 → Unit → Prop := fun r u => xb r (ixN 3 x)
set_option maxHeartbeats 4000000 in
set_option maxRecDepth 100000 in
theorem c_isLevel (l : Launch) (D : va_G) (k : Nat → ClassId) (x : Int32) : xx_Ci l yX5_isLevel (.code yX5_isLevel cX5_isLevel 1 (some .boolean) :: xall) ({ frames := 0, cells := 0, slots := 0, locals := 0 } : Room) D vwCl (xT k) [.int x] ([]) (p_isLevel x) (fun (u : Unit) => []) 0 0 := by
  intro sz
  refine xx_met (Qf := fun A => va_Qi (p_isLevel x) (xx_B D vwCl (xT k) A (fun (u : Unit) => [])) A) (cc := cX5_isLevel) (maxL := 1) (ret := (some .boolean)) (by decide) rfl (Nat.le_of_ble_eq_true rfl) ?_
  intro p e s m below meth c A ls hx hb hr hts hown hlocks hin hml hA hS hP hD hK hN hl
  have hl : lv_has ls 1 [(0, .int x)] := hl
  have hown : s.vm.findClass RX5 = some m.cls := hown
  refine lv_iload_n hx hb dX5_isLevel_0 rfl (lv_at hl 0 rfl) ?_
  refine lv_if_lt (tgt := 13) hx hb dX5_isLevel_1 (by decide) (fun c1 => ?_) (fun c1 => ?_)
  · refine lv_iconst (v := (nI 0)) hx hb dX5_isLevel_13 (by decide) ?_
    refine xx_zret () hx hb hr hlocks rfl hS hK hP hD dX5_isLevel_14 ?_
    first | exact xb_f (xx_nix (by decide) (Or.inl c1)) | exact xb_f (xx_ngt (by decide) c6) | exact xb_t (xx_ile (by decide) c1 c6)
  · refine lv_iload_n hx hb dX5_isLevel_4 rfl (lv_at hl 0 rfl) ?_
    refine lv_iconst (v := (nI 2)) hx hb dX5_isLevel_5 (by decide) ?_
    refine lv_icmp_gt (tgt := 13) hx hb dX5_isLevel_6 (by decide) (fun c6 => ?_) (fun c6 => ?_)
    · refine lv_iconst (v := (nI 0)) hx hb dX5_isLevel_13 (by decide) ?_
      refine xx_zret () hx hb hr hlocks rfl hS hK hP hD dX5_isLevel_14 ?_
      first | exact xb_f (xx_nix (by decide) (Or.inl c1)) | exact xb_f (xx_ngt (by decide) c6) | exact xb_t (xx_ile (by decide) c1 c6)
    · refine lv_iconst (v := (nI 1)) hx hb dX5_isLevel_9 (by decide) ?_
      refine lv_goto (tgt := 14) hx hb dX5_isLevel_10 (by decide) ?_
      refine xx_zret () hx hb hr hlocks rfl hS hK hP hD dX5_isLevel_14 ?_
      first | exact xb_f (xx_nix (by decide) (Or.inl c1)) | exact xb_f (xx_ngt (by decide) c6) | exact xb_t (xx_ile (by decide) c1 c6)
def p_isAny (x : Int32) : Int32 → Unit → Prop := fun r u => xb r (x = (-1) ∨ ixN 8 x)
set_option maxHeartbeats 4000000 in
set_option maxRecDepth 100000 in
theorem c_isAny (l : Launch) (D : va_G) (k : Nat → ClassId) (x : Int32) : xx_Ci l yX5_isPlaceOrAny (.code yX5_isPlaceOrAny cX5_isPlaceOrAny 1 (some .boolean) :: xall) ({ frames := 1, cells := 0, slots := 0, locals := 20 } : Room) D vwCl (xT k) [.int x] ([]) (p_isAny x) (fun (u : Unit) => []) 0 0 := by
  intro sz
  refine xx_met (Qf := fun A => va_Qi (p_isAny x) (xx_B D vwCl (xT k) A (fun (u : Unit) => [])) A) (cc := cX5_isPlaceOrAny) (maxL := 1) (ret := (some .boolean)) (by decide) rfl (Nat.le_of_ble_eq_true rfl) ?_
  intro p e s m below meth c A ls hx hb hr hts hown hlocks hin hml hA hS hP hD hK hN hl
  have hl : lv_has ls 1 [(0, .int x)] := hl
  have hown : s.vm.findClass RX5 = some m.cls := hown
  refine lv_iload_n hx hb dX5_isPlaceOrAny_0 rfl (lv_at hl 0 rfl) ?_
  refine lv_iconst (v := (-1)) hx hb dX5_isPlaceOrAny_1 (by decide) ?_
  refine lv_icmp_eq (tgt := 12) hx hb dX5_isPlaceOrAny_2 (by decide) (fun c2 => ?_) (fun c2 => ?_)
  · refine lv_iconst (v := (nI 1)) hx hb dX5_isPlaceOrAny_12 (by decide) ?_
    refine lv_goto (tgt := 17) hx hb dX5_isPlaceOrAny_13 (by decide) ?_
    refine xx_zret () hx hb hr hlocks rfl hS hK hP hD dX5_isPlaceOrAny_17 ?_
    first | exact xb_t (Or.inl c2) | exact xb_t (Or.inr hq6) | exact xb_f (fun h => h.elim c2 hq6)
  · refine lv_iload_n hx hb dX5_isPlaceOrAny_5 rfl (lv_at hl 0 rfl) ?_
    refine xx_calli ([]) [] [] (va_runS (As := [.int x]) (rest := []) ⟨hx, hb, hml, hown, hts⟩ (c_isPlace l D k x s.heap.size) (va_cwS 1 hts (xx_gS tw_271 tw_272 tw_1 tw_273) rfl rfl rfl (by decide +kernel) ⟨Nat.le_of_ble_eq_true rfl, Nat.le_of_ble_eq_true rfl⟩) (xx_preS hK hN hP hD [] (by decide) rfl) rfl rfl hl.1 rfl (lv_room (Nat.le_of_ble_eq_true rfl)) dX5_isPlaceOrAny_6 ⟨Nat.le_of_ble_eq_true rfl, Nat.le_of_ble_eq_true rfl⟩) hP hD hS hA rfl rfl (by decide) (by decide) (fun r6 u6 H locs hw6 hP hD hS => ?_)
    rcases hw6 with ⟨rfl, hq6⟩ | ⟨rfl, hq6⟩
    · have hP : va_P D vwCl ([]) H := hP
      have hD : va_D A ([]) := hD
      refine lv_if_eq (tgt := 16) hx hb dX5_isPlaceOrAny_9 (by decide) (fun c => absurd c (by decide)) (fun _ => ?_)
      refine lv_iconst (v := (nI 1)) hx hb dX5_isPlaceOrAny_12 (by decide) ?_
      refine lv_goto (tgt := 17) hx hb dX5_isPlaceOrAny_13 (by decide) ?_
      refine xx_zret () hx hb hr hlocks rfl hS hK hP hD dX5_isPlaceOrAny_17 ?_
      first | exact xb_t (Or.inl c2) | exact xb_t (Or.inr hq6) | exact xb_f (fun h => h.elim c2 hq6)
    · have hP : va_P D vwCl ([]) H := hP
      have hD : va_D A ([]) := hD
      refine lv_if_eq (tgt := 16) hx hb dX5_isPlaceOrAny_9 (by decide) (fun _ => ?_) (fun c => absurd c (by decide))
      refine lv_iconst (v := (nI 0)) hx hb dX5_isPlaceOrAny_16 (by decide) ?_
      refine xx_zret () hx hb hr hlocks rfl hS hK hP hD dX5_isPlaceOrAny_17 ?_
      first | exact xb_t (Or.inl c2) | exact xb_t (Or.inr hq6) | exact xb_f (fun h => h.elim c2 hq6)
def p_mixWord (x : Int64) (w : Int64) : Int64 → Unit → Prop := fun r u => r = xs_word x w
set_option maxHeartbeats 4000000 in
set_option maxRecDepth 100000 in
theorem c_mixWord (l : Launch) (D : va_G) (k : Nat → ClassId) (x : Int64) (w : Int64) : xx_Cl l yX5_mixWord (.code yX5_mixWord cX5_mixWord 7 (some .long) :: xall) ({ frames := 0, cells := 0, slots := 0, locals := 0 } : Room) D vwCl (xT k) [.long x, .long w] ([]) (p_mixWord x w) (fun (u : Unit) => []) 0 0 := by
  intro sz
  refine xx_met (Qf := fun A => va_Ql (p_mixWord x w) (xx_B D vwCl (xT k) A (fun (u : Unit) => [])) A) (cc := cX5_mixWord) (maxL := 7) (ret := (some .long)) (by decide) rfl (Nat.le_of_ble_eq_true rfl) ?_
  intro p e s m below meth c A ls hx hb hr hts hown hlocks hin hml hA hS hP hD hK hN hl
  have hl : lv_has ls 7 [(0, .long x), (2, .long w)] := hl
  have hown : s.vm.findClass RX5 = some m.cls := hown
  refine lv_lload_n hx hb dX5_mixWord_0 rfl (lv_at hl 0 rfl) ?_
  refine lv_lstore (lv' := [(4, .long x), (0, .long x), (2, .long w)]) hx hb dX5_mixWord_1 hl (by decide) rfl (fun ls hl => ?_)
  refine lv_bipush (v := (nI 56)) hx hb dX5_mixWord_3 (by decide) ?_
  refine lv_istore (lv' := [(6, .int (nI 56)), (4, .long x), (0, .long x), (2, .long w)]) hx hb dX5_mixWord_5 hl (by decide) rfl (fun ls hl => ?_)
  refine lv_iload hx hb dX5_mixWord_7 (lv_at hl 0 rfl) ?_
  refine lv_if_lt (tgt := 48) hx hb dX5_mixWord_9 (by decide) (fun c => absurd c (by decide)) (fun _ => ?_)
  refine lv_lload hx hb dX5_mixWord_12 (lv_at hl 1 rfl) ?_
  refine lv_lload_n hx hb dX5_mixWord_14 rfl (lv_at hl 3 rfl) ?_
  refine lv_iload hx hb dX5_mixWord_15 (lv_at hl 0 rfl) ?_
  refine lv_lushr (v := (w.toUInt64 >>> ((nI 56).toInt64.toUInt64 &&& Int64.toUInt64 63)).toInt64) hx hb dX5_mixWord_17 rfl ?_
  refine lv_ldc2 (v := 255) hx hb hown (hts _ tw_199) dX5_mixWord_18 ?_
  refine lv_land hx hb dX5_mixWord_21 ?_
  refine lv_lxor hx hb dX5_mixWord_22 ?_
  refine lv_lstore (lv' := [(4, .long (x ^^^ (((w.toUInt64 >>> ((nI 56).toInt64.toUInt64 &&& Int64.toUInt64 63)).toInt64) &&& 255))), (6, .int (nI 56)), (0, .long x), (2, .long w)]) hx hb dX5_mixWord_23 hl (by decide) rfl (fun ls hl => ?_)
  refine lv_lload hx hb dX5_mixWord_25 (lv_at hl 0 rfl) ?_
  refine lv_bipush (v := (nI 11)) hx hb dX5_mixWord_27 (by decide) ?_
  refine lv_lshl (v := (x ^^^ (((w.toUInt64 >>> ((nI 56).toInt64.toUInt64 &&& Int64.toUInt64 63)).toInt64) &&& 255)) <<< ((nI 11).toInt64 &&& 63)) hx hb dX5_mixWord_29 rfl ?_
  refine lv_lload hx hb dX5_mixWord_30 (lv_at hl 0 rfl) ?_
  refine lv_bipush (v := (nI 53)) hx hb dX5_mixWord_32 (by decide) ?_
  refine lv_lushr (v := ((x ^^^ (((w.toUInt64 >>> ((nI 56).toInt64.toUInt64 &&& Int64.toUInt64 63)).toInt64) &&& 255)).toUInt64 >>> ((nI 53).toInt64.toUInt64 &&& Int64.toUInt64 63)).toInt64) hx hb dX5_mixWord_34 rfl ?_
  refine lv_lor hx hb dX5_mixWord_35 ?_
  refine lv_ldc2 (v := (-7046029254386353131)) hx hb hown (hts _ tw_200) dX5_mixWord_36 ?_
  refine lv_lmul hx hb dX5_mixWord_39 ?_
  refine xx_topl (y := (xs_mix x w 56)) rfl ?_
  refine lv_topl (fun x56 ex56 => ?_)
  refine lv_lstore (lv' := [(4, .long x56), (6, .int (nI 56)), (0, .long x), (2, .long w)]) hx hb dX5_mixWord_40 hl (by decide) rfl (fun ls hl => ?_)
  refine lv_iinc (v := (nI 48)) (lv' := [(6, .int (nI 48)), (4, .long x56), (0, .long x), (2, .long w)]) hx hb dX5_mixWord_42 hl (k := 1) rfl (by decide) (by decide) rfl (fun ls hl => ?_)
  refine lv_goto (tgt := 7) hx hb dX5_mixWord_45 (by decide) ?_
  refine lv_iload hx hb dX5_mixWord_7 (lv_at hl 0 rfl) ?_
  refine lv_if_lt (tgt := 48) hx hb dX5_mixWord_9 (by decide) (fun c => absurd c (by decide)) (fun _ => ?_)
  refine lv_lload hx hb dX5_mixWord_12 (lv_at hl 1 rfl) ?_
  refine lv_lload_n hx hb dX5_mixWord_14 rfl (lv_at hl 3 rfl) ?_
  refine lv_iload hx hb dX5_mixWord_15 (lv_at hl 0 rfl) ?_
  refine lv_lushr (v := (w.toUInt64 >>> ((nI 48).toInt64.toUInt64 &&& Int64.toUInt64 63)).toInt64) hx hb dX5_mixWord_17 rfl ?_
  refine lv_ldc2 (v := 255) hx hb hown (hts _ tw_199) dX5_mixWord_18 ?_
  refine lv_land hx hb dX5_mixWord_21 ?_
  refine lv_lxor hx hb dX5_mixWord_22 ?_
  refine lv_lstore (lv' := [(4, .long (x56 ^^^ (((w.toUInt64 >>> ((nI 48).toInt64.toUInt64 &&& Int64.toUInt64 63)).toInt64) &&& 255))), (6, .int (nI 48)), (0, .long x), (2, .long w)]) hx hb dX5_mixWord_23 hl (by decide) rfl (fun ls hl => ?_)
  refine lv_lload hx hb dX5_mixWord_25 (lv_at hl 0 rfl) ?_
  refine lv_bipush (v := (nI 11)) hx hb dX5_mixWord_27 (by decide) ?_
  refine lv_lshl (v := (x56 ^^^ (((w.toUInt64 >>> ((nI 48).toInt64.toUInt64 &&& Int64.toUInt64 63)).toInt64) &&& 255)) <<< ((nI 11).toInt64 &&& 63)) hx hb dX5_mixWord_29 rfl ?_
  refine lv_lload hx hb dX5_mixWord_30 (lv_at hl 0 rfl) ?_
  refine lv_bipush (v := (nI 53)) hx hb dX5_mixWord_32 (by decide) ?_
  refine lv_lushr (v := ((x56 ^^^ (((w.toUInt64 >>> ((nI 48).toInt64.toUInt64 &&& Int64.toUInt64 63)).toInt64) &&& 255)).toUInt64 >>> ((nI 53).toInt64.toUInt64 &&& Int64.toUInt64 63)).toInt64) hx hb dX5_mixWord_34 rfl ?_
  refine lv_lor hx hb dX5_mixWord_35 ?_
  refine lv_ldc2 (v := (-7046029254386353131)) hx hb hown (hts _ tw_200) dX5_mixWord_36 ?_
  refine lv_lmul hx hb dX5_mixWord_39 ?_
  refine xx_topl (y := (xs_mix x56 w 48)) rfl ?_
  refine lv_topl (fun x48 ex48 => ?_)
  refine lv_lstore (lv' := [(4, .long x48), (6, .int (nI 48)), (0, .long x), (2, .long w)]) hx hb dX5_mixWord_40 hl (by decide) rfl (fun ls hl => ?_)
  refine lv_iinc (v := (nI 40)) (lv' := [(6, .int (nI 40)), (4, .long x48), (0, .long x), (2, .long w)]) hx hb dX5_mixWord_42 hl (k := 1) rfl (by decide) (by decide) rfl (fun ls hl => ?_)
  refine lv_goto (tgt := 7) hx hb dX5_mixWord_45 (by decide) ?_
  refine lv_iload hx hb dX5_mixWord_7 (lv_at hl 0 rfl) ?_
  refine lv_if_lt (tgt := 48) hx hb dX5_mixWord_9 (by decide) (fun c => absurd c (by decide)) (fun _ => ?_)
  refine lv_lload hx hb dX5_mixWord_12 (lv_at hl 1 rfl) ?_
  refine lv_lload_n hx hb dX5_mixWord_14 rfl (lv_at hl 3 rfl) ?_
  refine lv_iload hx hb dX5_mixWord_15 (lv_at hl 0 rfl) ?_
  refine lv_lushr (v := (w.toUInt64 >>> ((nI 40).toInt64.toUInt64 &&& Int64.toUInt64 63)).toInt64) hx hb dX5_mixWord_17 rfl ?_
  refine lv_ldc2 (v := 255) hx hb hown (hts _ tw_199) dX5_mixWord_18 ?_
  refine lv_land hx hb dX5_mixWord_21 ?_
  refine lv_lxor hx hb dX5_mixWord_22 ?_
  refine lv_lstore (lv' := [(4, .long (x48 ^^^ (((w.toUInt64 >>> ((nI 40).toInt64.toUInt64 &&& Int64.toUInt64 63)).toInt64) &&& 255))), (6, .int (nI 40)), (0, .long x), (2, .long w)]) hx hb dX5_mixWord_23 hl (by decide) rfl (fun ls hl => ?_)
  refine lv_lload hx hb dX5_mixWord_25 (lv_at hl 0 rfl) ?_
  refine lv_bipush (v := (nI 11)) hx hb dX5_mixWord_27 (by decide) ?_
  refine lv_lshl (v := (x48 ^^^ (((w.toUInt64 >>> ((nI 40).toInt64.toUInt64 &&& Int64.toUInt64 63)).toInt64) &&& 255)) <<< ((nI 11).toInt64 &&& 63)) hx hb dX5_mixWord_29 rfl ?_
  refine lv_lload hx hb dX5_mixWord_30 (lv_at hl 0 rfl) ?_
  refine lv_bipush (v := (nI 53)) hx hb dX5_mixWord_32 (by decide) ?_
  refine lv_lushr (v := ((x48 ^^^ (((w.toUInt64 >>> ((nI 40).toInt64.toUInt64 &&& Int64.toUInt64 63)).toInt64) &&& 255)).toUInt64 >>> ((nI 53).toInt64.toUInt64 &&& Int64.toUInt64 63)).toInt64) hx hb dX5_mixWord_34 rfl ?_
  refine lv_lor hx hb dX5_mixWord_35 ?_
  refine lv_ldc2 (v := (-7046029254386353131)) hx hb hown (hts _ tw_200) dX5_mixWord_36 ?_
  refine lv_lmul hx hb dX5_mixWord_39 ?_
  refine xx_topl (y := (xs_mix x48 w 40)) rfl ?_
  refine lv_topl (fun x40 ex40 => ?_)
  refine lv_lstore (lv' := [(4, .long x40), (6, .int (nI 40)), (0, .long x), (2, .long w)]) hx hb dX5_mixWord_40 hl (by decide) rfl (fun ls hl => ?_)
  refine lv_iinc (v := (nI 32)) (lv' := [(6, .int (nI 32)), (4, .long x40), (0, .long x), (2, .long w)]) hx hb dX5_mixWord_42 hl (k := 1) rfl (by decide) (by decide) rfl (fun ls hl => ?_)
  refine lv_goto (tgt := 7) hx hb dX5_mixWord_45 (by decide) ?_
  refine lv_iload hx hb dX5_mixWord_7 (lv_at hl 0 rfl) ?_
  refine lv_if_lt (tgt := 48) hx hb dX5_mixWord_9 (by decide) (fun c => absurd c (by decide)) (fun _ => ?_)
  refine lv_lload hx hb dX5_mixWord_12 (lv_at hl 1 rfl) ?_
  refine lv_lload_n hx hb dX5_mixWord_14 rfl (lv_at hl 3 rfl) ?_
  refine lv_iload hx hb dX5_mixWord_15 (lv_at hl 0 rfl) ?_
  refine lv_lushr (v := (w.toUInt64 >>> ((nI 32).toInt64.toUInt64 &&& Int64.toUInt64 63)).toInt64) hx hb dX5_mixWord_17 rfl ?_
  refine lv_ldc2 (v := 255) hx hb hown (hts _ tw_199) dX5_mixWord_18 ?_
  refine lv_land hx hb dX5_mixWord_21 ?_
  refine lv_lxor hx hb dX5_mixWord_22 ?_
  refine lv_lstore (lv' := [(4, .long (x40 ^^^ (((w.toUInt64 >>> ((nI 32).toInt64.toUInt64 &&& Int64.toUInt64 63)).toInt64) &&& 255))), (6, .int (nI 32)), (0, .long x), (2, .long w)]) hx hb dX5_mixWord_23 hl (by decide) rfl (fun ls hl => ?_)
  refine lv_lload hx hb dX5_mixWord_25 (lv_at hl 0 rfl) ?_
  refine lv_bipush (v := (nI 11)) hx hb dX5_mixWord_27 (by decide) ?_
  refine lv_lshl (v := (x40 ^^^ (((w.toUInt64 >>> ((nI 32).toInt64.toUInt64 &&& Int64.toUInt64 63)).toInt64) &&& 255)) <<< ((nI 11).toInt64 &&& 63)) hx hb dX5_mixWord_29 rfl ?_
  refine lv_lload hx hb dX5_mixWord_30 (lv_at hl 0 rfl) ?_
  refine lv_bipush (v := (nI 53)) hx hb dX5_mixWord_32 (by decide) ?_
  refine lv_lushr (v := ((x40 ^^^ (((w.toUInt64 >>> ((nI 32).toInt64.toUInt64 &&& Int64.toUInt64 63)).toInt64) &&& 255)).toUInt64 >>> ((nI 53).toInt64.toUInt64 &&& Int64.toUInt64 63)).toInt64) hx hb dX5_mixWord_34 rfl ?_
  refine lv_lor hx hb dX5_mixWord_35 ?_
  refine lv_ldc2 (v := (-7046029254386353131)) hx hb hown (hts _ tw_200) dX5_mixWord_36 ?_
  refine lv_lmul hx hb dX5_mixWord_39 ?_
  refine xx_topl (y := (xs_mix x40 w 32)) rfl ?_
  refine lv_topl (fun x32 ex32 => ?_)
  refine lv_lstore (lv' := [(4, .long x32), (6, .int (nI 32)), (0, .long x), (2, .long w)]) hx hb dX5_mixWord_40 hl (by decide) rfl (fun ls hl => ?_)
  refine lv_iinc (v := (nI 24)) (lv' := [(6, .int (nI 24)), (4, .long x32), (0, .long x), (2, .long w)]) hx hb dX5_mixWord_42 hl (k := 1) rfl (by decide) (by decide) rfl (fun ls hl => ?_)
  refine lv_goto (tgt := 7) hx hb dX5_mixWord_45 (by decide) ?_
  refine lv_iload hx hb dX5_mixWord_7 (lv_at hl 0 rfl) ?_
  refine lv_if_lt (tgt := 48) hx hb dX5_mixWord_9 (by decide) (fun c => absurd c (by decide)) (fun _ => ?_)
  refine lv_lload hx hb dX5_mixWord_12 (lv_at hl 1 rfl) ?_
  refine lv_lload_n hx hb dX5_mixWord_14 rfl (lv_at hl 3 rfl) ?_
  refine lv_iload hx hb dX5_mixWord_15 (lv_at hl 0 rfl) ?_
  refine lv_lushr (v := (w.toUInt64 >>> ((nI 24).toInt64.toUInt64 &&& Int64.toUInt64 63)).toInt64) hx hb dX5_mixWord_17 rfl ?_
  refine lv_ldc2 (v := 255) hx hb hown (hts _ tw_199) dX5_mixWord_18 ?_
  refine lv_land hx hb dX5_mixWord_21 ?_
  refine lv_lxor hx hb dX5_mixWord_22 ?_
  refine lv_lstore (lv' := [(4, .long (x32 ^^^ (((w.toUInt64 >>> ((nI 24).toInt64.toUInt64 &&& Int64.toUInt64 63)).toInt64) &&& 255))), (6, .int (nI 24)), (0, .long x), (2, .long w)]) hx hb dX5_mixWord_23 hl (by decide) rfl (fun ls hl => ?_)
  refine lv_lload hx hb dX5_mixWord_25 (lv_at hl 0 rfl) ?_
  refine lv_bipush (v := (nI 11)) hx hb dX5_mixWord_27 (by decide) ?_
  refine lv_lshl (v := (x32 ^^^ (((w.toUInt64 >>> ((nI 24).toInt64.toUInt64 &&& Int64.toUInt64 63)).toInt64) &&& 255)) <<< ((nI 11).toInt64 &&& 63)) hx hb dX5_mixWord_29 rfl ?_
  refine lv_lload hx hb dX5_mixWord_30 (lv_at hl 0 rfl) ?_
  refine lv_bipush (v := (nI 53)) hx hb dX5_mixWord_32 (by decide) ?_
  refine lv_lushr (v := ((x32 ^^^ (((w.toUInt64 >>> ((nI 24).toInt64.toUInt64 &&& Int64.toUInt64 63)).toInt64) &&& 255)).toUInt64 >>> ((nI 53).toInt64.toUInt64 &&& Int64.toUInt64 63)).toInt64) hx hb dX5_mixWord_34 rfl ?_
  refine lv_lor hx hb dX5_mixWord_35 ?_
  refine lv_ldc2 (v := (-7046029254386353131)) hx hb hown (hts _ tw_200) dX5_mixWord_36 ?_
  refine lv_lmul hx hb dX5_mixWord_39 ?_
  refine xx_topl (y := (xs_mix x32 w 24)) rfl ?_
  refine lv_topl (fun x24 ex24 => ?_)
  refine lv_lstore (lv' := [(4, .long x24), (6, .int (nI 24)), (0, .long x), (2, .long w)]) hx hb dX5_mixWord_40 hl (by decide) rfl (fun ls hl => ?_)
  refine lv_iinc (v := (nI 16)) (lv' := [(6, .int (nI 16)), (4, .long x24), (0, .long x), (2, .long w)]) hx hb dX5_mixWord_42 hl (k := 1) rfl (by decide) (by decide) rfl (fun ls hl => ?_)
  refine lv_goto (tgt := 7) hx hb dX5_mixWord_45 (by decide) ?_
  refine lv_iload hx hb dX5_mixWord_7 (lv_at hl 0 rfl) ?_
  refine lv_if_lt (tgt := 48) hx hb dX5_mixWord_9 (by decide) (fun c => absurd c (by decide)) (fun _ => ?_)
  refine lv_lload hx hb dX5_mixWord_12 (lv_at hl 1 rfl) ?_
  refine lv_lload_n hx hb dX5_mixWord_14 rfl (lv_at hl 3 rfl) ?_
  refine lv_iload hx hb dX5_mixWord_15 (lv_at hl 0 rfl) ?_
  refine lv_lushr (v := (w.toUInt64 >>> ((nI 16).toInt64.toUInt64 &&& Int64.toUInt64 63)).toInt64) hx hb dX5_mixWord_17 rfl ?_
  refine lv_ldc2 (v := 255) hx hb hown (hts _ tw_199) dX5_mixWord_18 ?_
  refine lv_land hx hb dX5_mixWord_21 ?_
  refine lv_lxor hx hb dX5_mixWord_22 ?_
  refine lv_lstore (lv' := [(4, .long (x24 ^^^ (((w.toUInt64 >>> ((nI 16).toInt64.toUInt64 &&& Int64.toUInt64 63)).toInt64) &&& 255))), (6, .int (nI 16)), (0, .long x), (2, .long w)]) hx hb dX5_mixWord_23 hl (by decide) rfl (fun ls hl => ?_)
  refine lv_lload hx hb dX5_mixWord_25 (lv_at hl 0 rfl) ?_
  refine lv_bipush (v := (nI 11)) hx hb dX5_mixWord_27 (by decide) ?_
  refine lv_lshl (v := (x24 ^^^ (((w.toUInt64 >>> ((nI 16).toInt64.toUInt64 &&& Int64.toUInt64 63)).toInt64) &&& 255)) <<< ((nI 11).toInt64 &&& 63)) hx hb dX5_mixWord_29 rfl ?_
  refine lv_lload hx hb dX5_mixWord_30 (lv_at hl 0 rfl) ?_
  refine lv_bipush (v := (nI 53)) hx hb dX5_mixWord_32 (by decide) ?_
  refine lv_lushr (v := ((x24 ^^^ (((w.toUInt64 >>> ((nI 16).toInt64.toUInt64 &&& Int64.toUInt64 63)).toInt64) &&& 255)).toUInt64 >>> ((nI 53).toInt64.toUInt64 &&& Int64.toUInt64 63)).toInt64) hx hb dX5_mixWord_34 rfl ?_
  refine lv_lor hx hb dX5_mixWord_35 ?_
  refine lv_ldc2 (v := (-7046029254386353131)) hx hb hown (hts _ tw_200) dX5_mixWord_36 ?_
  refine lv_lmul hx hb dX5_mixWord_39 ?_
  refine xx_topl (y := (xs_mix x24 w 16)) rfl ?_
  refine lv_topl (fun x16 ex16 => ?_)
  refine lv_lstore (lv' := [(4, .long x16), (6, .int (nI 16)), (0, .long x), (2, .long w)]) hx hb dX5_mixWord_40 hl (by decide) rfl (fun ls hl => ?_)
  refine lv_iinc (v := (nI 8)) (lv' := [(6, .int (nI 8)), (4, .long x16), (0, .long x), (2, .long w)]) hx hb dX5_mixWord_42 hl (k := 1) rfl (by decide) (by decide) rfl (fun ls hl => ?_)
  refine lv_goto (tgt := 7) hx hb dX5_mixWord_45 (by decide) ?_
  refine lv_iload hx hb dX5_mixWord_7 (lv_at hl 0 rfl) ?_
  refine lv_if_lt (tgt := 48) hx hb dX5_mixWord_9 (by decide) (fun c => absurd c (by decide)) (fun _ => ?_)
  refine lv_lload hx hb dX5_mixWord_12 (lv_at hl 1 rfl) ?_
  refine lv_lload_n hx hb dX5_mixWord_14 rfl (lv_at hl 3 rfl) ?_
  refine lv_iload hx hb dX5_mixWord_15 (lv_at hl 0 rfl) ?_
  refine lv_lushr (v := (w.toUInt64 >>> ((nI 8).toInt64.toUInt64 &&& Int64.toUInt64 63)).toInt64) hx hb dX5_mixWord_17 rfl ?_
  refine lv_ldc2 (v := 255) hx hb hown (hts _ tw_199) dX5_mixWord_18 ?_
  refine lv_land hx hb dX5_mixWord_21 ?_
  refine lv_lxor hx hb dX5_mixWord_22 ?_
  refine lv_lstore (lv' := [(4, .long (x16 ^^^ (((w.toUInt64 >>> ((nI 8).toInt64.toUInt64 &&& Int64.toUInt64 63)).toInt64) &&& 255))), (6, .int (nI 8)), (0, .long x), (2, .long w)]) hx hb dX5_mixWord_23 hl (by decide) rfl (fun ls hl => ?_)
  refine lv_lload hx hb dX5_mixWord_25 (lv_at hl 0 rfl) ?_
  refine lv_bipush (v := (nI 11)) hx hb dX5_mixWord_27 (by decide) ?_
  refine lv_lshl (v := (x16 ^^^ (((w.toUInt64 >>> ((nI 8).toInt64.toUInt64 &&& Int64.toUInt64 63)).toInt64) &&& 255)) <<< ((nI 11).toInt64 &&& 63)) hx hb dX5_mixWord_29 rfl ?_
  refine lv_lload hx hb dX5_mixWord_30 (lv_at hl 0 rfl) ?_
  refine lv_bipush (v := (nI 53)) hx hb dX5_mixWord_32 (by decide) ?_
  refine lv_lushr (v := ((x16 ^^^ (((w.toUInt64 >>> ((nI 8).toInt64.toUInt64 &&& Int64.toUInt64 63)).toInt64) &&& 255)).toUInt64 >>> ((nI 53).toInt64.toUInt64 &&& Int64.toUInt64 63)).toInt64) hx hb dX5_mixWord_34 rfl ?_
  refine lv_lor hx hb dX5_mixWord_35 ?_
  refine lv_ldc2 (v := (-7046029254386353131)) hx hb hown (hts _ tw_200) dX5_mixWord_36 ?_
  refine lv_lmul hx hb dX5_mixWord_39 ?_
  refine xx_topl (y := (xs_mix x16 w 8)) rfl ?_
  refine lv_topl (fun x8 ex8 => ?_)
  refine lv_lstore (lv' := [(4, .long x8), (6, .int (nI 8)), (0, .long x), (2, .long w)]) hx hb dX5_mixWord_40 hl (by decide) rfl (fun ls hl => ?_)
  refine lv_iinc (v := (nI 0)) (lv' := [(6, .int (nI 0)), (4, .long x8), (0, .long x), (2, .long w)]) hx hb dX5_mixWord_42 hl (k := 1) rfl (by decide) (by decide) rfl (fun ls hl => ?_)
  refine lv_goto (tgt := 7) hx hb dX5_mixWord_45 (by decide) ?_
  refine lv_iload hx hb dX5_mixWord_7 (lv_at hl 0 rfl) ?_
  refine lv_if_lt (tgt := 48) hx hb dX5_mixWord_9 (by decide) (fun c => absurd c (by decide)) (fun _ => ?_)
  refine lv_lload hx hb dX5_mixWord_12 (lv_at hl 1 rfl) ?_
  refine lv_lload_n hx hb dX5_mixWord_14 rfl (lv_at hl 3 rfl) ?_
  refine lv_iload hx hb dX5_mixWord_15 (lv_at hl 0 rfl) ?_
  refine lv_lushr (v := (w.toUInt64 >>> ((nI 0).toInt64.toUInt64 &&& Int64.toUInt64 63)).toInt64) hx hb dX5_mixWord_17 rfl ?_
  refine lv_ldc2 (v := 255) hx hb hown (hts _ tw_199) dX5_mixWord_18 ?_
  refine lv_land hx hb dX5_mixWord_21 ?_
  refine lv_lxor hx hb dX5_mixWord_22 ?_
  refine lv_lstore (lv' := [(4, .long (x8 ^^^ (((w.toUInt64 >>> ((nI 0).toInt64.toUInt64 &&& Int64.toUInt64 63)).toInt64) &&& 255))), (6, .int (nI 0)), (0, .long x), (2, .long w)]) hx hb dX5_mixWord_23 hl (by decide) rfl (fun ls hl => ?_)
  refine lv_lload hx hb dX5_mixWord_25 (lv_at hl 0 rfl) ?_
  refine lv_bipush (v := (nI 11)) hx hb dX5_mixWord_27 (by decide) ?_
  refine lv_lshl (v := (x8 ^^^ (((w.toUInt64 >>> ((nI 0).toInt64.toUInt64 &&& Int64.toUInt64 63)).toInt64) &&& 255)) <<< ((nI 11).toInt64 &&& 63)) hx hb dX5_mixWord_29 rfl ?_
  refine lv_lload hx hb dX5_mixWord_30 (lv_at hl 0 rfl) ?_
  refine lv_bipush (v := (nI 53)) hx hb dX5_mixWord_32 (by decide) ?_
  refine lv_lushr (v := ((x8 ^^^ (((w.toUInt64 >>> ((nI 0).toInt64.toUInt64 &&& Int64.toUInt64 63)).toInt64) &&& 255)).toUInt64 >>> ((nI 53).toInt64.toUInt64 &&& Int64.toUInt64 63)).toInt64) hx hb dX5_mixWord_34 rfl ?_
  refine lv_lor hx hb dX5_mixWord_35 ?_
  refine lv_ldc2 (v := (-7046029254386353131)) hx hb hown (hts _ tw_200) dX5_mixWord_36 ?_
  refine lv_lmul hx hb dX5_mixWord_39 ?_
  refine xx_topl (y := (xs_mix x8 w 0)) rfl ?_
  refine lv_topl (fun x0 ex0 => ?_)
  refine lv_lstore (lv' := [(4, .long x0), (6, .int (nI 0)), (0, .long x), (2, .long w)]) hx hb dX5_mixWord_40 hl (by decide) rfl (fun ls hl => ?_)
  refine lv_iinc (v := (-8)) (lv' := [(6, .int (-8)), (4, .long x0), (0, .long x), (2, .long w)]) hx hb dX5_mixWord_42 hl (k := 1) rfl (by decide) (by decide) rfl (fun ls hl => ?_)
  refine lv_goto (tgt := 7) hx hb dX5_mixWord_45 (by decide) ?_
  refine lv_iload hx hb dX5_mixWord_7 (lv_at hl 0 rfl) ?_
  refine lv_if_lt (tgt := 48) hx hb dX5_mixWord_9 (by decide) (fun _ => ?_) (fun c => absurd c (by decide))
  refine lv_lload hx hb dX5_mixWord_48 (lv_at hl 1 rfl) ?_
  refine xx_lret () hx hb hr hlocks hS hK hP hD dX5_mixWord_50 ?_
  subst ex0 ex8 ex16 ex24 ex32 ex40 ex48 ex56
  exact rfl
def p_sumUnder (x : Int64) (a : Int64) (d : Int64) : Int64 → Unit → Prop := fun r u => r = xs_sum x a d
set_option maxHeartbeats 4000000 in
set_option maxRecDepth 100000 in
theorem c_sumUnder (l : Launch) (D : va_G) (k : Nat → ClassId) (x : Int64) (a : Int64) (d : Int64) : xx_Cl l yX5_sumUnder (.code yX5_sumUnder cX5_sumUnder 6 (some .long) :: xall) ({ frames := 1, cells := 0, slots := 0, locals := 26 } : Room) D vwCl (xT k) [.long x, .long a, .long d] ([]) (p_sumUnder x a d) (fun (u : Unit) => []) 0 0 := by
  intro sz
  refine xx_met (Qf := fun A => va_Ql (p_sumUnder x a d) (xx_B D vwCl (xT k) A (fun (u : Unit) => [])) A) (cc := cX5_sumUnder) (maxL := 6) (ret := (some .long)) (by decide) rfl (Nat.le_of_ble_eq_true rfl) ?_
  intro p e s m below meth c A ls hx hb hr hts hown hlocks hin hml hA hS hP hD hK hN hl
  have hl : lv_has ls 6 [(0, .long x), (2, .long a), (4, .long d)] := hl
  have hown : s.vm.findClass RX5 = some m.cls := hown
  refine lv_lload_n hx hb dX5_sumUnder_0 rfl (lv_at hl 0 rfl) ?_
  refine lv_lload_n hx hb dX5_sumUnder_1 rfl (lv_at hl 1 rfl) ?_
  refine xx_calll ([]) [] [] (va_runS (As := [.long x, .long a]) (rest := []) ⟨hx, hb, hml, hown, hts⟩ (c_mixWord l D k x a s.heap.size) (va_cwS 2 hts (xx_gS tw_196 tw_197 tw_1 tw_198) rfl rfl rfl (by decide +kernel) ⟨Nat.le_of_ble_eq_true rfl, Nat.le_of_ble_eq_true rfl⟩) (xx_preS hK hN hP hD [] (by decide) rfl) rfl rfl hl.1 rfl (lv_room (Nat.le_of_ble_eq_true rfl)) dX5_sumUnder_2 ⟨Nat.le_of_ble_eq_true rfl, Nat.le_of_ble_eq_true rfl⟩) hP hD hS hA rfl rfl (by decide) (by decide) (fun r2 u2 H locs hw2 hP hD hS => ?_)
  obtain rfl := hw2
  have hP : va_P D vwCl ([]) H := hP
  have hD : va_D A ([]) := hD
  refine lv_lload hx hb dX5_sumUnder_5 (lv_at hl 2 rfl) ?_
  refine xx_calll ([]) [] [] (va_runS (As := [.long (xs_word x a), .long d]) (rest := []) ⟨hx, hb, hml, hown, hts⟩ (c_mixWord l D k (xs_word x a) d H.size) (va_cwS 2 hts (xx_gS tw_196 tw_197 tw_1 tw_198) rfl rfl rfl (by decide +kernel) ⟨Nat.le_of_ble_eq_true rfl, Nat.le_of_ble_eq_true rfl⟩) (xx_preS hK hN hP hD [] (by decide) rfl) rfl rfl hl.1 rfl (lv_room (Nat.le_of_ble_eq_true rfl)) dX5_sumUnder_7 ⟨Nat.le_of_ble_eq_true rfl, Nat.le_of_ble_eq_true rfl⟩) hP hD hS hA rfl rfl (by decide) (by decide) (fun r7 u7 H locs hw7 hP hD hS => ?_)
  obtain rfl := hw7
  have hP : va_P D vwCl ([]) H := hP
  have hD : va_D A ([]) := hD
  refine xx_lret () hx hb hr hlocks hS hK hP hD dX5_sumUnder_10 ?_
  exact rfl
end
