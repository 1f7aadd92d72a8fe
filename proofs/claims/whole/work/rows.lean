section
-- ===== PART A: goes FIRST, ahead of the names: the tables' words, and 'selects' of the private methods out of them =====
/-- a private method of a class that the tables say can be made, by its rows of tables_1 -/
def lw_okq (q : MethodName × Nat) : Prop := (q.1.cls ≠ "java/lang/invoke/MethodHandle" ∧ q.1.cls ≠ "java/lang/invoke/VarHandle") ∧ Cond.instantiable q.1.cls q.2 ∈ tables_1 ∧ Cond.privateMethod q.1 ∈ tables_1 ∧ Cond.instanceMethod q.1 ∈ tables_1
theorem lw_p0 : lw_okq (⟨"TrustRows", "noteClash", "(IJ)V"⟩, 8) := ⟨⟨by decide +kernel, by decide +kernel⟩, List.mem_of_getElem? (i := 11) (by decide +kernel), List.mem_of_getElem? (i := 224) (by decide +kernel), List.mem_of_getElem? (i := 225) (by decide +kernel)⟩
theorem lw_p1 : lw_okq (⟨"TrustRows$Rules", "rankFor", "(III)I"⟩, 5) := ⟨⟨by decide +kernel, by decide +kernel⟩, List.mem_of_getElem? (i := 103) (by decide +kernel), List.mem_of_getElem? (i := 284) (by decide +kernel), List.mem_of_getElem? (i := 285) (by decide +kernel)⟩
theorem lw_p2 : lw_okq (⟨"TrustRows$Rules", "has", "(I)Z"⟩, 5) := ⟨⟨by decide +kernel, by decide +kernel⟩, List.mem_of_getElem? (i := 103) (by decide +kernel), List.mem_of_getElem? (i := 288) (by decide +kernel), List.mem_of_getElem? (i := 289) (by decide +kernel)⟩
theorem lw_p3 : lw_okq (⟨"TrustRows$Results", "counts", "(IJIJ)Z"⟩, 7) := ⟨⟨by decide +kernel, by decide +kernel⟩, List.mem_of_getElem? (i := 56) (by decide +kernel), List.mem_of_getElem? (i := 304) (by decide +kernel), List.mem_of_getElem? (i := 305) (by decide +kernel)⟩
theorem lw_p4 : lw_okq (⟨"TrustRowsModel", "isWriter", "(I)Z"⟩, 28) := ⟨⟨by decide +kernel, by decide +kernel⟩, List.mem_of_getElem? (i := 371) (by decide +kernel), List.mem_of_getElem? (i := 473) (by decide +kernel), List.mem_of_getElem? (i := 474) (by decide +kernel)⟩
theorem lw_p5 : lw_okq (⟨"TrustRowsModel", "fits", "(IJJJJ)Z"⟩, 28) := ⟨⟨by decide +kernel, by decide +kernel⟩, List.mem_of_getElem? (i := 371) (by decide +kernel), List.mem_of_getElem? (i := 493) (by decide +kernel), List.mem_of_getElem? (i := 494) (by decide +kernel)⟩
theorem lw_p6 : lw_okq (⟨"TrustRowsModel", "isThere", "(IJJ)Z"⟩, 28) := ⟨⟨by decide +kernel, by decide +kernel⟩, List.mem_of_getElem? (i := 371) (by decide +kernel), List.mem_of_getElem? (i := 497) (by decide +kernel), List.mem_of_getElem? (i := 498) (by decide +kernel)⟩
theorem lw_p7 : lw_okq (⟨"TrustRowsModel", "against", "(I)I"⟩, 28) := ⟨⟨by decide +kernel, by decide +kernel⟩, List.mem_of_getElem? (i := 371) (by decide +kernel), List.mem_of_getElem? (i := 501) (by decide +kernel), List.mem_of_getElem? (i := 502) (by decide +kernel)⟩
theorem lw_p8 : lw_okq (⟨"TrustRowsModel", "isClashing", "(J)Z"⟩, 28) := ⟨⟨by decide +kernel, by decide +kernel⟩, List.mem_of_getElem? (i := 371) (by decide +kernel), List.mem_of_getElem? (i := 505) (by decide +kernel), List.mem_of_getElem? (i := 506) (by decide +kernel)⟩
theorem lw_p9 : lw_okq (⟨"TrustRowsModel", "ruleOf", "(II)I"⟩, 28) := ⟨⟨by decide +kernel, by decide +kernel⟩, List.mem_of_getElem? (i := 371) (by decide +kernel), List.mem_of_getElem? (i := 528) (by decide +kernel), List.mem_of_getElem? (i := 529) (by decide +kernel)⟩
theorem lw_p10 : lw_okq (⟨"TrustRowsModel", "worth", "(III)I"⟩, 28) := ⟨⟨by decide +kernel, by decide +kernel⟩, List.mem_of_getElem? (i := 371) (by decide +kernel), List.mem_of_getElem? (i := 532) (by decide +kernel), List.mem_of_getElem? (i := 533) (by decide +kernel)⟩
theorem lw_p11 : lw_okq (⟨"TrustRowsModel", "ownOf", "(JJ)I"⟩, 28) := ⟨⟨by decide +kernel, by decide +kernel⟩, List.mem_of_getElem? (i := 371) (by decide +kernel), List.mem_of_getElem? (i := 544) (by decide +kernel), List.mem_of_getElem? (i := 545) (by decide +kernel)⟩
theorem lw_p12 : lw_okq (⟨"TrustRowsModel", "tell", "(IIII)V"⟩, 28) := ⟨⟨by decide +kernel, by decide +kernel⟩, List.mem_of_getElem? (i := 371) (by decide +kernel), List.mem_of_getElem? (i := 548) (by decide +kernel), List.mem_of_getElem? (i := 549) (by decide +kernel)⟩
theorem lw_p13 : lw_okq (⟨"TrustRowsModel", "levelFor", "(II)I"⟩, 28) := ⟨⟨by decide +kernel, by decide +kernel⟩, List.mem_of_getElem? (i := 371) (by decide +kernel), List.mem_of_getElem? (i := 552) (by decide +kernel), List.mem_of_getElem? (i := 553) (by decide +kernel)⟩
theorem lw_p14 : lw_okq (⟨"TrustRowsModel", "many", "(JIJ)I"⟩, 28) := ⟨⟨by decide +kernel, by decide +kernel⟩, List.mem_of_getElem? (i := 371) (by decide +kernel), List.mem_of_getElem? (i := 556) (by decide +kernel), List.mem_of_getElem? (i := 557) (by decide +kernel)⟩
theorem lw_p15 : lw_okq (⟨"TrustRowsModel", "counts", "(IJIJ)Z"⟩, 28) := ⟨⟨by decide +kernel, by decide +kernel⟩, List.mem_of_getElem? (i := 371) (by decide +kernel), List.mem_of_getElem? (i := 560) (by decide +kernel), List.mem_of_getElem? (i := 561) (by decide +kernel)⟩
def lw_privs_1 : List (MethodName × Nat) := [(⟨"TrustRows", "noteClash", "(IJ)V"⟩, 8), (⟨"TrustRows$Rules", "rankFor", "(III)I"⟩, 5), (⟨"TrustRows$Rules", "has", "(I)Z"⟩, 5), (⟨"TrustRows$Results", "counts", "(IJIJ)Z"⟩, 7), (⟨"TrustRowsModel", "isWriter", "(I)Z"⟩, 28), (⟨"TrustRowsModel", "fits", "(IJJJJ)Z"⟩, 28), (⟨"TrustRowsModel", "isThere", "(IJJ)Z"⟩, 28), (⟨"TrustRowsModel", "against", "(I)I"⟩, 28), (⟨"TrustRowsModel", "isClashing", "(J)Z"⟩, 28), (⟨"TrustRowsModel", "ruleOf", "(II)I"⟩, 28), (⟨"TrustRowsModel", "worth", "(III)I"⟩, 28), (⟨"TrustRowsModel", "ownOf", "(JJ)I"⟩, 28), (⟨"TrustRowsModel", "tell", "(IIII)V"⟩, 28), (⟨"TrustRowsModel", "levelFor", "(II)I"⟩, 28), (⟨"TrustRowsModel", "many", "(JIJ)I"⟩, 28), (⟨"TrustRowsModel", "counts", "(IJIJ)Z"⟩, 28)]
theorem lw_r1 : ∀ q ∈ lw_privs_1, lw_okq q := List.forall_mem_cons.mpr ⟨lw_p0, List.forall_mem_cons.mpr ⟨lw_p1, List.forall_mem_cons.mpr ⟨lw_p2, List.forall_mem_cons.mpr ⟨lw_p3, List.forall_mem_cons.mpr ⟨lw_p4, List.forall_mem_cons.mpr ⟨lw_p5, List.forall_mem_cons.mpr ⟨lw_p6, List.forall_mem_cons.mpr ⟨lw_p7, List.forall_mem_cons.mpr ⟨lw_p8, List.forall_mem_cons.mpr ⟨lw_p9, List.forall_mem_cons.mpr ⟨lw_p10, List.forall_mem_cons.mpr ⟨lw_p11, List.forall_mem_cons.mpr ⟨lw_p12, List.forall_mem_cons.mpr ⟨lw_p13, List.forall_mem_cons.mpr ⟨lw_p14, List.forall_mem_cons.mpr ⟨lw_p15, fun _ h => absurd h List.not_mem_nil⟩⟩⟩⟩⟩⟩⟩⟩⟩⟩⟩⟩⟩⟩⟩⟩
theorem lw_p16 : lw_okq (⟨"TrustRowsModel", "agreed", "(JIJ)I"⟩, 28) := ⟨⟨by decide +kernel, by decide +kernel⟩, List.mem_of_getElem? (i := 371) (by decide +kernel), List.mem_of_getElem? (i := 564) (by decide +kernel), List.mem_of_getElem? (i := 565) (by decide +kernel)⟩
def lw_privs_2 : List (MethodName × Nat) := [(⟨"TrustRowsModel", "agreed", "(JIJ)I"⟩, 28)]
theorem lw_r2 : ∀ q ∈ lw_privs_2, lw_okq q := List.forall_mem_cons.mpr ⟨lw_p16, fun _ h => absurd h List.not_mem_nil⟩
def lw_privs : List (MethodName × Nat) := lw_privs_1 ++ (lw_privs_2)
def lw_tbl : List Cond := k2_sels lw_privs ++ tables_1
theorem lw_privs_ok : ∀ q ∈ lw_privs, lw_okq q := by
  show ∀ q ∈ lw_privs_1 ++ (lw_privs_2), lw_okq q
  exact List.forall_mem_append.mpr ⟨lw_r1, lw_r2⟩
def RX0 : String := "TrustRows$AuditRows"
def RX1 : String := "TrustRows$Clashes"
def RX2 : String := "TrustRows$Results"
def RX3 : String := "TrustRows$Rules"
def RX4 : String := "TrustRows$Writers"
def RX5 : String := "TrustRows"
def RX6 : String := "TrustRowsModel"
def RJI : String := "java/lang/Integer"
def RJM : String := "java/lang/Math"
def RL : String := "TrustRowsLaw"
def TX0 : u_T := fun k => match k with
  | 0 => ("TrustRows$AuditRows", "cells", "[I", true)
  | _ => ("TrustRows$AuditRows", "count", "I", false)
def tyX0 : Nat → FieldType := fun k => match k with
  | 0 => .array .int
  | _ => .int
theorem nmX0 : ∀ a, a < 2 → ∀ b, b < 2 → a ≠ b → (TX0 a).2.1 ≠ (TX0 b).2.1 := by decide +kernel
theorem tyX0_ok : ∀ k, k < 2 → parseFieldDescriptor (TX0 k).2.2.1 = some (tyX0 k) := by decide +kernel
def TX1 : u_T := fun k => match k with
  | 0 => ("TrustRows$Clashes", "actions", "[J", true)
  | 1 => ("TrustRows$Clashes", "lessers", "[I", true)
  | 2 => ("TrustRows$Clashes", "laters", "[I", true)
  | _ => ("TrustRows$Clashes", "count", "I", false)
def tyX1 : Nat → FieldType := fun k => match k with
  | 0 => .array .long
  | 1 => .array .int
  | 2 => .array .int
  | _ => .int
theorem nmX1 : ∀ a, a < 4 → ∀ b, b < 4 → a ≠ b → (TX1 a).2.1 ≠ (TX1 b).2.1 := by decide +kernel
theorem tyX1_ok : ∀ k, k < 4 → parseFieldDescriptor (TX1 k).2.2.1 = some (tyX1 k) := by decide +kernel
def TX2 : u_T := fun k => match k with
  | 0 => ("TrustRows$Results", "writerNumbers", "[I", true)
  | 1 => ("TrustRows$Results", "levels", "[I", true)
  | 2 => ("TrustRows$Results", "actions", "[J", true)
  | 3 => ("TrustRows$Results", "digests", "[J", true)
  | 4 => ("TrustRows$Results", "times", "[J", true)
  | 5 => ("TrustRows$Results", "dropped", "[Z", true)
  | _ => ("TrustRows$Results", "count", "I", false)
def tyX2 : Nat → FieldType := fun k => match k with
  | 0 => .array .int
  | 1 => .array .int
  | 2 => .array .long
  | 3 => .array .long
  | 4 => .array .long
  | 5 => .array .boolean
  | _ => .int
theorem nmX2 : ∀ a, a < 7 → ∀ b, b < 7 → a ≠ b → (TX2 a).2.1 ≠ (TX2 b).2.1 := by decide +kernel
theorem tyX2_ok : ∀ k, k < 7 → parseFieldDescriptor (TX2 k).2.2.1 = some (tyX2 k) := by decide +kernel
def TX3 : u_T := fun k => match k with
  | 0 => ("TrustRows$Rules", "targets", "[I", true)
  | 1 => ("TrustRows$Rules", "branches", "[I", true)
  | 2 => ("TrustRows$Rules", "levels", "[I", true)
  | 3 => ("TrustRows$Rules", "wanteds", "[I", true)
  | _ => ("TrustRows$Rules", "count", "I", false)
def tyX3 : Nat → FieldType := fun k => match k with
  | 0 => .array .int
  | 1 => .array .int
  | 2 => .array .int
  | 3 => .array .int
  | _ => .int
theorem nmX3 : ∀ a, a < 5 → ∀ b, b < 5 → a ≠ b → (TX3 a).2.1 ≠ (TX3 b).2.1 := by decide +kernel
theorem tyX3_ok : ∀ k, k < 5 → parseFieldDescriptor (TX3 k).2.2.1 = some (tyX3 k) := by decide +kernel
def TX4 : u_T := fun k => match k with
  | 0 => ("TrustRows$Writers", "levels", "[I", true)
  | 1 => ("TrustRows$Writers", "barred", "[Z", true)
  | 2 => ("TrustRows$Writers", "keyCounts", "[I", true)
  | 3 => ("TrustRows$Writers", "keys", "[J", true)
  | 4 => ("TrustRows$Writers", "froms", "[J", true)
  | 5 => ("TrustRows$Writers", "untils", "[J", true)
  | _ => ("TrustRows$Writers", "count", "I", false)
def tyX4 : Nat → FieldType := fun k => match k with
  | 0 => .array .int
  | 1 => .array .boolean
  | 2 => .array .int
  | 3 => .array .long
  | 4 => .array .long
  | 5 => .array .long
  | _ => .int
theorem nmX4 : ∀ a, a < 7 → ∀ b, b < 7 → a ≠ b → (TX4 a).2.1 ≠ (TX4 b).2.1 := by decide +kernel
theorem tyX4_ok : ∀ k, k < 7 → parseFieldDescriptor (TX4 k).2.2.1 = some (tyX4 k) := by decide +kernel
def TX5 : u_T := fun k => match k with
  | 0 => ("TrustRows", "quorum", "I", true)
  | 1 => ("TrustRows", "writers", "LTrustRows$Writers;", true)
  | 2 => ("TrustRows", "results", "LTrustRows$Results;", true)
  | 3 => ("TrustRows", "clashes", "LTrustRows$Clashes;", true)
  | 4 => ("TrustRows", "rules", "LTrustRows$Rules;", true)
  | 5 => ("TrustRows", "auditRows", "LTrustRows$AuditRows;", true)
  | 6 => ("TrustRows", "ownCounts", "Z", false)
  | _ => ("TrustRows", "latestTaken", "J", false)
def tyX5 : Nat → FieldType := fun k => match k with
  | 0 => .int
  | 1 => .object "TrustRows$Writers"
  | 2 => .object "TrustRows$Results"
  | 3 => .object "TrustRows$Clashes"
  | 4 => .object "TrustRows$Rules"
  | 5 => .object "TrustRows$AuditRows"
  | 6 => .boolean
  | _ => .long
theorem nmX5 : ∀ a, a < 8 → ∀ b, b < 8 → a ≠ b → (TX5 a).2.1 ≠ (TX5 b).2.1 := by decide +kernel
theorem tyX5_ok : ∀ k, k < 8 → parseFieldDescriptor (TX5 k).2.2.1 = some (tyX5 k) := by decide +kernel
def TX6 : u_T := fun k => match k with
  | 0 => ("TrustRowsModel", "thrown", "I", false)
  | 1 => ("TrustRowsModel", "quorum", "I", true)
  | 2 => ("TrustRowsModel", "ownCounts", "Z", false)
  | 3 => ("TrustRowsModel", "writers", "I", false)
  | 4 => ("TrustRowsModel", "levels", "[I", true)
  | 5 => ("TrustRowsModel", "barred", "[Z", true)
  | 6 => ("TrustRowsModel", "keyMany", "[I", true)
  | 7 => ("TrustRowsModel", "keys", "[J", true)
  | 8 => ("TrustRowsModel", "begins", "[J", true)
  | 9 => ("TrustRowsModel", "ends", "[J", true)
  | 10 => ("TrustRowsModel", "results", "I", false)
  | 11 => ("TrustRowsModel", "by", "[I", true)
  | 12 => ("TrustRowsModel", "actions", "[J", true)
  | 13 => ("TrustRowsModel", "digests", "[J", true)
  | 14 => ("TrustRowsModel", "times", "[J", true)
  | 15 => ("TrustRowsModel", "dropped", "[Z", true)
  | 16 => ("TrustRowsModel", "clashes", "I", false)
  | 17 => ("TrustRowsModel", "clashing", "[J", true)
  | 18 => ("TrustRowsModel", "lesser", "[I", true)
  | 19 => ("TrustRowsModel", "later", "[I", true)
  | 20 => ("TrustRowsModel", "rules", "I", false)
  | 21 => ("TrustRowsModel", "targets", "[I", true)
  | 22 => ("TrustRowsModel", "branches", "[I", true)
  | 23 => ("TrustRowsModel", "least", "[I", true)
  | 24 => ("TrustRowsModel", "wants", "[I", true)
  | 25 => ("TrustRowsModel", "latest", "J", false)
  | 26 => ("TrustRowsModel", "rows", "I", false)
  | _ => ("TrustRowsModel", "audits", "[I", true)
def tyX6 : Nat → FieldType := fun k => match k with
  | 0 => .int
  | 1 => .int
  | 2 => .boolean
  | 3 => .int
  | 4 => .array .int
  | 5 => .array .boolean
  | 6 => .array .int
  | 7 => .array .long
  | 8 => .array .long
  | 9 => .array .long
  | 10 => .int
  | 11 => .array .int
  | 12 => .array .long
  | 13 => .array .long
  | 14 => .array .long
  | 15 => .array .boolean
  | 16 => .int
  | 17 => .array .long
  | 18 => .array .int
  | 19 => .array .int
  | 20 => .int
  | 21 => .array .int
  | 22 => .array .int
  | 23 => .array .int
  | 24 => .array .int
  | 25 => .long
  | 26 => .int
  | _ => .array .int
theorem nmX6 : ∀ a, a < 28 → ∀ b, b < 28 → a ≠ b → (TX6 a).2.1 ≠ (TX6 b).2.1 := by decide +kernel
theorem tyX6_ok : ∀ k, k < 28 → parseFieldDescriptor (TX6 k).2.2.1 = some (tyX6 k) := by decide +kernel
abbrev cX5_init : ByteArray := prog_1_method_1_code
def yX5_init : MethodName := ⟨RX5, "<init>", "(I)V"⟩
abbrev cJM_min : ByteArray := prog_10_method_69_code
def yJM_min : MethodName := ⟨RJM, "min", "(II)I"⟩
abbrev cJM_max : ByteArray := prog_10_method_65_code
def yJM_max : MethodName := ⟨RJM, "max", "(II)I"⟩
abbrev cX4_init : ByteArray := prog_6_method_1_code
def yX4_init : MethodName := ⟨RX4, "<init>", "()V"⟩
abbrev cX2_init : ByteArray := prog_4_method_1_code
def yX2_init : MethodName := ⟨RX2, "<init>", "()V"⟩
abbrev cX1_init : ByteArray := prog_3_method_1_code
def yX1_init : MethodName := ⟨RX1, "<init>", "()V"⟩
abbrev cX3_init : ByteArray := prog_5_method_1_code
def yX3_init : MethodName := ⟨RX3, "<init>", "()V"⟩
abbrev cX0_init : ByteArray := prog_2_method_1_code
def yX0_init : MethodName := ⟨RX0, "<init>", "()V"⟩
abbrev cX5_writer : ByteArray := prog_1_method_2_code
def yX5_writer : MethodName := ⟨RX5, "writer", "(I)I"⟩
abbrev cX4_add : ByteArray := prog_6_method_2_code
def yX4_add : MethodName := ⟨RX4, "add", "(I)I"⟩
abbrev cX5_isLevel : ByteArray := prog_1_method_19_code
def yX5_isLevel : MethodName := ⟨RX5, "isLevel", "(I)Z"⟩
abbrev cX5_key : ByteArray := prog_1_method_3_code
def yX5_key : MethodName := ⟨RX5, "key", "(IJJJ)I"⟩
abbrev cX4_addKey : ByteArray := prog_6_method_7_code
def yX4_addKey : MethodName := ⟨RX4, "addKey", "(IJJJ)I"⟩
abbrev cX4_mayWrite : ByteArray := prog_6_method_4_code
def yX4_mayWrite : MethodName := ⟨RX4, "mayWrite", "(I)Z"⟩
abbrev cX4_has : ByteArray := prog_6_method_3_code
def yX4_has : MethodName := ⟨RX4, "has", "(I)Z"⟩
abbrev cX5_sum : ByteArray := prog_1_method_4_code
def yX5_sum : MethodName := ⟨RX5, "sum", "(JJJ)J"⟩
abbrev cX5_sumUnder : ByteArray := prog_1_method_20_code
def yX5_sumUnder : MethodName := ⟨RX5, "sumUnder", "(JJJ)J"⟩
abbrev cX5_mixWord : ByteArray := prog_1_method_21_code
def yX5_mixWord : MethodName := ⟨RX5, "mixWord", "(JJ)J"⟩
abbrev cX5_result : ByteArray := prog_1_method_5_code
def yX5_result : MethodName := ⟨RX5, "result", "(IJJJJJ)I"⟩
abbrev cX4_fits : ByteArray := prog_6_method_8_code
def yX4_fits : MethodName := ⟨RX4, "fits", "(IJJJJ)Z"⟩
abbrev cX2_hasLike : ByteArray := prog_4_method_5_code
def yX2_hasLike : MethodName := ⟨RX2, "hasLike", "(IJJ)Z"⟩
abbrev cX4_levelOf : ByteArray := prog_6_method_5_code
def yX4_levelOf : MethodName := ⟨RX4, "levelOf", "(I)I"⟩
abbrev cX2_add : ByteArray := prog_4_method_2_code
def yX2_add : MethodName := ⟨RX2, "add", "(IIJJJ)I"⟩
abbrev cX5_noteClash : ByteArray := prog_1_method_16_code
def yX5_noteClash : MethodName := ⟨RX5, "noteClash", "(IJ)V"⟩
abbrev cX1_has : ByteArray := prog_3_method_3_code
def yX1_has : MethodName := ⟨RX1, "has", "(J)Z"⟩
abbrev cX2_firstAgainst : ByteArray := prog_4_method_7_code
def yX2_firstAgainst : MethodName := ⟨RX2, "firstAgainst", "(I)I"⟩
abbrev cX2_isStanding : ByteArray := prog_4_method_3_code
def yX2_isStanding : MethodName := ⟨RX2, "isStanding", "(I)Z"⟩
abbrev cX1_add : ByteArray := prog_3_method_2_code
def yX1_add : MethodName := ⟨RX1, "add", "(JII)V"⟩
abbrev cX5_stands : ByteArray := prog_1_method_6_code
def yX5_stands : MethodName := ⟨RX5, "stands", "(I)Z"⟩
abbrev cX5_bar : ByteArray := prog_1_method_7_code
def yX5_bar : MethodName := ⟨RX5, "bar", "(I)I"⟩
abbrev cX4_shutOut : ByteArray := prog_6_method_6_code
def yX4_shutOut : MethodName := ⟨RX4, "shutOut", "(I)V"⟩
abbrev cX2_dropAllOf : ByteArray := prog_4_method_6_code
def yX2_dropAllOf : MethodName := ⟨RX2, "dropAllOf", "(I)I"⟩
abbrev cX5_rule : ByteArray := prog_1_method_8_code
def yX5_rule : MethodName := ⟨RX5, "rule", "(IIII)I"⟩
abbrev cX3_add : ByteArray := prog_5_method_2_code
def yX3_add : MethodName := ⟨RX3, "add", "(IIII)I"⟩
abbrev cX5_isPlaceOrAny : ByteArray := prog_1_method_18_code
def yX5_isPlaceOrAny : MethodName := ⟨RX5, "isPlaceOrAny", "(I)Z"⟩
abbrev cX5_isPlace : ByteArray := prog_1_method_17_code
def yX5_isPlace : MethodName := ⟨RX5, "isPlace", "(I)Z"⟩
abbrev cX5_ruleFor : ByteArray := prog_1_method_9_code
def yX5_ruleFor : MethodName := ⟨RX5, "ruleFor", "(II)I"⟩
abbrev cX3_best : ByteArray := prog_5_method_3_code
def yX3_best : MethodName := ⟨RX3, "best", "(II)I"⟩
abbrev cX3_rankFor : ByteArray := prog_5_method_7_code
def yX3_rankFor : MethodName := ⟨RX3, "rankFor", "(III)I"⟩
abbrev cX3_has : ByteArray := prog_5_method_6_code
def yX3_has : MethodName := ⟨RX3, "has", "(I)Z"⟩
abbrev cX5_own : ByteArray := prog_1_method_10_code
def yX5_own : MethodName := ⟨RX5, "own", "(Z)V"⟩
abbrev cX5_take : ByteArray := prog_1_method_11_code
def yX5_take : MethodName := ⟨RX5, "take", "(JIIJ)I"⟩
abbrev cX2_latestOwn : ByteArray := prog_4_method_8_code
def yX2_latestOwn : MethodName := ⟨RX2, "latestOwn", "(JJ)I"⟩
abbrev cX2_counts : ByteArray := prog_4_method_12_code
def yX2_counts : MethodName := ⟨RX2, "counts", "(IJIJ)Z"⟩
abbrev cX0_add : ByteArray := prog_2_method_2_code
def yX0_add : MethodName := ⟨RX0, "add", "(IIIII)V"⟩
abbrev cX2_digestOf : ByteArray := prog_4_method_4_code
def yX2_digestOf : MethodName := ⟨RX2, "digestOf", "(I)J"⟩
abbrev cX3_levelOf : ByteArray := prog_5_method_4_code
def yX3_levelOf : MethodName := ⟨RX3, "levelOf", "(I)I"⟩
abbrev cX2_countWriters : ByteArray := prog_4_method_9_code
def yX2_countWriters : MethodName := ⟨RX2, "countWriters", "(JIJ)I"⟩
abbrev cJI_bitCount : ByteArray := prog_9_method_49_code
def yJI_bitCount : MethodName := ⟨RJI, "bitCount", "(I)I"⟩
abbrev cX3_wantedOf : ByteArray := prog_5_method_5_code
def yX3_wantedOf : MethodName := ⟨RX3, "wantedOf", "(II)I"⟩
abbrev cX2_tellOneDigest : ByteArray := prog_4_method_11_code
def yX2_tellOneDigest : MethodName := ⟨RX2, "tellOneDigest", "(JIJ)Z"⟩
abbrev cX2_firstCounting : ByteArray := prog_4_method_10_code
def yX2_firstCounting : MethodName := ⟨RX2, "firstCounting", "(JIJ)I"⟩
abbrev cX5_taken : ByteArray := prog_1_method_12_code
def yX5_taken : MethodName := ⟨RX5, "taken", "()J"⟩
abbrev cX5_counted : ByteArray := prog_1_method_13_code
def yX5_counted : MethodName := ⟨RX5, "counted", "(JIIJ)I"⟩
abbrev cX5_clash : ByteArray := prog_1_method_14_code
def yX5_clash : MethodName := ⟨RX5, "clash", "(II)I"⟩
abbrev cX1_numberAt : ByteArray := prog_3_method_4_code
def yX1_numberAt : MethodName := ⟨RX1, "numberAt", "(II)I"⟩
abbrev cX5_audit : ByteArray := prog_1_method_15_code
def yX5_audit : MethodName := ⟨RX5, "audit", "(II)I"⟩
abbrev cX0_valueAt : ByteArray := prog_2_method_3_code
def yX0_valueAt : MethodName := ⟨RX0, "valueAt", "(II)I"⟩
abbrev cL_cell : ByteArray := method_2_code
def yL_cell : MethodName := ⟨RL, "cell", "([II)I"⟩
abbrev cX6_init : ByteArray := prog_8_method_1_code
def yX6_init : MethodName := ⟨RX6, "<init>", "(I)V"⟩
abbrev cX6_writer : ByteArray := prog_8_method_5_code
def yX6_writer : MethodName := ⟨RX6, "writer", "(I)I"⟩
abbrev cX6_in : ByteArray := prog_8_method_3_code
def yX6_in : MethodName := ⟨RX6, "in", "(III)Z"⟩
abbrev cX6_key : ByteArray := prog_8_method_6_code
def yX6_key : MethodName := ⟨RX6, "key", "(IJJJ)I"⟩
abbrev cX6_isWriter : ByteArray := prog_8_method_4_code
def yX6_isWriter : MethodName := ⟨RX6, "isWriter", "(I)Z"⟩
abbrev cX6_sum : ByteArray := prog_8_method_9_code
def yX6_sum : MethodName := ⟨RX6, "sum", "(JJJ)J"⟩
abbrev cX6_sumOf : ByteArray := prog_8_method_8_code
def yX6_sumOf : MethodName := ⟨RX6, "sumOf", "(JJJ)J"⟩
abbrev cX6_turned : ByteArray := prog_8_method_7_code
def yX6_turned : MethodName := ⟨RX6, "turned", "(JI)J"⟩
abbrev cX6_result : ByteArray := prog_8_method_14_code
def yX6_result : MethodName := ⟨RX6, "result", "(IJJJJJ)I"⟩
abbrev cX6_fits : ByteArray := prog_8_method_10_code
def yX6_fits : MethodName := ⟨RX6, "fits", "(IJJJJ)Z"⟩
abbrev cX6_isThere : ByteArray := prog_8_method_11_code
def yX6_isThere : MethodName := ⟨RX6, "isThere", "(IJJ)Z"⟩
abbrev cX6_against : ByteArray := prog_8_method_13_code
def yX6_against : MethodName := ⟨RX6, "against", "(I)I"⟩
abbrev cX6_isClashing : ByteArray := prog_8_method_12_code
def yX6_isClashing : MethodName := ⟨RX6, "isClashing", "(J)Z"⟩
abbrev cX6_stands : ByteArray := prog_8_method_15_code
def yX6_stands : MethodName := ⟨RX6, "stands", "(I)Z"⟩
abbrev cX6_bar : ByteArray := prog_8_method_16_code
def yX6_bar : MethodName := ⟨RX6, "bar", "(I)I"⟩
abbrev cX6_rule : ByteArray := prog_8_method_17_code
def yX6_rule : MethodName := ⟨RX6, "rule", "(IIII)I"⟩
abbrev cX6_ruleFor : ByteArray := prog_8_method_21_code
def yX6_ruleFor : MethodName := ⟨RX6, "ruleFor", "(II)I"⟩
abbrev cX6_isPlace : ByteArray := prog_8_method_20_code
def yX6_isPlace : MethodName := ⟨RX6, "isPlace", "(II)Z"⟩
abbrev cX6_ruleOf : ByteArray := prog_8_method_19_code
def yX6_ruleOf : MethodName := ⟨RX6, "ruleOf", "(II)I"⟩
abbrev cX6_worth : ByteArray := prog_8_method_18_code
def yX6_worth : MethodName := ⟨RX6, "worth", "(III)I"⟩
abbrev cX6_own : ByteArray := prog_8_method_22_code
def yX6_own : MethodName := ⟨RX6, "own", "(Z)V"⟩
abbrev cX6_take : ByteArray := prog_8_method_29_code
def yX6_take : MethodName := ⟨RX6, "take", "(JIIJ)I"⟩
abbrev cX6_ownOf : ByteArray := prog_8_method_23_code
def yX6_ownOf : MethodName := ⟨RX6, "ownOf", "(JJ)I"⟩
abbrev cX6_tell : ByteArray := prog_8_method_27_code
def yX6_tell : MethodName := ⟨RX6, "tell", "(IIII)V"⟩
abbrev cX6_levelFor : ByteArray := prog_8_method_28_code
def yX6_levelFor : MethodName := ⟨RX6, "levelFor", "(II)I"⟩
abbrev cX6_many : ByteArray := prog_8_method_25_code
def yX6_many : MethodName := ⟨RX6, "many", "(JIJ)I"⟩
abbrev cX6_counts : ByteArray := prog_8_method_24_code
def yX6_counts : MethodName := ⟨RX6, "counts", "(IJIJ)Z"⟩
abbrev cX6_agreed : ByteArray := prog_8_method_26_code
def yX6_agreed : MethodName := ⟨RX6, "agreed", "(JIJ)I"⟩
abbrev cX6_taken : ByteArray := prog_8_method_30_code
def yX6_taken : MethodName := ⟨RX6, "taken", "()J"⟩
abbrev cX6_counted : ByteArray := prog_8_method_31_code
def yX6_counted : MethodName := ⟨RX6, "counted", "(JIIJ)I"⟩
abbrev cX6_clash : ByteArray := prog_8_method_32_code
def yX6_clash : MethodName := ⟨RX6, "clash", "(II)I"⟩
abbrev cX6_audit : ByteArray := prog_8_method_33_code
def yX6_audit : MethodName := ⟨RX6, "audit", "(II)I"⟩
abbrev cL_law : ByteArray := code
def yL_law : MethodName := ⟨RL, "law", "([I)Z"⟩
abbrev vwCl : List vw_C := [(RX0, TX0, 2), (RX1, TX1, 4), (RX2, TX2, 7), (RX3, TX3, 5), (RX4, TX4, 7), (RX5, TX5, 8), (RX6, TX6, 28)]
/-- all words of the tables that last -/
def xall : List Cond := lw_tbl.filter goodWord
theorem xall_t {w : Cond} (i : Nat) (h : tables_1[i]? = some w) (hg : goodWord w = true) : w ∈ xall := List.mem_filter.mpr ⟨List.mem_append_right _ (List.mem_of_getElem? h), hg⟩
theorem xall_s {w : Cond} (i : Nat) (h : (k2_sels lw_privs)[i]? = some w) (hg : goodWord w = true) : w ∈ xall := List.mem_filter.mpr ⟨List.mem_append_left _ (List.mem_of_getElem? h), hg⟩
theorem ts_0 : (.selects RX5 yX5_noteClash yX5_noteClash : Cond) ∈ xall := xall_s 0 (by decide +kernel) (by decide +kernel)
theorem ts_1 : (.selects RX3 yX3_rankFor yX3_rankFor : Cond) ∈ xall := xall_s 1 (by decide +kernel) (by decide +kernel)
theorem ts_2 : (.selects RX3 yX3_has yX3_has : Cond) ∈ xall := xall_s 2 (by decide +kernel) (by decide +kernel)
theorem ts_3 : (.selects RX2 yX2_counts yX2_counts : Cond) ∈ xall := xall_s 3 (by decide +kernel) (by decide +kernel)
theorem ts_4 : (.selects RX6 yX6_isWriter yX6_isWriter : Cond) ∈ xall := xall_s 4 (by decide +kernel) (by decide +kernel)
theorem ts_5 : (.selects RX6 yX6_fits yX6_fits : Cond) ∈ xall := xall_s 5 (by decide +kernel) (by decide +kernel)
theorem ts_6 : (.selects RX6 yX6_isThere yX6_isThere : Cond) ∈ xall := xall_s 6 (by decide +kernel) (by decide +kernel)
theorem ts_7 : (.selects RX6 yX6_against yX6_against : Cond) ∈ xall := xall_s 7 (by decide +kernel) (by decide +kernel)
theorem ts_8 : (.selects RX6 yX6_isClashing yX6_isClashing : Cond) ∈ xall := xall_s 8 (by decide +kernel) (by decide +kernel)
theorem ts_9 : (.selects RX6 yX6_ruleOf yX6_ruleOf : Cond) ∈ xall := xall_s 9 (by decide +kernel) (by decide +kernel)
theorem ts_10 : (.selects RX6 yX6_worth yX6_worth : Cond) ∈ xall := xall_s 10 (by decide +kernel) (by decide +kernel)
theorem ts_11 : (.selects RX6 yX6_ownOf yX6_ownOf : Cond) ∈ xall := xall_s 11 (by decide +kernel) (by decide +kernel)
theorem ts_12 : (.selects RX6 yX6_tell yX6_tell : Cond) ∈ xall := xall_s 12 (by decide +kernel) (by decide +kernel)
theorem ts_13 : (.selects RX6 yX6_levelFor yX6_levelFor : Cond) ∈ xall := xall_s 13 (by decide +kernel) (by decide +kernel)
theorem ts_14 : (.selects RX6 yX6_many yX6_many : Cond) ∈ xall := xall_s 14 (by decide +kernel) (by decide +kernel)
theorem ts_15 : (.selects RX6 yX6_counts yX6_counts : Cond) ∈ xall := xall_s 15 (by decide +kernel) (by decide +kernel)
theorem ts_16 : (.selects RX6 yX6_agreed yX6_agreed : Cond) ∈ xall := xall_s 16 (by decide +kernel) (by decide +kernel)
theorem inX0 : ∀ w ∈ u_ws RX0 TX0 2, w ∈ xall := by
  intro w hw
  obtain ⟨k, hk, rfl⟩ := List.mem_map.mp hw
  have hk := List.mem_range.mp hk
  match k, hk with
  | 0, _ => exact xall_t 132 (by decide +kernel) (by decide +kernel)
  | 1, _ => exact xall_t 134 (by decide +kernel) (by decide +kernel)
  | k + 2, h => exact absurd h (by omega)
theorem inX1 : ∀ w ∈ u_ws RX1 TX1 4, w ∈ xall := by
  intro w hw
  obtain ⟨k, hk, rfl⟩ := List.mem_map.mp hw
  have hk := List.mem_range.mp hk
  match k, hk with
  | 0, _ => exact xall_t 93 (by decide +kernel) (by decide +kernel)
  | 1, _ => exact xall_t 95 (by decide +kernel) (by decide +kernel)
  | 2, _ => exact xall_t 97 (by decide +kernel) (by decide +kernel)
  | 3, _ => exact xall_t 99 (by decide +kernel) (by decide +kernel)
  | k + 4, h => exact absurd h (by omega)
theorem inX2 : ∀ w ∈ u_ws RX2 TX2 7, w ∈ xall := by
  intro w hw
  obtain ⟨k, hk, rfl⟩ := List.mem_map.mp hw
  have hk := List.mem_range.mp hk
  match k, hk with
  | 0, _ => exact xall_t 68 (by decide +kernel) (by decide +kernel)
  | 1, _ => exact xall_t 70 (by decide +kernel) (by decide +kernel)
  | 2, _ => exact xall_t 72 (by decide +kernel) (by decide +kernel)
  | 3, _ => exact xall_t 74 (by decide +kernel) (by decide +kernel)
  | 4, _ => exact xall_t 76 (by decide +kernel) (by decide +kernel)
  | 5, _ => exact xall_t 78 (by decide +kernel) (by decide +kernel)
  | 6, _ => exact xall_t 80 (by decide +kernel) (by decide +kernel)
  | k + 7, h => exact absurd h (by omega)
theorem inX3 : ∀ w ∈ u_ws RX3 TX3 5, w ∈ xall := by
  intro w hw
  obtain ⟨k, hk, rfl⟩ := List.mem_map.mp hw
  have hk := List.mem_range.mp hk
  match k, hk with
  | 0, _ => exact xall_t 113 (by decide +kernel) (by decide +kernel)
  | 1, _ => exact xall_t 115 (by decide +kernel) (by decide +kernel)
  | 2, _ => exact xall_t 117 (by decide +kernel) (by decide +kernel)
  | 3, _ => exact xall_t 119 (by decide +kernel) (by decide +kernel)
  | 4, _ => exact xall_t 121 (by decide +kernel) (by decide +kernel)
  | k + 5, h => exact absurd h (by omega)
theorem inX4 : ∀ w ∈ u_ws RX4 TX4 7, w ∈ xall := by
  intro w hw
  obtain ⟨k, hk, rfl⟩ := List.mem_map.mp hw
  have hk := List.mem_range.mp hk
  match k, hk with
  | 0, _ => exact xall_t 37 (by decide +kernel) (by decide +kernel)
  | 1, _ => exact xall_t 39 (by decide +kernel) (by decide +kernel)
  | 2, _ => exact xall_t 41 (by decide +kernel) (by decide +kernel)
  | 3, _ => exact xall_t 43 (by decide +kernel) (by decide +kernel)
  | 4, _ => exact xall_t 45 (by decide +kernel) (by decide +kernel)
  | 5, _ => exact xall_t 47 (by decide +kernel) (by decide +kernel)
  | 6, _ => exact xall_t 49 (by decide +kernel) (by decide +kernel)
  | k + 7, h => exact absurd h (by omega)
theorem inX5 : ∀ w ∈ u_ws RX5 TX5 8, w ∈ xall := by
  intro w hw
  obtain ⟨k, hk, rfl⟩ := List.mem_map.mp hw
  have hk := List.mem_range.mp hk
  match k, hk with
  | 0, _ => exact xall_t 145 (by decide +kernel) (by decide +kernel)
  | 1, _ => exact xall_t 147 (by decide +kernel) (by decide +kernel)
  | 2, _ => exact xall_t 149 (by decide +kernel) (by decide +kernel)
  | 3, _ => exact xall_t 151 (by decide +kernel) (by decide +kernel)
  | 4, _ => exact xall_t 153 (by decide +kernel) (by decide +kernel)
  | 5, _ => exact xall_t 155 (by decide +kernel) (by decide +kernel)
  | 6, _ => exact xall_t 157 (by decide +kernel) (by decide +kernel)
  | 7, _ => exact xall_t 159 (by decide +kernel) (by decide +kernel)
  | k + 8, h => exact absurd h (by omega)
theorem inX6 : ∀ w ∈ u_ws RX6 TX6 28, w ∈ xall := by
  intro w hw
  obtain ⟨k, hk, rfl⟩ := List.mem_map.mp hw
  have hk := List.mem_range.mp hk
  match k, hk with
  | 0, _ => exact xall_t 404 (by decide +kernel) (by decide +kernel)
  | 1, _ => exact xall_t 406 (by decide +kernel) (by decide +kernel)
  | 2, _ => exact xall_t 408 (by decide +kernel) (by decide +kernel)
  | 3, _ => exact xall_t 410 (by decide +kernel) (by decide +kernel)
  | 4, _ => exact xall_t 412 (by decide +kernel) (by decide +kernel)
  | 5, _ => exact xall_t 414 (by decide +kernel) (by decide +kernel)
  | 6, _ => exact xall_t 416 (by decide +kernel) (by decide +kernel)
  | 7, _ => exact xall_t 418 (by decide +kernel) (by decide +kernel)
  | 8, _ => exact xall_t 420 (by decide +kernel) (by decide +kernel)
  | 9, _ => exact xall_t 422 (by decide +kernel) (by decide +kernel)
  | 10, _ => exact xall_t 424 (by decide +kernel) (by decide +kernel)
  | 11, _ => exact xall_t 426 (by decide +kernel) (by decide +kernel)
  | 12, _ => exact xall_t 428 (by decide +kernel) (by decide +kernel)
  | 13, _ => exact xall_t 430 (by decide +kernel) (by decide +kernel)
  | 14, _ => exact xall_t 432 (by decide +kernel) (by decide +kernel)
  | 15, _ => exact xall_t 434 (by decide +kernel) (by decide +kernel)
  | 16, _ => exact xall_t 436 (by decide +kernel) (by decide +kernel)
  | 17, _ => exact xall_t 438 (by decide +kernel) (by decide +kernel)
  | 18, _ => exact xall_t 440 (by decide +kernel) (by decide +kernel)
  | 19, _ => exact xall_t 442 (by decide +kernel) (by decide +kernel)
  | 20, _ => exact xall_t 444 (by decide +kernel) (by decide +kernel)
  | 21, _ => exact xall_t 446 (by decide +kernel) (by decide +kernel)
  | 22, _ => exact xall_t 448 (by decide +kernel) (by decide +kernel)
  | 23, _ => exact xall_t 450 (by decide +kernel) (by decide +kernel)
  | 24, _ => exact xall_t 452 (by decide +kernel) (by decide +kernel)
  | 25, _ => exact xall_t 454 (by decide +kernel) (by decide +kernel)
  | 26, _ => exact xall_t 456 (by decide +kernel) (by decide +kernel)
  | 27, _ => exact xall_t 458 (by decide +kernel) (by decide +kernel)
  | k + 28, h => exact absurd h (by omega)
def xx_nest : List (String × Nat × MethodName × String) := [(RX5, 24, yX4_init, "TrustRows"), (RX5, 31, yX2_init, "TrustRows"), (RX5, 38, yX1_init, "TrustRows"), (RX5, 45, yX3_init, "TrustRows"), (RX5, 52, yX0_init, "TrustRows"), (RX4, 36, yX5_isLevel, "TrustRows"), (RX4, 46, yX5_sumUnder, "TrustRows"), (RX3, 28, yX5_isPlaceOrAny, "TrustRows"), (RX3, 32, yX5_isLevel, "TrustRows")]
abbrev xT (k : Nat → ClassId) : List (ClassId × FieldType) := [(k 0, .int), (k 1, .boolean), (k 2, .long)]
end
section
theorem tw_1 : ((.initialized RX5) : Cond) ∈ xall := xall_t 1 (by decide +kernel) (by decide +kernel)
theorem tw_2 : ((.initialized RJM) : Cond) ∈ xall := xall_t 2 (by decide +kernel) (by decide +kernel)
theorem tw_3 : ((.initialized RX4) : Cond) ∈ xall := xall_t 3 (by decide +kernel) (by decide +kernel)
theorem tw_4 : ((.initialized RX2) : Cond) ∈ xall := xall_t 4 (by decide +kernel) (by decide +kernel)
theorem tw_5 : ((.initialized RX1) : Cond) ∈ xall := xall_t 5 (by decide +kernel) (by decide +kernel)
theorem tw_6 : ((.initialized RX3) : Cond) ∈ xall := xall_t 6 (by decide +kernel) (by decide +kernel)
theorem tw_7 : ((.initialized RX0) : Cond) ∈ xall := xall_t 7 (by decide +kernel) (by decide +kernel)
theorem tw_9 : ((.initialized RJI) : Cond) ∈ xall := xall_t 9 (by decide +kernel) (by decide +kernel)
theorem tw_15 : ((.methodLink RX5 3 ⟨"java/lang/Object", "<init>", "()V"⟩) : Cond) ∈ xall := xall_t 15 (by decide +kernel) (by decide +kernel)
theorem tw_16 : ((.instanceMethod ⟨"java/lang/Object", "<init>", "()V"⟩) : Cond) ∈ xall := xall_t 16 (by decide +kernel) (by decide +kernel)
theorem tw_17 : ((.code ⟨"java/lang/Object", "<init>", "()V"⟩ object_method_1_code 1 none) : Cond) ∈ xall := xall_t 17 (by decide +kernel) (by decide +kernel)
theorem tw_18 : ((.methodLink RX5 9 yJM_min) : Cond) ∈ xall := xall_t 18 (by decide +kernel) (by decide +kernel)
theorem tw_19 : ((.static yJM_min) : Cond) ∈ xall := xall_t 19 (by decide +kernel) (by decide +kernel)
theorem tw_20 : ((.code yJM_min prog_10_method_69_code 2 (some .int)) : Cond) ∈ xall := xall_t 20 (by decide +kernel) (by decide +kernel)
theorem tw_21 : ((.methodLink RX5 15 yJM_max) : Cond) ∈ xall := xall_t 21 (by decide +kernel) (by decide +kernel)
theorem tw_22 : ((.static yJM_max) : Cond) ∈ xall := xall_t 22 (by decide +kernel) (by decide +kernel)
theorem tw_23 : ((.code yJM_max prog_10_method_65_code 2 (some .int)) : Cond) ∈ xall := xall_t 23 (by decide +kernel) (by decide +kernel)
theorem tw_24 : ((.classLink RX5 22 RX4) : Cond) ∈ xall := xall_t 24 (by decide +kernel) (by decide +kernel)
theorem tw_25 : ((.instantiable RX4 7) : Cond) ∈ xall := xall_t 25 (by decide +kernel) (by decide +kernel)
theorem tw_27 : ((.instanceMethod yX4_init) : Cond) ∈ xall := xall_t 27 (by decide +kernel) (by decide +kernel)
theorem tw_28 : ((.code yX4_init prog_6_method_1_code 1 none) : Cond) ∈ xall := xall_t 28 (by decide +kernel) (by decide +kernel)
theorem tw_29 : ((.methodLink RX4 3 ⟨"java/lang/Object", "<init>", "()V"⟩) : Cond) ∈ xall := xall_t 29 (by decide +kernel) (by decide +kernel)
theorem tw_30 : ((.fieldLink RX4 9 "TrustRows$Writers" "levels" "[I") : Cond) ∈ xall := xall_t 30 (by decide +kernel) (by decide +kernel)
theorem tw_31 : ((.fieldLink RX4 15 "TrustRows$Writers" "barred" "[Z") : Cond) ∈ xall := xall_t 31 (by decide +kernel) (by decide +kernel)
theorem tw_32 : ((.fieldLink RX4 19 "TrustRows$Writers" "keyCounts" "[I") : Cond) ∈ xall := xall_t 32 (by decide +kernel) (by decide +kernel)
theorem tw_33 : ((.fieldLink RX4 22 "TrustRows$Writers" "keys" "[J") : Cond) ∈ xall := xall_t 33 (by decide +kernel) (by decide +kernel)
theorem tw_34 : ((.fieldLink RX4 26 "TrustRows$Writers" "froms" "[J") : Cond) ∈ xall := xall_t 34 (by decide +kernel) (by decide +kernel)
theorem tw_35 : ((.fieldLink RX4 29 "TrustRows$Writers" "untils" "[J") : Cond) ∈ xall := xall_t 35 (by decide +kernel) (by decide +kernel)
theorem tw_36 : ((.fieldLink RX4 32 "TrustRows$Writers" "count" "I") : Cond) ∈ xall := xall_t 36 (by decide +kernel) (by decide +kernel)
theorem tw_52 : ((.arrayClass .int) : Cond) ∈ xall := xall_t 52 (by decide +kernel) (by decide +kernel)
theorem tw_53 : ((.arrayClass .boolean) : Cond) ∈ xall := xall_t 53 (by decide +kernel) (by decide +kernel)
theorem tw_54 : ((.arrayClass .long) : Cond) ∈ xall := xall_t 54 (by decide +kernel) (by decide +kernel)
theorem tw_55 : ((.classLink RX5 29 RX2) : Cond) ∈ xall := xall_t 55 (by decide +kernel) (by decide +kernel)
theorem tw_56 : ((.instantiable RX2 7) : Cond) ∈ xall := xall_t 56 (by decide +kernel) (by decide +kernel)
theorem tw_58 : ((.instanceMethod yX2_init) : Cond) ∈ xall := xall_t 58 (by decide +kernel) (by decide +kernel)
theorem tw_59 : ((.code yX2_init prog_4_method_1_code 1 none) : Cond) ∈ xall := xall_t 59 (by decide +kernel) (by decide +kernel)
theorem tw_60 : ((.methodLink RX2 3 ⟨"java/lang/Object", "<init>", "()V"⟩) : Cond) ∈ xall := xall_t 60 (by decide +kernel) (by decide +kernel)
theorem tw_61 : ((.fieldLink RX2 9 "TrustRows$Results" "writerNumbers" "[I") : Cond) ∈ xall := xall_t 61 (by decide +kernel) (by decide +kernel)
theorem tw_62 : ((.fieldLink RX2 15 "TrustRows$Results" "levels" "[I") : Cond) ∈ xall := xall_t 62 (by decide +kernel) (by decide +kernel)
theorem tw_63 : ((.fieldLink RX2 18 "TrustRows$Results" "actions" "[J") : Cond) ∈ xall := xall_t 63 (by decide +kernel) (by decide +kernel)
theorem tw_64 : ((.fieldLink RX2 22 "TrustRows$Results" "digests" "[J") : Cond) ∈ xall := xall_t 64 (by decide +kernel) (by decide +kernel)
theorem tw_65 : ((.fieldLink RX2 25 "TrustRows$Results" "times" "[J") : Cond) ∈ xall := xall_t 65 (by decide +kernel) (by decide +kernel)
theorem tw_66 : ((.fieldLink RX2 28 "TrustRows$Results" "dropped" "[Z") : Cond) ∈ xall := xall_t 66 (by decide +kernel) (by decide +kernel)
theorem tw_67 : ((.fieldLink RX2 32 "TrustRows$Results" "count" "I") : Cond) ∈ xall := xall_t 67 (by decide +kernel) (by decide +kernel)
theorem tw_83 : ((.classLink RX5 36 RX1) : Cond) ∈ xall := xall_t 83 (by decide +kernel) (by decide +kernel)
theorem tw_84 : ((.instantiable RX1 4) : Cond) ∈ xall := xall_t 84 (by decide +kernel) (by decide +kernel)
theorem tw_86 : ((.instanceMethod yX1_init) : Cond) ∈ xall := xall_t 86 (by decide +kernel) (by decide +kernel)
theorem tw_87 : ((.code yX1_init prog_3_method_1_code 1 none) : Cond) ∈ xall := xall_t 87 (by decide +kernel) (by decide +kernel)
theorem tw_88 : ((.methodLink RX1 3 ⟨"java/lang/Object", "<init>", "()V"⟩) : Cond) ∈ xall := xall_t 88 (by decide +kernel) (by decide +kernel)
theorem tw_89 : ((.fieldLink RX1 9 "TrustRows$Clashes" "actions" "[J") : Cond) ∈ xall := xall_t 89 (by decide +kernel) (by decide +kernel)
theorem tw_90 : ((.fieldLink RX1 15 "TrustRows$Clashes" "lessers" "[I") : Cond) ∈ xall := xall_t 90 (by decide +kernel) (by decide +kernel)
theorem tw_91 : ((.fieldLink RX1 19 "TrustRows$Clashes" "laters" "[I") : Cond) ∈ xall := xall_t 91 (by decide +kernel) (by decide +kernel)
theorem tw_92 : ((.fieldLink RX1 22 "TrustRows$Clashes" "count" "I") : Cond) ∈ xall := xall_t 92 (by decide +kernel) (by decide +kernel)
theorem tw_102 : ((.classLink RX5 43 RX3) : Cond) ∈ xall := xall_t 102 (by decide +kernel) (by decide +kernel)
theorem tw_103 : ((.instantiable RX3 5) : Cond) ∈ xall := xall_t 103 (by decide +kernel) (by decide +kernel)
theorem tw_105 : ((.instanceMethod yX3_init) : Cond) ∈ xall := xall_t 105 (by decide +kernel) (by decide +kernel)
theorem tw_106 : ((.code yX3_init prog_5_method_1_code 1 none) : Cond) ∈ xall := xall_t 106 (by decide +kernel) (by decide +kernel)
theorem tw_107 : ((.methodLink RX3 3 ⟨"java/lang/Object", "<init>", "()V"⟩) : Cond) ∈ xall := xall_t 107 (by decide +kernel) (by decide +kernel)
theorem tw_108 : ((.fieldLink RX3 9 "TrustRows$Rules" "targets" "[I") : Cond) ∈ xall := xall_t 108 (by decide +kernel) (by decide +kernel)
theorem tw_109 : ((.fieldLink RX3 15 "TrustRows$Rules" "branches" "[I") : Cond) ∈ xall := xall_t 109 (by decide +kernel) (by decide +kernel)
theorem tw_110 : ((.fieldLink RX3 18 "TrustRows$Rules" "levels" "[I") : Cond) ∈ xall := xall_t 110 (by decide +kernel) (by decide +kernel)
theorem tw_111 : ((.fieldLink RX3 21 "TrustRows$Rules" "wanteds" "[I") : Cond) ∈ xall := xall_t 111 (by decide +kernel) (by decide +kernel)
theorem tw_112 : ((.fieldLink RX3 24 "TrustRows$Rules" "count" "I") : Cond) ∈ xall := xall_t 112 (by decide +kernel) (by decide +kernel)
theorem tw_124 : ((.classLink RX5 50 RX0) : Cond) ∈ xall := xall_t 124 (by decide +kernel) (by decide +kernel)
theorem tw_125 : ((.instantiable RX0 2) : Cond) ∈ xall := xall_t 125 (by decide +kernel) (by decide +kernel)
theorem tw_127 : ((.instanceMethod yX0_init) : Cond) ∈ xall := xall_t 127 (by decide +kernel) (by decide +kernel)
theorem tw_128 : ((.code yX0_init prog_2_method_1_code 1 none) : Cond) ∈ xall := xall_t 128 (by decide +kernel) (by decide +kernel)
theorem tw_129 : ((.methodLink RX0 3 ⟨"java/lang/Object", "<init>", "()V"⟩) : Cond) ∈ xall := xall_t 129 (by decide +kernel) (by decide +kernel)
theorem tw_130 : ((.fieldLink RX0 9 "TrustRows$AuditRows" "cells" "[I") : Cond) ∈ xall := xall_t 130 (by decide +kernel) (by decide +kernel)
theorem tw_131 : ((.fieldLink RX0 15 "TrustRows$AuditRows" "count" "I") : Cond) ∈ xall := xall_t 131 (by decide +kernel) (by decide +kernel)
theorem tw_137 : ((.fieldLink RX5 18 "TrustRows" "quorum" "I") : Cond) ∈ xall := xall_t 137 (by decide +kernel) (by decide +kernel)
theorem tw_138 : ((.fieldLink RX5 25 "TrustRows" "writers" "LTrustRows$Writers;") : Cond) ∈ xall := xall_t 138 (by decide +kernel) (by decide +kernel)
theorem tw_139 : ((.fieldLink RX5 32 "TrustRows" "results" "LTrustRows$Results;") : Cond) ∈ xall := xall_t 139 (by decide +kernel) (by decide +kernel)
theorem tw_140 : ((.fieldLink RX5 39 "TrustRows" "clashes" "LTrustRows$Clashes;") : Cond) ∈ xall := xall_t 140 (by decide +kernel) (by decide +kernel)
theorem tw_141 : ((.fieldLink RX5 46 "TrustRows" "rules" "LTrustRows$Rules;") : Cond) ∈ xall := xall_t 141 (by decide +kernel) (by decide +kernel)
theorem tw_142 : ((.fieldLink RX5 53 "TrustRows" "auditRows" "LTrustRows$AuditRows;") : Cond) ∈ xall := xall_t 142 (by decide +kernel) (by decide +kernel)
theorem tw_143 : ((.fieldLink RX5 57 "TrustRows" "ownCounts" "Z") : Cond) ∈ xall := xall_t 143 (by decide +kernel) (by decide +kernel)
theorem tw_144 : ((.fieldLink RX5 61 "TrustRows" "latestTaken" "J") : Cond) ∈ xall := xall_t 144 (by decide +kernel) (by decide +kernel)
theorem tw_166 : ((.methodLink RX5 65 yX4_add) : Cond) ∈ xall := xall_t 166 (by decide +kernel) (by decide +kernel)
theorem tw_167 : ((.instanceMethod yX4_add) : Cond) ∈ xall := xall_t 167 (by decide +kernel) (by decide +kernel)
theorem tw_168 : ((.selects RX4 yX4_add yX4_add) : Cond) ∈ xall := xall_t 168 (by decide +kernel) (by decide +kernel)
theorem tw_169 : ((.code yX4_add prog_6_method_2_code 3 (some .int)) : Cond) ∈ xall := xall_t 169 (by decide +kernel) (by decide +kernel)
theorem tw_171 : ((.static yX5_isLevel) : Cond) ∈ xall := xall_t 171 (by decide +kernel) (by decide +kernel)
theorem tw_172 : ((.code yX5_isLevel prog_1_method_19_code 1 (some .boolean)) : Cond) ∈ xall := xall_t 172 (by decide +kernel) (by decide +kernel)
theorem tw_177 : ((.methodLink RX5 69 yX4_addKey) : Cond) ∈ xall := xall_t 177 (by decide +kernel) (by decide +kernel)
theorem tw_178 : ((.instanceMethod yX4_addKey) : Cond) ∈ xall := xall_t 178 (by decide +kernel) (by decide +kernel)
theorem tw_179 : ((.selects RX4 yX4_addKey yX4_addKey) : Cond) ∈ xall := xall_t 179 (by decide +kernel) (by decide +kernel)
theorem tw_180 : ((.code yX4_addKey prog_6_method_7_code 10 (some .int)) : Cond) ∈ xall := xall_t 180 (by decide +kernel) (by decide +kernel)
theorem tw_181 : ((.methodLink RX4 43 yX4_mayWrite) : Cond) ∈ xall := xall_t 181 (by decide +kernel) (by decide +kernel)
theorem tw_182 : ((.instanceMethod yX4_mayWrite) : Cond) ∈ xall := xall_t 182 (by decide +kernel) (by decide +kernel)
theorem tw_183 : ((.selects RX4 yX4_mayWrite yX4_mayWrite) : Cond) ∈ xall := xall_t 183 (by decide +kernel) (by decide +kernel)
theorem tw_184 : ((.code yX4_mayWrite prog_6_method_4_code 2 (some .boolean)) : Cond) ∈ xall := xall_t 184 (by decide +kernel) (by decide +kernel)
theorem tw_185 : ((.methodLink RX4 40 yX4_has) : Cond) ∈ xall := xall_t 185 (by decide +kernel) (by decide +kernel)
theorem tw_186 : ((.instanceMethod yX4_has) : Cond) ∈ xall := xall_t 186 (by decide +kernel) (by decide +kernel)
theorem tw_187 : ((.selects RX4 yX4_has yX4_has) : Cond) ∈ xall := xall_t 187 (by decide +kernel) (by decide +kernel)
theorem tw_188 : ((.code yX4_has prog_6_method_3_code 2 (some .boolean)) : Cond) ∈ xall := xall_t 188 (by decide +kernel) (by decide +kernel)
theorem tw_193 : ((.methodLink RX5 73 yX5_sumUnder) : Cond) ∈ xall := xall_t 193 (by decide +kernel) (by decide +kernel)
theorem tw_194 : ((.static yX5_sumUnder) : Cond) ∈ xall := xall_t 194 (by decide +kernel) (by decide +kernel)
theorem tw_195 : ((.code yX5_sumUnder prog_1_method_20_code 6 (some .long)) : Cond) ∈ xall := xall_t 195 (by decide +kernel) (by decide +kernel)
theorem tw_196 : ((.methodLink RX5 160 yX5_mixWord) : Cond) ∈ xall := xall_t 196 (by decide +kernel) (by decide +kernel)
theorem tw_197 : ((.static yX5_mixWord) : Cond) ∈ xall := xall_t 197 (by decide +kernel) (by decide +kernel)
theorem tw_198 : ((.code yX5_mixWord prog_1_method_21_code 7 (some .long)) : Cond) ∈ xall := xall_t 198 (by decide +kernel) (by decide +kernel)
theorem tw_199 : ((.constantLong RX5 164 255) : Cond) ∈ xall := xall_t 199 (by decide +kernel) (by decide +kernel)
theorem tw_200 : ((.constantLong RX5 166 (-7046029254386353131)) : Cond) ∈ xall := xall_t 200 (by decide +kernel) (by decide +kernel)
theorem tw_205 : ((.methodLink RX5 77 yX4_mayWrite) : Cond) ∈ xall := xall_t 205 (by decide +kernel) (by decide +kernel)
theorem tw_206 : ((.methodLink RX5 81 yX4_fits) : Cond) ∈ xall := xall_t 206 (by decide +kernel) (by decide +kernel)
theorem tw_207 : ((.instanceMethod yX4_fits) : Cond) ∈ xall := xall_t 207 (by decide +kernel) (by decide +kernel)
theorem tw_208 : ((.selects RX4 yX4_fits yX4_fits) : Cond) ∈ xall := xall_t 208 (by decide +kernel) (by decide +kernel)
theorem tw_209 : ((.code yX4_fits prog_6_method_8_code 14 (some .boolean)) : Cond) ∈ xall := xall_t 209 (by decide +kernel) (by decide +kernel)
theorem tw_211 : ((.methodLink RX5 85 yX2_hasLike) : Cond) ∈ xall := xall_t 211 (by decide +kernel) (by decide +kernel)
theorem tw_212 : ((.instanceMethod yX2_hasLike) : Cond) ∈ xall := xall_t 212 (by decide +kernel) (by decide +kernel)
theorem tw_213 : ((.selects RX2 yX2_hasLike yX2_hasLike) : Cond) ∈ xall := xall_t 213 (by decide +kernel) (by decide +kernel)
theorem tw_214 : ((.code yX2_hasLike prog_4_method_5_code 8 (some .boolean)) : Cond) ∈ xall := xall_t 214 (by decide +kernel) (by decide +kernel)
theorem tw_215 : ((.methodLink RX5 89 yX4_levelOf) : Cond) ∈ xall := xall_t 215 (by decide +kernel) (by decide +kernel)
theorem tw_216 : ((.instanceMethod yX4_levelOf) : Cond) ∈ xall := xall_t 216 (by decide +kernel) (by decide +kernel)
theorem tw_217 : ((.selects RX4 yX4_levelOf yX4_levelOf) : Cond) ∈ xall := xall_t 217 (by decide +kernel) (by decide +kernel)
theorem tw_218 : ((.code yX4_levelOf prog_6_method_5_code 2 (some .int)) : Cond) ∈ xall := xall_t 218 (by decide +kernel) (by decide +kernel)
theorem tw_219 : ((.methodLink RX5 92 yX2_add) : Cond) ∈ xall := xall_t 219 (by decide +kernel) (by decide +kernel)
theorem tw_220 : ((.instanceMethod yX2_add) : Cond) ∈ xall := xall_t 220 (by decide +kernel) (by decide +kernel)
theorem tw_221 : ((.selects RX2 yX2_add yX2_add) : Cond) ∈ xall := xall_t 221 (by decide +kernel) (by decide +kernel)
theorem tw_222 : ((.code yX2_add prog_4_method_2_code 10 (some .int)) : Cond) ∈ xall := xall_t 222 (by decide +kernel) (by decide +kernel)
theorem tw_223 : ((.methodLink RX5 95 yX5_noteClash) : Cond) ∈ xall := xall_t 223 (by decide +kernel) (by decide +kernel)
theorem tw_225 : ((.instanceMethod yX5_noteClash) : Cond) ∈ xall := xall_t 225 (by decide +kernel) (by decide +kernel)
theorem tw_226 : ((.code yX5_noteClash prog_1_method_16_code 5 none) : Cond) ∈ xall := xall_t 226 (by decide +kernel) (by decide +kernel)
theorem tw_227 : ((.methodLink RX5 129 yX1_has) : Cond) ∈ xall := xall_t 227 (by decide +kernel) (by decide +kernel)
theorem tw_228 : ((.instanceMethod yX1_has) : Cond) ∈ xall := xall_t 228 (by decide +kernel) (by decide +kernel)
theorem tw_229 : ((.selects RX1 yX1_has yX1_has) : Cond) ∈ xall := xall_t 229 (by decide +kernel) (by decide +kernel)
theorem tw_230 : ((.code yX1_has prog_3_method_3_code 4 (some .boolean)) : Cond) ∈ xall := xall_t 230 (by decide +kernel) (by decide +kernel)
theorem tw_231 : ((.methodLink RX5 154 yX2_firstAgainst) : Cond) ∈ xall := xall_t 231 (by decide +kernel) (by decide +kernel)
theorem tw_232 : ((.instanceMethod yX2_firstAgainst) : Cond) ∈ xall := xall_t 232 (by decide +kernel) (by decide +kernel)
theorem tw_233 : ((.selects RX2 yX2_firstAgainst yX2_firstAgainst) : Cond) ∈ xall := xall_t 233 (by decide +kernel) (by decide +kernel)
theorem tw_234 : ((.code yX2_firstAgainst prog_4_method_7_code 4 (some .int)) : Cond) ∈ xall := xall_t 234 (by decide +kernel) (by decide +kernel)
theorem tw_235 : ((.methodLink RX2 36 yX2_isStanding) : Cond) ∈ xall := xall_t 235 (by decide +kernel) (by decide +kernel)
theorem tw_236 : ((.instanceMethod yX2_isStanding) : Cond) ∈ xall := xall_t 236 (by decide +kernel) (by decide +kernel)
theorem tw_237 : ((.selects RX2 yX2_isStanding yX2_isStanding) : Cond) ∈ xall := xall_t 237 (by decide +kernel) (by decide +kernel)
theorem tw_238 : ((.code yX2_isStanding prog_4_method_3_code 2 (some .boolean)) : Cond) ∈ xall := xall_t 238 (by decide +kernel) (by decide +kernel)
theorem tw_239 : ((.methodLink RX5 157 yX1_add) : Cond) ∈ xall := xall_t 239 (by decide +kernel) (by decide +kernel)
theorem tw_240 : ((.instanceMethod yX1_add) : Cond) ∈ xall := xall_t 240 (by decide +kernel) (by decide +kernel)
theorem tw_241 : ((.selects RX1 yX1_add yX1_add) : Cond) ∈ xall := xall_t 241 (by decide +kernel) (by decide +kernel)
theorem tw_242 : ((.code yX1_add prog_3_method_2_code 5 none) : Cond) ∈ xall := xall_t 242 (by decide +kernel) (by decide +kernel)
theorem tw_247 : ((.methodLink RX5 99 yX2_isStanding) : Cond) ∈ xall := xall_t 247 (by decide +kernel) (by decide +kernel)
theorem tw_252 : ((.methodLink RX5 102 yX4_shutOut) : Cond) ∈ xall := xall_t 252 (by decide +kernel) (by decide +kernel)
theorem tw_253 : ((.instanceMethod yX4_shutOut) : Cond) ∈ xall := xall_t 253 (by decide +kernel) (by decide +kernel)
theorem tw_254 : ((.selects RX4 yX4_shutOut yX4_shutOut) : Cond) ∈ xall := xall_t 254 (by decide +kernel) (by decide +kernel)
theorem tw_255 : ((.code yX4_shutOut prog_6_method_6_code 2 none) : Cond) ∈ xall := xall_t 255 (by decide +kernel) (by decide +kernel)
theorem tw_256 : ((.methodLink RX5 106 yX2_dropAllOf) : Cond) ∈ xall := xall_t 256 (by decide +kernel) (by decide +kernel)
theorem tw_257 : ((.instanceMethod yX2_dropAllOf) : Cond) ∈ xall := xall_t 257 (by decide +kernel) (by decide +kernel)
theorem tw_258 : ((.selects RX2 yX2_dropAllOf yX2_dropAllOf) : Cond) ∈ xall := xall_t 258 (by decide +kernel) (by decide +kernel)
theorem tw_259 : ((.code yX2_dropAllOf prog_4_method_6_code 4 (some .int)) : Cond) ∈ xall := xall_t 259 (by decide +kernel) (by decide +kernel)
theorem tw_264 : ((.methodLink RX5 109 yX3_add) : Cond) ∈ xall := xall_t 264 (by decide +kernel) (by decide +kernel)
theorem tw_265 : ((.instanceMethod yX3_add) : Cond) ∈ xall := xall_t 265 (by decide +kernel) (by decide +kernel)
theorem tw_266 : ((.selects RX3 yX3_add yX3_add) : Cond) ∈ xall := xall_t 266 (by decide +kernel) (by decide +kernel)
theorem tw_267 : ((.code yX3_add prog_5_method_2_code 6 (some .int)) : Cond) ∈ xall := xall_t 267 (by decide +kernel) (by decide +kernel)
theorem tw_269 : ((.static yX5_isPlaceOrAny) : Cond) ∈ xall := xall_t 269 (by decide +kernel) (by decide +kernel)
theorem tw_270 : ((.code yX5_isPlaceOrAny prog_1_method_18_code 1 (some .boolean)) : Cond) ∈ xall := xall_t 270 (by decide +kernel) (by decide +kernel)
theorem tw_271 : ((.methodLink RX5 112 yX5_isPlace) : Cond) ∈ xall := xall_t 271 (by decide +kernel) (by decide +kernel)
theorem tw_272 : ((.static yX5_isPlace) : Cond) ∈ xall := xall_t 272 (by decide +kernel) (by decide +kernel)
theorem tw_273 : ((.code yX5_isPlace prog_1_method_17_code 1 (some .boolean)) : Cond) ∈ xall := xall_t 273 (by decide +kernel) (by decide +kernel)
theorem tw_279 : ((.methodLink RX5 115 yX3_best) : Cond) ∈ xall := xall_t 279 (by decide +kernel) (by decide +kernel)
theorem tw_280 : ((.instanceMethod yX3_best) : Cond) ∈ xall := xall_t 280 (by decide +kernel) (by decide +kernel)
theorem tw_281 : ((.selects RX3 yX3_best yX3_best) : Cond) ∈ xall := xall_t 281 (by decide +kernel) (by decide +kernel)
theorem tw_282 : ((.code yX3_best prog_5_method_3_code 7 (some .int)) : Cond) ∈ xall := xall_t 282 (by decide +kernel) (by decide +kernel)
theorem tw_283 : ((.methodLink RX3 35 yX3_rankFor) : Cond) ∈ xall := xall_t 283 (by decide +kernel) (by decide +kernel)
theorem tw_285 : ((.instanceMethod yX3_rankFor) : Cond) ∈ xall := xall_t 285 (by decide +kernel) (by decide +kernel)
theorem tw_286 : ((.code yX3_rankFor prog_5_method_7_code 8 (some .int)) : Cond) ∈ xall := xall_t 286 (by decide +kernel) (by decide +kernel)
theorem tw_287 : ((.methodLink RX3 39 yX3_has) : Cond) ∈ xall := xall_t 287 (by decide +kernel) (by decide +kernel)
theorem tw_289 : ((.instanceMethod yX3_has) : Cond) ∈ xall := xall_t 289 (by decide +kernel) (by decide +kernel)
theorem tw_290 : ((.code yX3_has prog_5_method_6_code 2 (some .boolean)) : Cond) ∈ xall := xall_t 290 (by decide +kernel) (by decide +kernel)
theorem tw_299 : ((.methodLink RX5 118 yX2_latestOwn) : Cond) ∈ xall := xall_t 299 (by decide +kernel) (by decide +kernel)
theorem tw_300 : ((.instanceMethod yX2_latestOwn) : Cond) ∈ xall := xall_t 300 (by decide +kernel) (by decide +kernel)
theorem tw_301 : ((.selects RX2 yX2_latestOwn yX2_latestOwn) : Cond) ∈ xall := xall_t 301 (by decide +kernel) (by decide +kernel)
theorem tw_302 : ((.code yX2_latestOwn prog_4_method_8_code 10 (some .int)) : Cond) ∈ xall := xall_t 302 (by decide +kernel) (by decide +kernel)
theorem tw_303 : ((.methodLink RX2 40 yX2_counts) : Cond) ∈ xall := xall_t 303 (by decide +kernel) (by decide +kernel)
theorem tw_305 : ((.instanceMethod yX2_counts) : Cond) ∈ xall := xall_t 305 (by decide +kernel) (by decide +kernel)
theorem tw_306 : ((.code yX2_counts prog_4_method_12_code 7 (some .boolean)) : Cond) ∈ xall := xall_t 306 (by decide +kernel) (by decide +kernel)
theorem tw_307 : ((.methodLink RX5 122 yX0_add) : Cond) ∈ xall := xall_t 307 (by decide +kernel) (by decide +kernel)
theorem tw_308 : ((.instanceMethod yX0_add) : Cond) ∈ xall := xall_t 308 (by decide +kernel) (by decide +kernel)
theorem tw_309 : ((.selects RX0 yX0_add yX0_add) : Cond) ∈ xall := xall_t 309 (by decide +kernel) (by decide +kernel)
theorem tw_310 : ((.code yX0_add prog_2_method_2_code 7 none) : Cond) ∈ xall := xall_t 310 (by decide +kernel) (by decide +kernel)
theorem tw_311 : ((.methodLink RX5 125 yX2_digestOf) : Cond) ∈ xall := xall_t 311 (by decide +kernel) (by decide +kernel)
theorem tw_312 : ((.instanceMethod yX2_digestOf) : Cond) ∈ xall := xall_t 312 (by decide +kernel) (by decide +kernel)
theorem tw_313 : ((.selects RX2 yX2_digestOf yX2_digestOf) : Cond) ∈ xall := xall_t 313 (by decide +kernel) (by decide +kernel)
theorem tw_314 : ((.code yX2_digestOf prog_4_method_4_code 2 (some .long)) : Cond) ∈ xall := xall_t 314 (by decide +kernel) (by decide +kernel)
theorem tw_315 : ((.methodLink RX5 133 yX3_levelOf) : Cond) ∈ xall := xall_t 315 (by decide +kernel) (by decide +kernel)
theorem tw_316 : ((.instanceMethod yX3_levelOf) : Cond) ∈ xall := xall_t 316 (by decide +kernel) (by decide +kernel)
theorem tw_317 : ((.selects RX3 yX3_levelOf yX3_levelOf) : Cond) ∈ xall := xall_t 317 (by decide +kernel) (by decide +kernel)
theorem tw_318 : ((.code yX3_levelOf prog_5_method_4_code 2 (some .int)) : Cond) ∈ xall := xall_t 318 (by decide +kernel) (by decide +kernel)
theorem tw_319 : ((.methodLink RX5 134 yX2_countWriters) : Cond) ∈ xall := xall_t 319 (by decide +kernel) (by decide +kernel)
theorem tw_320 : ((.instanceMethod yX2_countWriters) : Cond) ∈ xall := xall_t 320 (by decide +kernel) (by decide +kernel)
theorem tw_321 : ((.selects RX2 yX2_countWriters yX2_countWriters) : Cond) ∈ xall := xall_t 321 (by decide +kernel) (by decide +kernel)
theorem tw_322 : ((.code yX2_countWriters prog_4_method_9_code 8 (some .int)) : Cond) ∈ xall := xall_t 322 (by decide +kernel) (by decide +kernel)
theorem tw_323 : ((.methodLink RX2 44 yJI_bitCount) : Cond) ∈ xall := xall_t 323 (by decide +kernel) (by decide +kernel)
theorem tw_324 : ((.static yJI_bitCount) : Cond) ∈ xall := xall_t 324 (by decide +kernel) (by decide +kernel)
theorem tw_325 : ((.code yJI_bitCount prog_9_method_49_code 1 (some .int)) : Cond) ∈ xall := xall_t 325 (by decide +kernel) (by decide +kernel)
theorem tw_326 : ((.constant RJI 265 1431655765) : Cond) ∈ xall := xall_t 326 (by decide +kernel) (by decide +kernel)
theorem tw_327 : ((.constant RJI 266 858993459) : Cond) ∈ xall := xall_t 327 (by decide +kernel) (by decide +kernel)
theorem tw_328 : ((.constant RJI 267 252645135) : Cond) ∈ xall := xall_t 328 (by decide +kernel) (by decide +kernel)
theorem tw_329 : ((.methodLink RX5 138 yX3_wantedOf) : Cond) ∈ xall := xall_t 329 (by decide +kernel) (by decide +kernel)
theorem tw_330 : ((.instanceMethod yX3_wantedOf) : Cond) ∈ xall := xall_t 330 (by decide +kernel) (by decide +kernel)
theorem tw_331 : ((.selects RX3 yX3_wantedOf yX3_wantedOf) : Cond) ∈ xall := xall_t 331 (by decide +kernel) (by decide +kernel)
theorem tw_332 : ((.code yX3_wantedOf prog_5_method_5_code 3 (some .int)) : Cond) ∈ xall := xall_t 332 (by decide +kernel) (by decide +kernel)
theorem tw_333 : ((.methodLink RX5 141 yX2_tellOneDigest) : Cond) ∈ xall := xall_t 333 (by decide +kernel) (by decide +kernel)
theorem tw_334 : ((.instanceMethod yX2_tellOneDigest) : Cond) ∈ xall := xall_t 334 (by decide +kernel) (by decide +kernel)
theorem tw_335 : ((.selects RX2 yX2_tellOneDigest yX2_tellOneDigest) : Cond) ∈ xall := xall_t 335 (by decide +kernel) (by decide +kernel)
theorem tw_336 : ((.code yX2_tellOneDigest prog_4_method_11_code 9 (some .boolean)) : Cond) ∈ xall := xall_t 336 (by decide +kernel) (by decide +kernel)
theorem tw_337 : ((.methodLink RX2 50 yX2_firstCounting) : Cond) ∈ xall := xall_t 337 (by decide +kernel) (by decide +kernel)
theorem tw_338 : ((.instanceMethod yX2_firstCounting) : Cond) ∈ xall := xall_t 338 (by decide +kernel) (by decide +kernel)
theorem tw_339 : ((.selects RX2 yX2_firstCounting yX2_firstCounting) : Cond) ∈ xall := xall_t 339 (by decide +kernel) (by decide +kernel)
theorem tw_340 : ((.code yX2_firstCounting prog_4_method_10_code 7 (some .int)) : Cond) ∈ xall := xall_t 340 (by decide +kernel) (by decide +kernel)
theorem tw_341 : ((.methodLink RX2 54 yX2_digestOf) : Cond) ∈ xall := xall_t 341 (by decide +kernel) (by decide +kernel)
theorem tw_342 : ((.methodLink RX5 145 yX2_firstCounting) : Cond) ∈ xall := xall_t 342 (by decide +kernel) (by decide +kernel)
theorem tw_355 : ((.methodLink RX5 148 yX1_numberAt) : Cond) ∈ xall := xall_t 355 (by decide +kernel) (by decide +kernel)
theorem tw_356 : ((.instanceMethod yX1_numberAt) : Cond) ∈ xall := xall_t 356 (by decide +kernel) (by decide +kernel)
theorem tw_357 : ((.selects RX1 yX1_numberAt yX1_numberAt) : Cond) ∈ xall := xall_t 357 (by decide +kernel) (by decide +kernel)
theorem tw_358 : ((.code yX1_numberAt prog_3_method_4_code 3 (some .int)) : Cond) ∈ xall := xall_t 358 (by decide +kernel) (by decide +kernel)
theorem tw_363 : ((.methodLink RX5 151 yX0_valueAt) : Cond) ∈ xall := xall_t 363 (by decide +kernel) (by decide +kernel)
theorem tw_364 : ((.instanceMethod yX0_valueAt) : Cond) ∈ xall := xall_t 364 (by decide +kernel) (by decide +kernel)
theorem tw_365 : ((.selects RX0 yX0_valueAt yX0_valueAt) : Cond) ∈ xall := xall_t 365 (by decide +kernel) (by decide +kernel)
theorem tw_366 : ((.code yX0_valueAt prog_2_method_3_code 3 (some .int)) : Cond) ∈ xall := xall_t 366 (by decide +kernel) (by decide +kernel)
end
section
/-! my own rows over the kit's: contracts of one form, calls of one row -/
/-- the nest mates' call words, which no word list carries: they go with the world -/
def xx_N (U : State) : Prop := ∀ q ∈ xx_nest, va_Nw (.methodLinkNest q.1 q.2.1 q.2.2.1 q.2.2.2) U
theorem xx_N.warm {s U : State} (hW : s.WarmedH U.vm) (h : xx_N s) : xx_N U := fun q hq => va_Nw.warmM hW (h q hq)
theorem xx_N.same {s U : State} (hv : s.vm = U.vm) (h : xx_N s) : xx_N U := fun q hq => va_Nw.same rfl hv (h q hq)
/-- a method's start: its arguments, its cells, the classes, the nest words -/
def xx_Pre (D : va_G) (cl : List vw_C) (tys : List (ClassId × FieldType)) (av : List Value) (ws : va_W) (sz : Nat) : Array Value → State → Prop := va_Pc av (fun U => U.heap.size = sz ∧ va_P D cl ws U.heap ∧ (va_K D cl tys U ∧ xx_N U) ∧ va_D (fun _ => True) ws)
/-- a method's end: the cells that it leaves -/
def xx_B {S : Type} (D : va_G) (cl : List vw_C) (tys : List (ClassId × FieldType)) (A : Nat → Prop) (w : S → va_W) : S → State → Prop := fun u t => va_P D cl (w u) t.heap ∧ va_K D cl tys t ∧ va_D A (w u)
def xx_Ci {S : Type} (l : Launch) (y : MethodName) (ws : List Cond) (rm : Room) (D : va_G) (cl : List vw_C) (tys : List (ClassId × FieldType)) (av : List Value) (w0 : va_W) (post : Int32 → S → Prop) (w1 : S → va_W) (mc ms : Nat) : Prop :=
  ∀ sz : Nat, Met l y ws rm (xx_Pre D cl tys av w0 sz) (va_Qi post (xx_B D cl tys (va_A w0 sz) w1) (va_A w0 sz)) mc ms (va_A w0 sz)
def xx_Cl {S : Type} (l : Launch) (y : MethodName) (ws : List Cond) (rm : Room) (D : va_G) (cl : List vw_C) (tys : List (ClassId × FieldType)) (av : List Value) (w0 : va_W) (post : Int64 → S → Prop) (w1 : S → va_W) (mc ms : Nat) : Prop :=
  ∀ sz : Nat, Met l y ws rm (xx_Pre D cl tys av w0 sz) (va_Ql post (xx_B D cl tys (va_A w0 sz) w1) (va_A w0 sz)) mc ms (va_A w0 sz)
def xx_Cv {S : Type} (l : Launch) (y : MethodName) (ws : List Cond) (rm : Room) (D : va_G) (cl : List vw_C) (tys : List (ClassId × FieldType)) (av : List Value) (w0 : va_W) (post : S → Prop) (w1 : S → va_W) (mc ms : Nat) : Prop :=
  ∀ sz : Nat, Met l y ws rm (xx_Pre D cl tys av w0 sz) (va_Qv post (xx_B D cl tys (va_A w0 sz) w1) (va_A w0 sz)) mc ms (va_A w0 sz)
theorem xx_blind {D : va_G} {cl : List vw_C} {tys : List (ClassId × FieldType)} {av : List Value} {ws : va_W} {sz : Nat} : FrameBlind (xx_Pre D cl tys av ws sz) := by
  intro a U g mk q
  obtain ⟨q0, q1, qP, ⟨qK, qN⟩, qD⟩ := q
  exact ⟨q0, q1, qP, ⟨va_K.moved (u := U) (U := U.calling g mk a) (Vm.Alike.refl U.vm) qK, xx_N.same (s := U) (U := U.calling g mk a) rfl qN⟩, qD⟩
theorem xx_subP {D : va_G} {cl : List vw_C} {ws wc : va_W} {H : Heap} (hP : va_P D cl ws H) (is : List Nat) (hC : is.map (fun i => ws[i]?) = wc.map some) : va_P D cl wc H := by
  intro k q hq
  have h1 : (is.map (fun i => ws[i]?))[k]? = some (some q) := by rw [hC, List.getElem?_map, hq]; rfl
  rw [List.getElem?_map] at h1
  cases hi : is[k]? with
  | none => rw [hi] at h1; cases h1
  | some i => rw [hi] at h1; exact hP i q (Option.some.inj h1)
theorem xx_preS {s : State} {H : Heap} {D : va_G} {cl : List vw_C} {tys : List (ClassId × FieldType)} {A : Nat → Prop} {ws wc : va_W} (hK : va_K D cl tys s) (hN : xx_N s) (hP : va_P D cl ws H) (hD : va_D A ws) (is : List Nat) (hn : va_nd is = true) (hC : is.map (fun i => ws[i]?) = wc.map some) {As : List Value} : PreS s H (xx_Pre D cl tys As wc H.size) As :=
  ⟨xx_blind, fun U hU hW => ⟨rfl, by rw [hU], by rw [hU]; exact xx_subP hP is hC, ⟨va_K.moved hW.alike hK, hN.warm hW⟩, (hD.sub is hn hC).weaken (fun _ _ _ _ => trivial)⟩⟩
theorem xx_preV {s : State} {H : Heap} {D : va_G} {cl : List vw_C} {tys : List (ClassId × FieldType)} {A : Nat → Prop} {ws wc : va_W} (hK : va_K D cl tys s) (hN : xx_N s) (hP : va_P D cl ws H) (hD : va_D A ws) (is : List Nat) (hn : va_nd is = true) (hC : is.map (fun i => ws[i]?) = wc.map some) {As : List Value} {b : Nat} (ci q0 : Nat) {C : String} {T : u_T} {n : Nat} {fs : List Value} (hc : cl[ci]? = some (C, T, n)) (he : ws[q0]? = some (b, .inr (ci, fs))) : PreV s H C b (xx_Pre D cl tys (.ref b :: As) wc H.size) As :=
  ⟨xx_blind, va_recv hK hP hc he, fun U hU hW => ⟨rfl, by rw [hU], by rw [hU]; exact xx_subP hP is hC, ⟨va_K.moved hW.alike hK, hN.warm hW⟩, (hD.sub is hn hC).weaken (fun _ _ _ _ => trivial)⟩⟩
/-- a contract out of a walk -/
theorem xx_met {l : Launch} {y : MethodName} {ws : List Cond} {rm : Room} {cc : ByteArray} {maxL : Nat} {ret : Option FieldType} {Qf : (Nat → Prop) → Array Value → State → Outcome → State → Prop} {mc ms sz : Nat} {av : List Value} {w0 : va_W} {D : va_G} {cl : List vw_C} {tys : List (ClassId × FieldType)}
    (hy : plainName y.cls = true) (hw : ws = Cond.code y cc maxL ret :: xall) (hav : (lg_sl av).length ≤ maxL)
    (body : ∀ (p : Program) (e : Env) (s : State) (m : MethodId) (below : List Frame) (meth : Method) (c : Code) (A : Nat → Prop) (ls : Array Slot), p.tables.exec = Jvm.exec → c.code = cc → meth.sig.returnType = ret → (∀ w ∈ xall, w.before av.toArray s = true) → s.vm.findClass y.cls = some m.cls → meth.locks = false → meth.name = y.name → c.maxLocals = maxL → (∀ q, s.heap.size ≤ q → A q) → va_S A s.heap s.heap [] → va_P D cl w0 s.heap → va_D A w0 → va_K D cl tys s → xx_N s → lv_has ls maxL (lv_args 0 av) →
      W p l e rm s m av.toArray below meth c s.heap [] 0 0 (MQ below (Qf A) av.toArray s mc ms A) (F0 m 0 ls [])) :
    Met l y ws rm (xx_Pre D cl tys av w0 sz) (Qf (va_A w0 sz)) mc ms (va_A w0 sz) := by
  refine Met.ofW (cc := cc) (maxL := maxL) (ret := ret) hy hw ?_
  intro p e s m args below meth c s₁ B hml hv
  obtain ⟨rfl, hsz, hP, ⟨hK, hN⟩, hD0⟩ := hv
  have hts0 := atoms_spec (ws := ws) B.pre
  have hts : ∀ w ∈ xall, w.before av.toArray s = true := fun w h => hts0 w (by rw [hw]; exact List.mem_cons_of_mem _ h)
  have hown : s.vm.findClass y.cls = some m.cls := findClass_of_methodNamed B.named
  have hin : meth.name = y.name := (name_of_methodNamed B.named B.method).1
  subst hsz
  have hl := lv_entry av (n := maxL) hav
  rw [lg_entry_eq]
  exact body p e s m below meth c (va_A w0 s.heap.size) _ B.exec B.bytes B.returns hts hown B.notSynchronized hin hml (fun q h => Or.inr h) va_S.rf hP hD0.self hK hN hl
theorem xall_good {w : Cond} (h : w ∈ xall) : (w.onTables && w.keeps) = true ∨ ∃ ty, w = .arrayClass ty := good_of_word (List.mem_filter.mp h).2
theorem xx_gc {w : Cond} (h : w ∈ xall) : GoodIn xall (w :: xall) := fun x hx => by
  rcases List.mem_cons.mp hx with rfl | hx
  · exact ⟨h, xall_good h⟩
  · exact ⟨hx, xall_good hx⟩
theorem xx_gl {big a b : List Cond} (ha : ∀ w ∈ a, w ∈ xall) (hb : GoodIn xall b) : GoodIn xall (a ++ b) := fun w h => by
  rcases List.mem_append.mp h with h | h
  · exact ⟨ha w h, xall_good (ha w h)⟩
  · exact hb w h
theorem xx_gV {own : String} {idx : Nat} {C : String} {y : MethodName} {w : Cond} (h1 : (.methodLink own idx y : Cond) ∈ xall) (h2 : (.instanceMethod y : Cond) ∈ xall) (h3 : (.selects C y y : Cond) ∈ xall) (h4 : (.initialized C : Cond) ∈ xall) (h5 : w ∈ xall) : GoodIn xall (wsV own idx C y (w :: xall)) := by
  refine xx_gl (big := xall) ?_ (xx_gc h5)
  intro w hw
  simp only [List.mem_cons, List.not_mem_nil, or_false] at hw
  rcases hw with rfl | rfl | rfl | rfl <;> assumption
theorem xx_gS {own : String} {idx : Nat} {y : MethodName} {w : Cond} (h1 : (.methodLink own idx y : Cond) ∈ xall) (h2 : (.static y : Cond) ∈ xall) (h3 : (.initialized y.cls : Cond) ∈ xall) (h5 : w ∈ xall) : GoodIn xall (va_wsS own idx y (w :: xall)) := by
  refine xx_gl (big := xall) ?_ (xx_gc h5)
  intro w hw
  simp only [List.mem_cons, List.not_mem_nil, or_false] at hw
  rcases hw with rfl | rfl | rfl <;> assumption
section XXR
variable {p : Program} {l : Launch} {e : Env} {R : Room} {s : State} {m : MethodId} {args : Array Value} {below : List Frame} {meth : Method} {c : Code} {H : Heap} {locs : List Loc} {cells slots : Nat} {Q : State → Prop}
variable {cc : ByteArray} {pc : Nat} {ls : Array Slot} {rest st0 : List Value} {D : va_G} {cl : List vw_C} {A : Nat → Prop} {a : Nat} {tys : List (ClassId × FieldType)} {ws : va_W} {H0 : Heap}
theorem xx_topi {x y : Int32} (h : x = y) (k : W p l e R s m args below meth c H locs cells slots Q (F0 m pc ls (.int y :: rest))) : W p l e R s m args below meth c H locs cells slots Q (F0 m pc ls (.int x :: rest)) := by rw [h]; exact k
theorem xx_topl {x y : Int64} (h : x = y) (k : W p l e R s m args below meth c H locs cells slots Q (F0 m pc ls (.long y :: rest))) : W p l e R s m args below meth c H locs cells slots Q (F0 m pc ls (.long x :: rest)) := by rw [h]; exact k
theorem xx_iald (hexec : p.tables.exec = Jvm.exec) (hb : c.code = cc) (hK : va_K D cl tys s) (hP : va_P D cl ws H) (q0 t0 : Nat) {cA : ClassId} {n : Nat} {f : Nat → Int32} (ha : ws[q0]? = some (a, .inl (cA, n, .inl f))) (ht : tys[t0]? = some (cA, .int)) {i : Nat} (hi : i < n) (hn : n < 2 ^ 31) (hdg : decode cc pc = .ok (.iaload, 1))
    (kk : W p l e R s m args below meth c H locs cells slots Q (F0 m (pc + 1) ls (.int (f i) :: rest))) : W p l e R s m args below meth c H locs cells slots Q (F0 m pc ls (.int (nI i) :: .ref a :: rest)) :=
  va_iald hexec hb hK hP q0 t0 ha ht (vp_in_nI hi hn) hdg (by rw [nI_clamp (Nat.lt_trans hi hn)]; exact kk)
theorem xx_zald (hexec : p.tables.exec = Jvm.exec) (hb : c.code = cc) (hK : va_K D cl tys s) (hP : va_P D cl ws H) (q0 t0 : Nat) {cA : ClassId} {n : Nat} {f : Nat → Int32} (ha : ws[q0]? = some (a, .inl (cA, n, .inl f))) (ht : tys[t0]? = some (cA, .boolean)) {i : Nat} (hi : i < n) (hn : n < 2 ^ 31) (hdg : decode cc pc = .ok (.baload, 1))
    (kk : W p l e R s m args below meth c H locs cells slots Q (F0 m (pc + 1) ls (.int (f i) :: rest))) : W p l e R s m args below meth c H locs cells slots Q (F0 m pc ls (.int (nI i) :: .ref a :: rest)) :=
  va_zald hexec hb hK hP q0 t0 ha ht (vp_in_nI hi hn) hdg (by rw [nI_clamp (Nat.lt_trans hi hn)]; exact kk)
theorem xx_lald (hexec : p.tables.exec = Jvm.exec) (hb : c.code = cc) (hK : va_K D cl tys s) (hP : va_P D cl ws H) (q0 t0 : Nat) {cA : ClassId} {n : Nat} {f : Nat → Int64} (ha : ws[q0]? = some (a, .inl (cA, n, .inr (.inl f)))) (ht : tys[t0]? = some (cA, .long)) {i : Nat} (hi : i < n) (hn : n < 2 ^ 31) (hdg : decode cc pc = .ok (.laload, 1))
    (kk : W p l e R s m args below meth c H locs cells slots Q (F0 m (pc + 1) ls (.long (f i) :: rest))) : W p l e R s m args below meth c H locs cells slots Q (F0 m pc ls (.int (nI i) :: .ref a :: rest)) :=
  va_lald hexec hb hK hP q0 t0 ha ht (vp_in_nI hi hn) hdg (by rw [nI_clamp (Nat.lt_trans hi hn)]; exact kk)
theorem xx_iast (hexec : p.tables.exec = Jvm.exec) (hb : c.code = cc) (hK : va_K D cl tys s) (hP : va_P D cl ws H) (hD : va_D A ws) (hS : va_S A H0 H locs) (q0 t0 : Nat) {cA : ClassId} {n : Nat} {f g : Nat → Int32} (ha : ws[q0]? = some (a, .inl (cA, n, .inl f))) (ht : tys[t0]? = some (cA, .int)) {i : Nat} {x : Int32} (hi : i < n) (hn : n < 2 ^ 31) (hg : upd f i x = g) (hdg : decode cc pc = .ok (.iastore, 1))
    (kk : ∀ (H1 : Heap) (locs1 : List Loc), va_P D cl (ws.set q0 (a, .inl (cA, n, .inl g))) H1 → va_D A (ws.set q0 (a, .inl (cA, n, .inl g))) → va_S A H0 H1 locs1 → W p l e R s m args below meth c H1 locs1 cells slots Q (F0 m (pc + 1) ls rest)) : W p l e R s m args below meth c H locs cells slots Q (F0 m pc ls (.int x :: .int (nI i) :: .ref a :: rest)) := by
  subst hg
  refine va_iast hexec hb hK hP hD hS q0 t0 ha ht (vp_in_nI hi hn) hdg ?_
  rw [nI_clamp (Nat.lt_trans hi hn)]
  exact kk
theorem xx_zast (hexec : p.tables.exec = Jvm.exec) (hb : c.code = cc) (hK : va_K D cl tys s) (hP : va_P D cl ws H) (hD : va_D A ws) (hS : va_S A H0 H locs) (q0 t0 : Nat) {cA : ClassId} {n : Nat} {f g : Nat → Int32} (ha : ws[q0]? = some (a, .inl (cA, n, .inl f))) (ht : tys[t0]? = some (cA, .boolean)) {i : Nat} {x : Int32} (hi : i < n) (hn : n < 2 ^ 31) (hx1 : vp_nar .boolean x = x) (hg : upd f i x = g) (hdg : decode cc pc = .ok (.bastore, 1))
    (kk : ∀ (H1 : Heap) (locs1 : List Loc), va_P D cl (ws.set q0 (a, .inl (cA, n, .inl g))) H1 → va_D A (ws.set q0 (a, .inl (cA, n, .inl g))) → va_S A H0 H1 locs1 → W p l e R s m args below meth c H1 locs1 cells slots Q (F0 m (pc + 1) ls rest)) : W p l e R s m args below meth c H locs cells slots Q (F0 m pc ls (.int x :: .int (nI i) :: .ref a :: rest)) := by
  subst hg
  refine va_zast hexec hb hK hP hD hS q0 t0 ha ht (vp_in_nI hi hn) hdg ?_
  rw [nI_clamp (Nat.lt_trans hi hn), hx1]
  exact kk
theorem xx_last (hexec : p.tables.exec = Jvm.exec) (hb : c.code = cc) (hK : va_K D cl tys s) (hP : va_P D cl ws H) (hD : va_D A ws) (hS : va_S A H0 H locs) (q0 t0 : Nat) {cA : ClassId} {n : Nat} {f g : Nat → Int64} (ha : ws[q0]? = some (a, .inl (cA, n, .inr (.inl f)))) (ht : tys[t0]? = some (cA, .long)) {i : Nat} {x : Int64} (hi : i < n) (hn : n < 2 ^ 31) (hg : vp_updL f i x = g) (hdg : decode cc pc = .ok (.lastore, 1))
    (kk : ∀ (H1 : Heap) (locs1 : List Loc), va_P D cl (ws.set q0 (a, .inl (cA, n, .inr (.inl g)))) H1 → va_D A (ws.set q0 (a, .inl (cA, n, .inr (.inl g)))) → va_S A H0 H1 locs1 → W p l e R s m args below meth c H1 locs1 cells slots Q (F0 m (pc + 1) ls rest)) : W p l e R s m args below meth c H locs cells slots Q (F0 m pc ls (.long x :: .int (nI i) :: .ref a :: rest)) := by
  subst hg
  refine va_last hexec hb hK hP hD hS q0 t0 ha ht (vp_in_nI hi hn) hdg ?_
  rw [nI_clamp (Nat.lt_trans hi hn)]
  exact kk
/-- a new array of numbers, whose class is known already -/
theorem xx_newa (hexec : p.tables.exec = Jvm.exec) (hb : c.code = cc) {atype : ArrayType} (harr : (Cond.arrayClass (newarray.typeOf atype)).before args s = true) {ty : FieldType} (hty : newarray.typeOf atype = ty) (t0 : Nat) {kA : ClassId} (ht : tys[t0]? = some (kA, ty)) (hra : ∀ x : ClassId, va_RA s x ty → s.vm.findClass ("[" ++ ty.toString) = some x) (hK : va_K D cl tys s) (hP : va_P D cl ws H) (hD : va_D A ws) (hS : va_S A H0 H locs) (hA : ∀ q, H0.size ≤ q → A q)
    {n : Int32} {N' : Nat} {a0 : vp_A} (ha : ∀ cA : ClassId, vp_cell cA a0 = arrV cA N' (fun _ => defaultValue ty)) (hn : ¬ n < 0) (hN : n.toNatClampNeg = N') (hbytes : N' * componentBytes ty ≤ 536870912) (hcells : cells + 1 ≤ R.cells) (hslots : slots + N' ≤ R.slots) (hdg : decode cc pc = .ok (.newarray atype, 2))
    (kk : ∀ (q : Nat) (H1 : Heap), va_P D cl (ws ++ [(q, .inl (kA, a0))]) H1 → va_D A (ws ++ [(q, .inl (kA, a0))]) → va_S A H0 H1 locs →
      W p l e R s m args below meth c H1 locs (cells + 1) (slots + N') Q (F0 m (pc + 2) ls (.ref q :: rest))) : W p l e R s m args below meth c H locs cells slots Q (F0 m pc ls (.int n :: rest)) := by
  refine va_newa hexec hb harr hty hK hP hD hS hA ha hn hN hbytes hcells hslots hdg (fun q cA H1 hK2 hP2 hD2 hS2 => ?_)
  have h1 := hra _ (hK.2 t0 _ ht).2
  have h2 := hra _ (hK2.2 tys.length (cA, ty) (by simp)).2
  have e1 : cA = kA := Option.some.inj (h2.symm.trans h1)
  subst e1
  exact kk q H1 hP2 hD2 hS2
theorem xx_calli {S : Type} {post : Int32 → S → Prop} {w1 : S → va_W} {av : Array Value} {mc ms : Nat} {wc : va_W} (wr : va_W) (isC isR : List Nat) (hr : va_Run p l e R s m args below meth c H locs cells slots mc ms (F0 m pc ls st0) rest (va_Qi post (xx_B D cl tys (va_A wc H.size) w1) (va_A wc H.size) av) (va_A wc H.size)) (hP : va_P D cl ws H) (hD : va_D A ws) (hS : va_S A H0 H locs) (hA : ∀ q, H0.size ≤ q → A q) (hC : isC.map (fun i => ws[i]?) = wc.map some) (hR : isR.map (fun i => ws[i]?) = wr.map some) (hn : va_nd isR = true) (hdis : ∀ i ∈ isR, i ∉ isC)
    (kk : ∀ (r : Int32) (u : S) (H1 : Heap) (locs1 : List Loc), post r u → va_P D cl (wr ++ w1 u) H1 → va_D A (wr ++ w1 u) → va_S A H0 H1 locs1 → W p l e R s m args below meth c H1 locs1 (cells + mc) (slots + ms) Q (F0 m (pc + 3) ls (.int r :: rest))) : W p l e R s m args below meth c H locs cells slots Q (F0 m pc ls st0) := by
  have hF := va_free hD hS hA isC hC
  refine va_calli hr hS (fun q _ h => hF q h) hF (fun r u t H1 locs1 ht hvm hw hB hz hk hS1 => ?_)
  obtain ⟨hP1, -, hD1⟩ := hB
  rw [ht] at hP1
  obtain ⟨hP2, hD2⟩ := va_join hP hD isC isR hC hR hn hdis hk hF hP1 hD1
  exact kk r u H1 locs1 hw hP2 hD2 hS1
theorem xx_calll {S : Type} {post : Int64 → S → Prop} {w1 : S → va_W} {av : Array Value} {mc ms : Nat} {wc : va_W} (wr : va_W) (isC isR : List Nat) (hr : va_Run p l e R s m args below meth c H locs cells slots mc ms (F0 m pc ls st0) rest (va_Ql post (xx_B D cl tys (va_A wc H.size) w1) (va_A wc H.size) av) (va_A wc H.size)) (hP : va_P D cl ws H) (hD : va_D A ws) (hS : va_S A H0 H locs) (hA : ∀ q, H0.size ≤ q → A q) (hC : isC.map (fun i => ws[i]?) = wc.map some) (hR : isR.map (fun i => ws[i]?) = wr.map some) (hn : va_nd isR = true) (hdis : ∀ i ∈ isR, i ∉ isC)
    (kk : ∀ (r : Int64) (u : S) (H1 : Heap) (locs1 : List Loc), post r u → va_P D cl (wr ++ w1 u) H1 → va_D A (wr ++ w1 u) → va_S A H0 H1 locs1 → W p l e R s m args below meth c H1 locs1 (cells + mc) (slots + ms) Q (F0 m (pc + 3) ls (.long r :: rest))) : W p l e R s m args below meth c H locs cells slots Q (F0 m pc ls st0) := by
  have hF := va_free hD hS hA isC hC
  refine va_calll hr hS (fun q _ h => hF q h) hF (fun r u t H1 locs1 ht hvm hw hB hz hk hS1 => ?_)
  obtain ⟨hP1, -, hD1⟩ := hB
  rw [ht] at hP1
  obtain ⟨hP2, hD2⟩ := va_join hP hD isC isR hC hR hn hdis hk hF hP1 hD1
  exact kk r u H1 locs1 hw hP2 hD2 hS1
theorem xx_callv {S : Type} {post : S → Prop} {w1 : S → va_W} {av : Array Value} {mc ms : Nat} {wc : va_W} (wr : va_W) (isC isR : List Nat) (hr : va_Run p l e R s m args below meth c H locs cells slots mc ms (F0 m pc ls st0) rest (va_Qv post (xx_B D cl tys (va_A wc H.size) w1) (va_A wc H.size) av) (va_A wc H.size)) (hP : va_P D cl ws H) (hD : va_D A ws) (hS : va_S A H0 H locs) (hA : ∀ q, H0.size ≤ q → A q) (hC : isC.map (fun i => ws[i]?) = wc.map some) (hR : isR.map (fun i => ws[i]?) = wr.map some) (hn : va_nd isR = true) (hdis : ∀ i ∈ isR, i ∉ isC)
    (kk : ∀ (u : S) (H1 : Heap) (locs1 : List Loc), post u → va_P D cl (wr ++ w1 u) H1 → va_D A (wr ++ w1 u) → va_S A H0 H1 locs1 → W p l e R s m args below meth c H1 locs1 (cells + mc) (slots + ms) Q (F0 m (pc + 3) ls rest)) : W p l e R s m args below meth c H locs cells slots Q (F0 m pc ls st0) := by
  have hF := va_free hD hS hA isC hC
  refine va_callv hr hS (fun q _ h => hF q h) hF (fun u t H1 locs1 ht hvm hw hB hz hk hS1 => ?_)
  obtain ⟨hP1, -, hD1⟩ := hB
  rw [ht] at hP1
  obtain ⟨hP2, hD2⟩ := va_join hP hD isC isR hC hR hn hdis hk hF hP1 hD1
  exact kk u H1 locs1 hw hP2 hD2 hS1
theorem xx_iret {S : Type} {post : Int32 → S → Prop} {w1 : S → va_W} (u : S) {v : Int32} (hexec : p.tables.exec = Jvm.exec) (hb : c.code = cc) (hr : meth.sig.returnType = some .int) (hlocks : meth.locks = false) (hS : va_S A s.heap H locs) (hK : va_K D cl tys s) (hP : va_P D cl (w1 u) H) (hD : va_D A (w1 u)) (hdg : decode cc pc = .ok (.ireturn, 1)) (hw : post v u) : W p l e R s m args below meth c H locs cells slots (MQ below (va_Qi post (xx_B D cl tys A w1) A) args s cells slots A) (F0 m pc ls [.int v]) :=
  W.iret hexec hb hr (fun t ht hW => ⟨⟨v, u, rfl, hw, by rw [ht]; exact hP, va_K.moved hW.alike hK, hD⟩, hS.F ht⟩) hS.2.2 hdg hlocks
theorem xx_zret {S : Type} {post : Int32 → S → Prop} {w1 : S → va_W} (u : S) {v : Int32} (hexec : p.tables.exec = Jvm.exec) (hb : c.code = cc) (hr : meth.sig.returnType = some .boolean) (hlocks : meth.locks = false) (hv : narrow .boolean (.int v) = .int v) (hS : va_S A s.heap H locs) (hK : va_K D cl tys s) (hP : va_P D cl (w1 u) H) (hD : va_D A (w1 u)) (hdg : decode cc pc = .ok (.ireturn, 1)) (hw : post v u) : W p l e R s m args below meth c H locs cells slots (MQ below (va_Qi post (xx_B D cl tys A w1) A) args s cells slots A) (F0 m pc ls [.int v]) :=
  W.zret hexec hb hr hv (fun t ht hW => ⟨⟨v, u, rfl, hw, by rw [ht]; exact hP, va_K.moved hW.alike hK, hD⟩, hS.F ht⟩) hS.2.2 hdg hlocks
theorem xx_lret {S : Type} {post : Int64 → S → Prop} {w1 : S → va_W} (u : S) {v : Int64} (hexec : p.tables.exec = Jvm.exec) (hb : c.code = cc) (hr : meth.sig.returnType = some .long) (hlocks : meth.locks = false) (hS : va_S A s.heap H locs) (hK : va_K D cl tys s) (hP : va_P D cl (w1 u) H) (hD : va_D A (w1 u)) (hdg : decode cc pc = .ok (.lreturn, 1)) (hw : post v u) : W p l e R s m args below meth c H locs cells slots (MQ below (va_Ql post (xx_B D cl tys A w1) A) args s cells slots A) (F0 m pc ls [.long v]) :=
  W.lret hexec hb hr (fun t ht hW => ⟨⟨v, u, rfl, hw, by rw [ht]; exact hP, va_K.moved hW.alike hK, hD⟩, hS.F ht⟩) hS.2.2 hdg hlocks
theorem xx_vret {S : Type} {post : S → Prop} {w1 : S → va_W} (u : S) (hexec : p.tables.exec = Jvm.exec) (hb : c.code = cc) (hr : meth.sig.returnType = none) (hlocks : meth.locks = false) (hS : va_S A s.heap H locs) (hK : va_K D cl tys s) (hP : va_P D cl (w1 u) H) (hD : va_D A (w1 u)) (hdg : decode cc pc = .ok (.return_, 1)) (hw : post u) : W p l e R s m args below meth c H locs cells slots (MQ below (va_Qv post (xx_B D cl tys A w1) A) args s cells slots A) (F0 m pc ls []) :=
  W.vret hexec hb hr (fun t ht hW => ⟨⟨u, rfl, hw, by rw [ht]; exact hP, va_K.moved hW.alike hK, hD⟩, hS.F ht⟩) hS.2.2 hdg hlocks
end XXR
/-- a boolean answer -/
def xb (r : Int32) (P : Prop) : Prop := (r = 1 ∧ P) ∨ (r = 0 ∧ ¬ P)
theorem xb_t {P : Prop} (h : P) : xb 1 P := Or.inl ⟨rfl, h⟩
theorem xb_f {P : Prop} (h : ¬ P) : xb 0 P := Or.inr ⟨rfl, h⟩
theorem xb_eq {r r' : Int32} {P P' : Prop} (h : xb r P) (h' : xb r' P') (e : P ↔ P') : r = r' := by
  rcases h with ⟨rfl, h⟩ | ⟨rfl, h⟩ <;> rcases h' with ⟨rfl, h'⟩ | ⟨rfl, h'⟩
  · rfl
  · exact absurd (e.mp h) h'
  · exact absurd (e.mpr h') h
  · rfl
/-- a truth value in a cell -/
def bI (b : Bool) : Int32 := if b then 1 else 0
theorem bI_ne {b : Bool} (h : ¬ bI b = 0) : b = true := by cases b <;> simp_all [bI]
theorem bI_eq {b : Bool} (h : bI b = 0) : b = false := by cases b <;> simp_all [bI]
/-- functions changed at one place -/
def xu_N (f : Nat → Nat) (k v : Nat) : Nat → Nat := fun j => if j = k then v else f j
def xu_B (f : Nat → Bool) (k : Nat) (v : Bool) : Nat → Bool := fun j => if j = k then v else f j
theorem xx_updN (f : Nat → Nat) (k v : Nat) : upd (fun i => nI (f i)) k (nI v) = fun i => nI (xu_N f k v i) := by
  funext j; simp only [upd, xu_N]; split <;> rfl
theorem xx_updB (f : Nat → Bool) (k : Nat) (v : Bool) : upd (fun i => bI (f i)) k (bI v) = fun i => bI (xu_B f k v i) := by
  funext j; simp only [upd, xu_B]; split <;> rfl
/-- an index that was looked at -/
theorem xx_ix {x : Int32} {n : Nat} (hn : n < 2 ^ 31) (h0 : ¬ x < 0) (h1 : ¬ nI n ≤ x) : ∃ j, j < n ∧ x = nI j := by
  rcases pk_ix x hn with h | h | h
  · exact absurd h h0
  · exact absurd h h1
  · exact h
theorem xx_ix2 {x : Int32} {n : Nat} (hn : n < 2 ^ 31) (h0 : ¬ x < 0) (h1 : x < nI n) : ∃ j, j < n ∧ x = nI j := xx_ix hn h0 (fun h => absurd (Int32.lt_of_lt_of_le h1 h) (Int32.lt_irrefl))
theorem xx_nix {x : Int32} {n : Nat} (hn : n < 2 ^ 31) (h : x < 0 ∨ nI n ≤ x) : ¬ ∃ j, j < n ∧ x = nI j := by
  rintro ⟨j, hj, rfl⟩
  rcases h with h | h
  · exact nI_pos (Nat.lt_trans hj hn) h
  · exact nI_ge hj hn h
end
section
/-! pure rows: indices, counts, loops' steps -/
def ixN (n : Nat) (x : Int32) : Prop := ∃ j, j < n ∧ x = nI j
theorem xx_ngt {x : Int32} {n : Nat} (hn : n + 1 < 2 ^ 31) (h : nI n < x) : ¬ ixN (n + 1) x := by
  rintro ⟨j, hj, rfl⟩
  have := (nI_ltI (by omega) (by omega)).mp h
  omega
theorem xx_ile {x : Int32} {n : Nat} (hn : n + 1 < 2 ^ 31) (h0 : ¬ x < 0) (h1 : ¬ nI n < x) : ixN (n + 1) x := by
  obtain ⟨j, hj, rfl⟩ := nI_of h0
  have h2 : ¬ n < j := fun z => h1 ((nI_ltI (by omega) hj).mpr z)
  exact ⟨j, by omega, rfl⟩
theorem xx_none {n : Nat} {x : Int32} {P : Nat → Prop} (h : ¬ ixN n x) : ¬ ∃ j, j < n ∧ x = nI j ∧ P j := fun ⟨j, a, b, _⟩ => h ⟨j, a, b⟩
theorem xx_none4 {n : Nat} {x : Int32} {P Q : Nat → Prop} (h : ¬ ∃ j, j < n ∧ x = nI j ∧ P j) : ¬ ∃ j, j < n ∧ x = nI j ∧ (P j ∧ Q j) := fun ⟨j, a, b, d, _⟩ => h ⟨j, a, b, d⟩
theorem xx_one {n j : Nat} {P : Nat → Prop} (hn : n < 2 ^ 31) (hj : j < n) (h : ¬ P j) : ¬ ∃ i, i < n ∧ nI j = nI i ∧ P i := by
  rintro ⟨i, hi, e, hp⟩
  have := (nI_eq (by omega) (by omega)).mp e
  subst this
  exact h hp
theorem xx_nlt {x y : Int32} (h : y ≤ x) : ¬ x < y := by
  rw [Int32.lt_iff_toInt_lt]; rw [Int32.le_iff_toInt_le] at h; omega
theorem xx_nle {x y : Int32} (h : ¬ x < y) : y ≤ x := by
  rw [Int32.lt_iff_toInt_lt] at h; rw [Int32.le_iff_toInt_le]; omega
theorem xx_m1 {j : Nat} (h : j < 2 ^ 31) : ¬ (-1 : Int32) = nI j := by
  intro e
  have e2 := congrArg Int32.toInt e
  rw [nI_toInt h] at e2
  have e3 : (-1 : Int32).toInt = -1 := by decide
  omega
theorem xx_nm1 {j : Nat} (h : j < 2 ^ 31) : ¬ nI j = (-1 : Int32) := fun e => xx_m1 h e.symm
theorem bI_nar (b : Bool) : narrow .boolean (.int (bI b)) = .int (bI b) := by cases b <;> rfl
theorem bI_fit (b : Bool) : fits .boolean (.int (bI b)) = true := by cases b <;> rfl
/-- the step of the sum, for the byte at a shift -/
def xs_mix (x w : Int64) (sh : Nat) : Int64 := (((x ^^^ ((w.toUInt64 >>> ((nI sh).toInt64.toUInt64 &&& Int64.toUInt64 63)).toInt64 &&& 255)) <<< ((nI 11).toInt64 &&& 63)) ||| ((x ^^^ ((w.toUInt64 >>> ((nI sh).toInt64.toUInt64 &&& Int64.toUInt64 63)).toInt64 &&& 255)).toUInt64 >>> ((nI 53).toInt64.toUInt64 &&& Int64.toUInt64 63)).toInt64) * (-7046029254386353131)
def xs_word (x w : Int64) : Int64 := xs_mix (xs_mix (xs_mix (xs_mix (xs_mix (xs_mix (xs_mix (xs_mix x w 56) w 48) w 40) w 32) w 24) w 16) w 8) w 0
def xs_sum (x a d : Int64) : Int64 := xs_word (xs_word x a) d
/-- how many below n -/
def xcnt (P : Nat → Bool) : Nat → Nat
  | 0 => 0
  | n + 1 => xcnt P n + (if P n then 1 else 0)
theorem xcnt_no {P : Nat → Bool} {i : Nat} (h : P i = false) : xcnt P (i + 1) = xcnt P i := by simp [xcnt, h]
theorem xcnt_yes {P : Nat → Bool} {i : Nat} (h : P i = true) : xcnt P (i + 1) = xcnt P i + 1 := by simp [xcnt, h]
/-- dropped ones, once those of writer w below i are dropped too -/
def xd_drop (ew : Nat → Nat) (ex : Nat → Bool) (w i : Nat) : Nat → Bool := fun j => ex j || (decide (j < i) && decide (ew j = w))
theorem xd_zero (ew : Nat → Nat) (ex : Nat → Bool) (w : Nat) : xd_drop ew ex w 0 = ex := by
  funext j; simp [xd_drop]
theorem xd_self (ew : Nat → Nat) (ex : Nat → Bool) (w i : Nat) : xd_drop ew ex w i i = ex i := by simp [xd_drop]
theorem xd_skip {ew : Nat → Nat} {ex : Nat → Bool} {w i : Nat} (h : ¬ ew i = w) : xd_drop ew ex w (i + 1) = xd_drop ew ex w i := by
  funext j
  by_cases hj : j = i
  · subst hj; simp [xd_drop, h]
  · have : (j < i + 1) = (j < i) := propext ⟨fun z => by omega, fun z => by omega⟩
    simp only [xd_drop, this]
theorem xd_skip2 {ew : Nat → Nat} {ex : Nat → Bool} {w i : Nat} (h : ex i = true) : xd_drop ew ex w (i + 1) = xd_drop ew ex w i := by
  funext j
  by_cases hj : j = i
  · subst hj; simp [xd_drop, h]
  · have : (j < i + 1) = (j < i) := propext ⟨fun z => by omega, fun z => by omega⟩
    simp only [xd_drop, this]
theorem xd_put {ew : Nat → Nat} {ex : Nat → Bool} {w i : Nat} (h : ew i = w) : xu_B (xd_drop ew ex w i) i true = xd_drop ew ex w (i + 1) := by
  funext j
  by_cases hj : j = i
  · subst hj; simp [xu_B, xd_drop, h]
  · have : (j < i + 1) = (j < i) := propext ⟨fun z => by omega, fun z => by omega⟩
    simp only [xu_B, if_neg hj, xd_drop, this]
/-- the writers seen, a bit each -/
def xs_seen (P : Nat → Bool) (ew : Nat → Nat) : Nat → Int32
  | 0 => nI 0
  | i + 1 => if P i then xs_seen P ew i ||| (nI 1 <<< (nI (ew i) &&& 31)) else xs_seen P ew i
theorem xs_seen_yes {P : Nat → Bool} {ew : Nat → Nat} {i : Nat} (h : P i = true) : xs_seen P ew (i + 1) = xs_seen P ew i ||| (nI 1 <<< (nI (ew i) &&& 31)) := by simp [xs_seen, h]
theorem xs_seen_no {P : Nat → Bool} {ew : Nat → Nat} {i : Nat} (h : P i = false) : xs_seen P ew (i + 1) = xs_seen P ew i := by simp [xs_seen, h]
/-- how much of target and branch a rule names -/
def xs_rank (t b : Int32) : Nat := (if t = (-1) then 0 else 2) + (if b = (-1) then 0 else 1)
theorem xs_rank_le (t b : Int32) : xs_rank t b ≤ 3 := by unfold xs_rank; split <;> split <;> omega
/-- the latest own one: a loop's steps -/
def xl_I (O : Nat → Prop) (et : Nat → Int64) (i : Nat) (b5 : Int32) (t6 : Int64) : Prop := (b5 = (-1) ∧ ∀ j, j < i → ¬ O j) ∨ (∃ b, b5 = nI b ∧ t6 = et b ∧ b < i ∧ O b ∧ ∀ j, j < i → O j → ¬ (et b < et j) ∧ (b < j → et j < et b))
theorem xl_skip {O : Nat → Prop} {et : Nat → Int64} {i : Nat} {b5 : Int32} {t6 : Int64} (h : xl_I O et i b5 t6) (hn : ¬ O i) : xl_I O et (i + 1) b5 t6 := by
  rcases h with ⟨h1, h2⟩ | ⟨b, h1, h2, h3, h4, h5⟩
  · exact Or.inl ⟨h1, fun j hj hO => by
      rcases Nat.lt_or_ge j i with z | z
      · exact h2 j z hO
      · obtain rfl : j = i := by omega
        exact hn hO⟩
  · exact Or.inr ⟨b, h1, h2, by omega, h4, fun j hj hO => by
      rcases Nat.lt_or_ge j i with z | z
      · exact h5 j z hO
      · obtain rfl : j = i := by omega
        exact absurd hO hn⟩
theorem xl_new {O : Nat → Prop} {et : Nat → Int64} {i : Nat} {b5 : Int32} {t6 : Int64} (hi : i < 2 ^ 31) (h : xl_I O et i b5 t6) (hO : O i) (hc : b5 = (-1) ∨ ¬ et i < t6) : xl_I O et (i + 1) (nI i) (et i) := by
  refine Or.inr ⟨i, rfl, rfl, by omega, hO, fun j hj hOj => ?_⟩
  rcases Nat.lt_or_ge j i with z | z
  · refine ⟨?_, fun q => absurd q (by omega)⟩
    rcases h with ⟨h1, h2⟩ | ⟨b, h1, h2, h3, h4, h5⟩
    · exact absurd hOj (h2 j z)
    · rcases hc with hc | hc
      · exact absurd (hc.symm.trans h1) (xx_m1 (by omega))
      · have := (h5 j z hOj).1
        rw [h2] at hc
        rw [Int64.lt_iff_toInt_lt] at *
        omega
  · obtain rfl : j = i := by omega
    exact ⟨by rw [Int64.lt_iff_toInt_lt]; omega, fun q => absurd q (by omega)⟩
theorem xl_old {O : Nat → Prop} {et : Nat → Int64} {i : Nat} {b5 : Int32} {t6 : Int64} (h : xl_I O et i b5 t6) (hO : O i) (hb : ¬ b5 = (-1)) (hc : et i < t6) : xl_I O et (i + 1) b5 t6 := by
  rcases h with ⟨h1, h2⟩ | ⟨b, h1, h2, h3, h4, h5⟩
  · exact absurd h1 hb
  · refine Or.inr ⟨b, h1, h2, by omega, h4, fun j hj hOj => ?_⟩
    rcases Nat.lt_or_ge j i with z | z
    · exact h5 j z hOj
    · obtain rfl : j = i := by omega
      rw [h2] at hc
      exact ⟨by rw [Int64.lt_iff_toInt_lt] at *; omega, fun _ => hc⟩
/-- the rule that goes ahead: a loop's steps -/
def xq_I (O : Nat → Prop) (R : Nat → Nat) (i : Nat) (b3 : Int32) (m : Nat) : Prop := (b3 = (-1) ∧ m = 0 ∧ ∀ j, j < i → ¬ O j) ∨ (∃ q, b3 = nI q ∧ m = R q ∧ q < i ∧ O q ∧ ∀ j, j < i → O j → R j ≤ R q ∧ (q < j → R j < R q))
theorem xq_skip {O : Nat → Prop} {R : Nat → Nat} {i m : Nat} {b3 : Int32} (h : xq_I O R i b3 m) (hn : ¬ O i) : xq_I O R (i + 1) b3 m := by
  rcases h with ⟨h1, h0, h2⟩ | ⟨b, h1, h2, h3, h4, h5⟩
  · exact Or.inl ⟨h1, h0, fun j hj hO => by
      rcases Nat.lt_or_ge j i with z | z
      · exact h2 j z hO
      · obtain rfl : j = i := by omega
        exact hn hO⟩
  · exact Or.inr ⟨b, h1, h2, by omega, h4, fun j hj hO => by
      rcases Nat.lt_or_ge j i with z | z
      · exact h5 j z hO
      · obtain rfl : j = i := by omega
        exact absurd hO hn⟩
theorem xq_new {O : Nat → Prop} {R : Nat → Nat} {i m : Nat} {b3 : Int32} (h : xq_I O R i b3 m) (hO : O i) (hc : m ≤ R i) : xq_I O R (i + 1) (nI i) (R i) := by
  refine Or.inr ⟨i, rfl, rfl, by omega, hO, fun j hj hOj => ?_⟩
  rcases Nat.lt_or_ge j i with z | z
  · refine ⟨?_, fun q => absurd q (by omega)⟩
    rcases h with ⟨h1, h0, h2⟩ | ⟨b, h1, h2, h3, h4, h5⟩
    · exact absurd hOj (h2 j z)
    · have := (h5 j z hOj).1
      omega
  · obtain rfl : j = i := by omega
    exact ⟨Nat.le_refl _, fun q => absurd q (by omega)⟩
theorem xq_old {O : Nat → Prop} {R : Nat → Nat} {i m : Nat} {b3 : Int32} (h : xq_I O R i b3 m) (hO : O i) (hc : R i < m) : xq_I O R (i + 1) b3 m := by
  rcases h with ⟨h1, h0, h2⟩ | ⟨b, h1, h2, h3, h4, h5⟩
  · exact absurd hc (by omega)
  · refine Or.inr ⟨b, h1, h2, by omega, h4, fun j hj hOj => ?_⟩
    rcases Nat.lt_or_ge j i with z | z
    · exact h5 j z hOj
    · obtain rfl : j = i := by omega
      exact ⟨by omega, fun _ => by omega⟩
theorem xx_lnle {t : Int64} (h : ¬ (0 ≤ t)) : t < 0 := by
  rw [Int64.le_iff_toInt_le] at h; rw [Int64.lt_iff_toInt_lt]; omega
theorem xx_lnlt {t : Int64} (h : 0 ≤ t) : ¬ t < 0 := by
  rw [Int64.le_iff_toInt_le] at h; rw [Int64.lt_iff_toInt_lt]; omega
def xs_clamp (x : Int32) : Int32 := if nI 1 < (if x < nI 5 then x else nI 5) then (if x < nI 5 then x else nI 5) else nI 1
abbrev xx_at (l : List Nat) : Nat → Nat := fun i => l.getD i 0
/-- the JDK's count of bits, in its own steps -/
def xs_pop1 (i : Int32) : Int32 := i - ((i.toUInt32 >>> ((nI 1).toUInt32 &&& Int32.toUInt32 31)).toInt32 &&& (nI 1431655765))
def xs_pop2 (i : Int32) : Int32 := (i &&& (nI 858993459)) + ((i.toUInt32 >>> ((nI 2).toUInt32 &&& Int32.toUInt32 31)).toInt32 &&& (nI 858993459))
def xs_pop3 (i : Int32) : Int32 := (i + (i.toUInt32 >>> ((nI 4).toUInt32 &&& Int32.toUInt32 31)).toInt32) &&& (nI 252645135)
def xs_pop4 (i : Int32) : Int32 := i + (i.toUInt32 >>> ((nI 8).toUInt32 &&& Int32.toUInt32 31)).toInt32
def xs_pop5 (i : Int32) : Int32 := i + (i.toUInt32 >>> ((nI 16).toUInt32 &&& Int32.toUInt32 31)).toInt32
def xs_pop (i : Int32) : Int32 := xs_pop5 (xs_pop4 (xs_pop3 (xs_pop2 (xs_pop1 i)))) &&& (nI 63)
theorem xx_tf {b : Bool} (h1 : b = true) (h2 : b = false) : False := by rw [h1] at h2; exact absurd h2 (by decide)
theorem xcnt_no1 {ew : Nat → Nat} {ex : Nat → Bool} {w i : Nat} (h : ¬ ew i = w) : xcnt (fun j => decide (ew j = w) && !ex j) (i + 1) = xcnt (fun j => decide (ew j = w) && !ex j) i := xcnt_no (by simp [h])
theorem xcnt_no2 {ew : Nat → Nat} {ex : Nat → Bool} {w i : Nat} (h : ex i = true) : xcnt (fun j => decide (ew j = w) && !ex j) (i + 1) = xcnt (fun j => decide (ew j = w) && !ex j) i := xcnt_no (by simp [h])
theorem xcnt_yes2 {ew : Nat → Nat} {ex : Nat → Bool} {w i : Nat} (h1 : ew i = w) (h : ex i = false) : xcnt (fun j => decide (ew j = w) && !ex j) (i + 1) = xcnt (fun j => decide (ew j = w) && !ex j) i + 1 := xcnt_yes (by simp [h, h1])
theorem xs_rank_aa {t b : Int32} (h1 : t = (-1)) (h2 : b = (-1)) : nI 0 = nI (xs_rank t b) := by simp [xs_rank, h1, h2]
theorem xs_rank_an {t b : Int32} (h1 : t = (-1)) (h2 : ¬ b = (-1)) : nI 1 = nI (xs_rank t b) := by simp [xs_rank, h1, h2]
theorem xs_rank_na {t b : Int32} (h1 : ¬ t = (-1)) (h2 : b = (-1)) : nI 2 = nI (xs_rank t b) := by simp [xs_rank, h1, h2]
theorem xs_rank_nn {t b : Int32} (h1 : ¬ t = (-1)) (h2 : ¬ b = (-1)) : nI 3 = nI (xs_rank t b) := by simp [xs_rank, h1, h2]
abbrev bW (k : Nat → ClassId) (ow : Nat → Nat) (wc : Nat) (wl : Nat → Int32) (wb : Nat → Bool) (wk : Nat → Nat) (kk : Nat → Int64) (kf : Nat → Int64) (ku : Nat → Int64) : va_W := [((ow 0), .inr (4, [.ref (ow 1), .ref (ow 2), .ref (ow 3), .ref (ow 4), .ref (ow 5), .ref (ow 6), .int (nI wc)])), ((ow 1), .inl (k 0, 12, .inl wl)), ((ow 2), .inl (k 1, 12, .inl (fun z9 => bI (wb z9)))), ((ow 3), .inl (k 0, 12, .inl (fun z9 => nI (wk z9)))), ((ow 4), .inl (k 2, 48, .inr (.inl kk))), ((ow 5), .inl (k 2, 48, .inr (.inl kf))), ((ow 6), .inl (k 2, 48, .inr (.inl ku)))]
abbrev bE (k : Nat → ClassId) (oe : Nat → Nat) (ec : Nat) (ew : Nat → Nat) (el : Nat → Int32) (ea : Nat → Int64) (ed : Nat → Int64) (et : Nat → Int64) (ex : Nat → Bool) : va_W := [((oe 0), .inr (2, [.ref (oe 1), .ref (oe 2), .ref (oe 3), .ref (oe 4), .ref (oe 5), .ref (oe 6), .int (nI ec)])), ((oe 1), .inl (k 0, 100, .inl (fun z9 => nI (ew z9)))), ((oe 2), .inl (k 0, 100, .inl el)), ((oe 3), .inl (k 2, 100, .inr (.inl ea))), ((oe 4), .inl (k 2, 100, .inr (.inl ed))), ((oe 5), .inl (k 2, 100, .inr (.inl et))), ((oe 6), .inl (k 1, 100, .inl (fun z9 => bI (ex z9))))]
abbrev bC (k : Nat → ClassId) (oc : Nat → Nat) (cc : Nat) (ca : Nat → Int64) (cl : Nat → Int32) (ch : Nat → Int32) : va_W := [((oc 0), .inr (1, [.ref (oc 1), .ref (oc 2), .ref (oc 3), .int (nI cc)])), ((oc 1), .inl (k 2, 50, .inr (.inl ca))), ((oc 2), .inl (k 0, 50, .inl cl)), ((oc 3), .inl (k 0, 50, .inl ch))]
abbrev bU (k : Nat → ClassId) (ou : Nat → Nat) (uc : Nat) (ut : Nat → Int32) (ub : Nat → Int32) (ul : Nat → Int32) (uw : Nat → Int32) : va_W := [((ou 0), .inr (3, [.ref (ou 1), .ref (ou 2), .ref (ou 3), .ref (ou 4), .int (nI uc)])), ((ou 1), .inl (k 0, 20, .inl ut)), ((ou 2), .inl (k 0, 20, .inl ub)), ((ou 3), .inl (k 0, 20, .inl ul)), ((ou 4), .inl (k 0, 20, .inl uw))]
abbrev bA (k : Nat → ClassId) (oa : Nat → Nat) (ac : Nat) (as : Nat → Int32) : va_W := [((oa 0), .inr (0, [.ref (oa 1), .int (nI ac)])), ((oa 1), .inl (k 0, 1000, .inl as))]
abbrev bT (k : Nat → ClassId) (ot : Nat) (tq : Int32) (ow : Nat → Nat) (oe : Nat → Nat) (oc : Nat → Nat) (ou : Nat → Nat) (oa : Nat → Nat) (to : Bool) (tt : Int64) : va_W := [(ot, .inr (5, [.int tq, .ref (ow 0), .ref (oe 0), .ref (oc 0), .ref (ou 0), .ref (oa 0), .int (bI to), .long tt]))]
end
section
theorem dX5_isPlace_0 : decode cX5_isPlace 0 = .ok (.iload_n 0, 1) := by decide +kernel
theorem dX5_isPlace_1 : decode cX5_isPlace 1 = .ok (.ifCond .lt 13, 3) := by decide +kernel
theorem dX5_isPlace_4 : decode cX5_isPlace 4 = .ok (.iload_n 0, 1) := by decide +kernel
theorem dX5_isPlace_5 : decode cX5_isPlace 5 = .ok (.bipush 7, 2) := by decide +kernel
theorem dX5_isPlace_7 : decode cX5_isPlace 7 = .ok (.if_icmp .gt 7, 3) := by decide +kernel
theorem dX5_isPlace_10 : decode cX5_isPlace 10 = .ok (.iconst 1, 1) := by decide +kernel
theorem dX5_isPlace_11 : decode cX5_isPlace 11 = .ok (.goto 4, 3) := by decide +kernel
theorem dX5_isPlace_14 : decode cX5_isPlace 14 = .ok (.iconst 0, 1) := by decide +kernel
theorem dX5_isPlace_15 : decode cX5_isPlace 15 = .ok (.ireturn, 1) := by decide +kernel
theorem dX5_isLevel_0 : decode cX5_isLevel 0 = .ok (.iload_n 0, 1) := by decide +kernel
theorem dX5_isLevel_1 : decode cX5_isLevel 1 = .ok (.ifCond .lt 12, 3) := by decide +kernel
theorem dX5_isLevel_4 : decode cX5_isLevel 4 = .ok (.iload_n 0, 1) := by decide +kernel
theorem dX5_isLevel_5 : decode cX5_isLevel 5 = .ok (.iconst 2, 1) := by decide +kernel
theorem dX5_isLevel_6 : decode cX5_isLevel 6 = .ok (.if_icmp .gt 7, 3) := by decide +kernel
theorem dX5_isLevel_9 : decode cX5_isLevel 9 = .ok (.iconst 1, 1) := by decide +kernel
theorem dX5_isLevel_10 : decode cX5_isLevel 10 = .ok (.goto 4, 3) := by decide +kernel
theorem dX5_isLevel_13 : decode cX5_isLevel 13 = .ok (.iconst 0, 1) := by decide +kernel
theorem dX5_isLevel_14 : decode cX5_isLevel 14 = .ok (.ireturn, 1) := by decide +kernel
theorem dX5_isPlaceOrAny_0 : decode cX5_isPlaceOrAny 0 = .ok (.iload_n 0, 1) := by decide +kernel
theorem dX5_isPlaceOrAny_1 : decode cX5_isPlaceOrAny 1 = .ok (.iconst (-1), 1) := by decide +kernel
theorem dX5_isPlaceOrAny_2 : decode cX5_isPlaceOrAny 2 = .ok (.if_icmp .eq 10, 3) := by decide +kernel
theorem dX5_isPlaceOrAny_5 : decode cX5_isPlaceOrAny 5 = .ok (.iload_n 0, 1) := by decide +kernel
theorem dX5_isPlaceOrAny_6 : decode cX5_isPlaceOrAny 6 = .ok (.invokestatic 112, 3) := by decide +kernel
theorem dX5_isPlaceOrAny_9 : decode cX5_isPlaceOrAny 9 = .ok (.ifCond .eq 7, 3) := by decide +kernel
theorem dX5_isPlaceOrAny_12 : decode cX5_isPlaceOrAny 12 = .ok (.iconst 1, 1) := by decide +kernel
theorem dX5_isPlaceOrAny_13 : decode cX5_isPlaceOrAny 13 = .ok (.goto 4, 3) := by decide +kernel
theorem dX5_isPlaceOrAny_16 : decode cX5_isPlaceOrAny 16 = .ok (.iconst 0, 1) := by decide +kernel
theorem dX5_isPlaceOrAny_17 : decode cX5_isPlaceOrAny 17 = .ok (.ireturn, 1) := by decide +kernel
theorem dX5_mixWord_0 : decode cX5_mixWord 0 = .ok (.lload_n 0, 1) := by decide +kernel
theorem dX5_mixWord_1 : decode cX5_mixWord 1 = .ok (.lstore 4, 2) := by decide +kernel
theorem dX5_mixWord_3 : decode cX5_mixWord 3 = .ok (.bipush 56, 2) := by decide +kernel
theorem dX5_mixWord_5 : decode cX5_mixWord 5 = .ok (.istore 6, 2) := by decide +kernel
theorem dX5_mixWord_7 : decode cX5_mixWord 7 = .ok (.iload 6, 2) := by decide +kernel
theorem dX5_mixWord_9 : decode cX5_mixWord 9 = .ok (.ifCond .lt 39, 3) := by decide +kernel
theorem dX5_mixWord_12 : decode cX5_mixWord 12 = .ok (.lload 4, 2) := by decide +kernel
theorem dX5_mixWord_14 : decode cX5_mixWord 14 = .ok (.lload_n 2, 1) := by decide +kernel
theorem dX5_mixWord_15 : decode cX5_mixWord 15 = .ok (.iload 6, 2) := by decide +kernel
theorem dX5_mixWord_17 : decode cX5_mixWord 17 = .ok (.lushr, 1) := by decide +kernel
theorem dX5_mixWord_18 : decode cX5_mixWord 18 = .ok (.ldc2_w 164, 3) := by decide +kernel
theorem dX5_mixWord_21 : decode cX5_mixWord 21 = .ok (.land, 1) := by decide +kernel
theorem dX5_mixWord_22 : decode cX5_mixWord 22 = .ok (.lxor, 1) := by decide +kernel
theorem dX5_mixWord_23 : decode cX5_mixWord 23 = .ok (.lstore 4, 2) := by decide +kernel
theorem dX5_mixWord_25 : decode cX5_mixWord 25 = .ok (.lload 4, 2) := by decide +kernel
theorem dX5_mixWord_27 : decode cX5_mixWord 27 = .ok (.bipush 11, 2) := by decide +kernel
theorem dX5_mixWord_29 : decode cX5_mixWord 29 = .ok (.lshl, 1) := by decide +kernel
theorem dX5_mixWord_30 : decode cX5_mixWord 30 = .ok (.lload 4, 2) := by decide +kernel
theorem dX5_mixWord_32 : decode cX5_mixWord 32 = .ok (.bipush 53, 2) := by decide +kernel
theorem dX5_mixWord_34 : decode cX5_mixWord 34 = .ok (.lushr, 1) := by decide +kernel
theorem dX5_mixWord_35 : decode cX5_mixWord 35 = .ok (.lor, 1) := by decide +kernel
theorem dX5_mixWord_36 : decode cX5_mixWord 36 = .ok (.ldc2_w 166, 3) := by decide +kernel
theorem dX5_mixWord_39 : decode cX5_mixWord 39 = .ok (.lmul, 1) := by decide +kernel
theorem dX5_mixWord_40 : decode cX5_mixWord 40 = .ok (.lstore 4, 2) := by decide +kernel
theorem dX5_mixWord_42 : decode cX5_mixWord 42 = .ok (.iinc 6 (-8), 3) := by decide +kernel
theorem dX5_mixWord_45 : decode cX5_mixWord 45 = .ok (.goto (-38), 3) := by decide +kernel
theorem dX5_mixWord_48 : decode cX5_mixWord 48 = .ok (.lload 4, 2) := by decide +kernel
theorem dX5_mixWord_50 : decode cX5_mixWord 50 = .ok (.lreturn, 1) := by decide +kernel
theorem dX5_sumUnder_0 : decode cX5_sumUnder 0 = .ok (.lload_n 0, 1) := by decide +kernel
theorem dX5_sumUnder_1 : decode cX5_sumUnder 1 = .ok (.lload_n 2, 1) := by decide +kernel
theorem dX5_sumUnder_2 : decode cX5_sumUnder 2 = .ok (.invokestatic 160, 3) := by decide +kernel
theorem dX5_sumUnder_5 : decode cX5_sumUnder 5 = .ok (.lload 4, 2) := by decide +kernel
theorem dX5_sumUnder_7 : decode cX5_sumUnder 7 = .ok (.invokestatic 160, 3) := by decide +kernel
theorem dX5_sumUnder_10 : decode cX5_sumUnder 10 = .ok (.lreturn, 1) := by decide +kernel
def p_isPlace (x : Int32) : Int32 → Unit → Prop := fun r u => xb r (ixN 8 x)
set_option maxHeartbeats 4000000 in
set_option maxRecDepth 100000 in
theorem c_isPlace (l : Launch) (D : va_G) (k : Nat → ClassId) (x : Int32) : xx_Ci l yX5_isPlace (.code yX5_isPlace cX5_isPlace 1 (some .boolean) :: xall) ({ frames := 0, cells := 0, slots := 0, locals := 0 } : Room) D vwCl (xT k) [.int x] ([]) (p_isPlace x) (fun (u : Unit) => []) 0 0 := by
  intro sz
  refine xx_met (Qf := fun A => va_Qi (p_isPlace x) (xx_B D vwCl (xT k) A (fun (u : Unit) => [])) A) (cc := cX5_isPlace) (maxL := 1) (ret := (some .boolean)) (by decide) rfl (Nat.le_of_ble_eq_true rfl) ?_
  intro p e s m below meth c A ls hx hb hr hts hown hlocks hin hml hA hS hP hD hK hN hl
  have hl : lv_has ls 1 [(0, .int x)] := hl
  have hown : s.vm.findClass RX5 = some m.cls := hown
  refine lv_iload_n hx hb dX5_isPlace_0 rfl (lv_at hl 0 rfl) ?_
  refine lv_if_lt (tgt := 14) hx hb dX5_isPlace_1 (by decide) (fun c1 => ?_) (fun c1 => ?_)
  · refine lv_iconst (v := (nI 0)) hx hb dX5_isPlace_14 (by decide) ?_
    refine xx_zret () hx hb hr hlocks rfl hS hK hP hD dX5_isPlace_15 ?_
    first | exact xb_f (xx_nix (by decide) (Or.inl c1)) | exact xb_f (xx_ngt (by decide) c7) | exact xb_t (xx_ile (by decide) c1 c7)
  · refine lv_iload_n hx hb dX5_isPlace_4 rfl (lv_at hl 0 rfl) ?_
    refine lv_bipush (v := (nI 7)) hx hb dX5_isPlace_5 (by decide) ?_
    refine lv_icmp_gt (tgt := 14) hx hb dX5_isPlace_7 (by decide) (fun c7 => ?_) (fun c7 => ?_)
    · refine lv_iconst (v := (nI 0)) hx hb dX5_isPlace_14 (by decide) ?_
      refine xx_zret () hx hb hr hlocks rfl hS hK hP hD dX5_isPlace_15 ?_
      first | exact xb_f (xx_nix (by decide) (Or.inl c1)) | exact xb_f (xx_ngt (by decide) c7) | exact xb_t (xx_ile (by decide) c1 c7)
    · refine lv_iconst (v := (nI 1)) hx hb dX5_isPlace_10 (by decide) ?_
      refine lv_goto (tgt := 15) hx hb dX5_isPlace_11 (by decide) ?_
      refine xx_zret () hx hb hr hlocks rfl hS hK hP hD dX5_isPlace_15 ?_
      first | exact xb_f (xx_nix (by decide) (Or.inl c1)) | exact xb_f (xx_ngt (by decide) c7) | exact xb_t (xx_ile (by decide) c1 c7)
def p_isLevel (x : Int32) : Int32 → Unit → Prop := fun r u => xb r (ixN 3 x)
set_option maxHeartbeats 4000000 in
set_option maxRecDepth 100000 in
theorem c_isLevel (l : Launch) (D : va_G) (k : Nat → ClassId) (x : Int32) : xx_Ci l yX5_isLevel (.code yX5_isLevel cX5_isLevel 1 (some .boolean) :: xall) ({ frames := 0, cells := 0, slots := 0, locals := 0 } : Room) D vwCl (xT k) [.int x] ([]) (p_isLevel x) (fun (u : Unit) => []) 0 0 := by
  intro sz
  refine xx_met (Qf := fun A => va_Qi (p_isLevel x) (xx_B D vwCl (xT k) A (fun (u : Unit) => [])) A) (cc := cX5_isLevel) (maxL := 1) (ret := (some .boolean)) (by decide) rfl (Nat.le_of_ble_eq_true rfl) ?_
  intro p e s m below meth c A ls hx hb hr hts hown hlocks hin hml hA hS hP hD hK hN hl
  have hl : lv_has ls 1 [(0, .int x)] := hl
  have hown : s.vm.findClass RX5 = some m.cls := hown
  refine lv_iload_n hx hb dX5_isLevel_0 rfl (lv_at hl 0 rfl) ?_
  refine lv_if_lt (tgt := 13) hx hb dX5_isLevel_1 (by decide) (fun c1 => ?_) (fun c1 => ?_)
  · refine lv_iconst (v := (nI 0)) hx hb dX5_isLevel_13 (by decide) ?_
    refine xx_zret () hx hb hr hlocks rfl hS hK hP hD dX5_isLevel_14 ?_
    first | exact xb_f (xx_nix (by decide) (Or.inl c1)) | exact xb_f (xx_ngt (by decide) c6) | exact xb_t (xx_ile (by decide) c1 c6)
  · refine lv_iload_n hx hb dX5_isLevel_4 rfl (lv_at hl 0 rfl) ?_
    refine lv_iconst (v := (nI 2)) hx hb dX5_isLevel_5 (by decide) ?_
    refine lv_icmp_gt (tgt := 13) hx hb dX5_isLevel_6 (by decide) (fun c6 => ?_) (fun c6 => ?_)
    · refine lv_iconst (v := (nI 0)) hx hb dX5_isLevel_13 (by decide) ?_
      refine xx_zret () hx hb hr hlocks rfl hS hK hP hD dX5_isLevel_14 ?_
      first | exact xb_f (xx_nix (by decide) (Or.inl c1)) | exact xb_f (xx_ngt (by decide) c6) | exact xb_t (xx_ile (by decide) c1 c6)
    · refine lv_iconst (v := (nI 1)) hx hb dX5_isLevel_9 (by decide) ?_
      refine lv_goto (tgt := 14) hx hb dX5_isLevel_10 (by decide) ?_
      refine xx_zret () hx hb hr hlocks rfl hS hK hP hD dX5_isLevel_14 ?_
      first | exact xb_f (xx_nix (by decide) (Or.inl c1)) | exact xb_f (xx_ngt (by decide) c6) | exact xb_t (xx_ile (by decide) c1 c6)
def p_isAny (x : Int32) : Int32 → Unit → Prop := fun r u => xb r (x = (-1) ∨ ixN 8 x)
set_option maxHeartbeats 4000000 in
set_option maxRecDepth 100000 in
theorem c_isAny (l : Launch) (D : va_G) (k : Nat → ClassId) (x : Int32) : xx_Ci l yX5_isPlaceOrAny (.code yX5_isPlaceOrAny cX5_isPlaceOrAny 1 (some .boolean) :: xall) ({ frames := 1, cells := 0, slots := 0, locals := 20 } : Room) D vwCl (xT k) [.int x] ([]) (p_isAny x) (fun (u : Unit) => []) 0 0 := by
  intro sz
  refine xx_met (Qf := fun A => va_Qi (p_isAny x) (xx_B D vwCl (xT k) A (fun (u : Unit) => [])) A) (cc := cX5_isPlaceOrAny) (maxL := 1) (ret := (some .boolean)) (by decide) rfl (Nat.le_of_ble_eq_true rfl) ?_
  intro p e s m below meth c A ls hx hb hr hts hown hlocks hin hml hA hS hP hD hK hN hl
  have hl : lv_has ls 1 [(0, .int x)] := hl
  have hown : s.vm.findClass RX5 = some m.cls := hown
  refine lv_iload_n hx hb dX5_isPlaceOrAny_0 rfl (lv_at hl 0 rfl) ?_
  refine lv_iconst (v := (-1)) hx hb dX5_isPlaceOrAny_1 (by decide) ?_
  refine lv_icmp_eq (tgt := 12) hx hb dX5_isPlaceOrAny_2 (by decide) (fun c2 => ?_) (fun c2 => ?_)
  · refine lv_iconst (v := (nI 1)) hx hb dX5_isPlaceOrAny_12 (by decide) ?_
    refine lv_goto (tgt := 17) hx hb dX5_isPlaceOrAny_13 (by decide) ?_
    refine xx_zret () hx hb hr hlocks rfl hS hK hP hD dX5_isPlaceOrAny_17 ?_
    first | exact xb_t (Or.inl c2) | exact xb_t (Or.inr hq6) | exact xb_f (fun h => h.elim c2 hq6)
  · refine lv_iload_n hx hb dX5_isPlaceOrAny_5 rfl (lv_at hl 0 rfl) ?_
    refine xx_calli ([]) [] [] (va_runS (As := [.int x]) (rest := []) ⟨hx, hb, hml, hown, hts⟩ (c_isPlace l D k x s.heap.size) (va_cwS 1 hts (xx_gS tw_271 tw_272 tw_1 tw_273) rfl rfl rfl (by decide +kernel) ⟨Nat.le_of_ble_eq_true rfl, Nat.le_of_ble_eq_true rfl⟩) (xx_preS hK hN hP hD [] (by decide) rfl) rfl rfl hl.1 rfl (lv_room (Nat.le_of_ble_eq_true rfl)) dX5_isPlaceOrAny_6 ⟨Nat.le_of_ble_eq_true rfl, Nat.le_of_ble_eq_true rfl⟩) hP hD hS hA rfl rfl (by decide) (by decide) (fun r6 u6 H locs hw6 hP hD hS => ?_)
    rcases hw6 with ⟨rfl, hq6⟩ | ⟨rfl, hq6⟩
    · have hP : va_P D vwCl ([]) H := hP
      have hD : va_D A ([]) := hD
      refine lv_if_eq (tgt := 16) hx hb dX5_isPlaceOrAny_9 (by decide) (fun c => absurd c (by decide)) (fun _ => ?_)
      refine lv_iconst (v := (nI 1)) hx hb dX5_isPlaceOrAny_12 (by decide) ?_
      refine lv_goto (tgt := 17) hx hb dX5_isPlaceOrAny_13 (by decide) ?_
      refine xx_zret () hx hb hr hlocks rfl hS hK hP hD dX5_isPlaceOrAny_17 ?_
      first | exact xb_t (Or.inl c2) | exact xb_t (Or.inr hq6) | exact xb_f (fun h => h.elim c2 hq6)
    · have hP : va_P D vwCl ([]) H := hP
      have hD : va_D A ([]) := hD
      refine lv_if_eq (tgt := 16) hx hb dX5_isPlaceOrAny_9 (by decide) (fun _ => ?_) (fun c => absurd c (by decide))
      refine lv_iconst (v := (nI 0)) hx hb dX5_isPlaceOrAny_16 (by decide) ?_
      refine xx_zret () hx hb hr hlocks rfl hS hK hP hD dX5_isPlaceOrAny_17 ?_
      first | exact xb_t (Or.inl c2) | exact xb_t (Or.inr hq6) | exact xb_f (fun h => h.elim c2 hq6)
def p_mixWord (x : Int64) (w : Int64) : Int64 → Unit → Prop := fun r u => r = xs_word x w
set_option maxHeartbeats 4000000 in
set_option maxRecDepth 100000 in
theorem c_mixWord (l : Launch) (D : va_G) (k : Nat → ClassId) (x : Int64) (w : Int64) : xx_Cl l yX5_mixWord (.code yX5_mixWord cX5_mixWord 7 (some .long) :: xall) ({ frames := 0, cells := 0, slots := 0, locals := 0 } : Room) D vwCl (xT k) [.long x, .long w] ([]) (p_mixWord x w) (fun (u : Unit) => []) 0 0 := by
  intro sz
  refine xx_met (Qf := fun A => va_Ql (p_mixWord x w) (xx_B D vwCl (xT k) A (fun (u : Unit) => [])) A) (cc := cX5_mixWord) (maxL := 7) (ret := (some .long)) (by decide) rfl (Nat.le_of_ble_eq_true rfl) ?_
  intro p e s m below meth c A ls hx hb hr hts hown hlocks hin hml hA hS hP hD hK hN hl
  have hl : lv_has ls 7 [(0, .long x), (2, .long w)] := hl
  have hown : s.vm.findClass RX5 = some m.cls := hown
  refine lv_lload_n hx hb dX5_mixWord_0 rfl (lv_at hl 0 rfl) ?_
  refine lv_lstore (lv' := [(4, .long x), (0, .long x), (2, .long w)]) hx hb dX5_mixWord_1 hl (by decide) rfl (fun ls hl => ?_)
  refine lv_bipush (v := (nI 56)) hx hb dX5_mixWord_3 (by decide) ?_
  refine lv_istore (lv' := [(6, .int (nI 56)), (4, .long x), (0, .long x), (2, .long w)]) hx hb dX5_mixWord_5 hl (by decide) rfl (fun ls hl => ?_)
  refine lv_iload hx hb dX5_mixWord_7 (lv_at hl 0 rfl) ?_
  refine lv_if_lt (tgt := 48) hx hb dX5_mixWord_9 (by decide) (fun c => absurd c (by decide)) (fun _ => ?_)
  refine lv_lload hx hb dX5_mixWord_12 (lv_at hl 1 rfl) ?_
  refine lv_lload_n hx hb dX5_mixWord_14 rfl (lv_at hl 3 rfl) ?_
  refine lv_iload hx hb dX5_mixWord_15 (lv_at hl 0 rfl) ?_
  refine lv_lushr (v := (w.toUInt64 >>> ((nI 56).toInt64.toUInt64 &&& Int64.toUInt64 63)).toInt64) hx hb dX5_mixWord_17 rfl ?_
  refine lv_ldc2 (v := 255) hx hb hown (hts _ tw_199) dX5_mixWord_18 ?_
  refine lv_land hx hb dX5_mixWord_21 ?_
  refine lv_lxor hx hb dX5_mixWord_22 ?_
  refine lv_lstore (lv' := [(4, .long (x ^^^ (((w.toUInt64 >>> ((nI 56).toInt64.toUInt64 &&& Int64.toUInt64 63)).toInt64) &&& 255))), (6, .int (nI 56)), (0, .long x), (2, .long w)]) hx hb dX5_mixWord_23 hl (by decide) rfl (fun ls hl => ?_)
  refine lv_lload hx hb dX5_mixWord_25 (lv_at hl 0 rfl) ?_
  refine lv_bipush (v := (nI 11)) hx hb dX5_mixWord_27 (by decide) ?_
  refine lv_lshl (v := (x ^^^ (((w.toUInt64 >>> ((nI 56).toInt64.toUInt64 &&& Int64.toUInt64 63)).toInt64) &&& 255)) <<< ((nI 11).toInt64 &&& 63)) hx hb dX5_mixWord_29 rfl ?_
  refine lv_lload hx hb dX5_mixWord_30 (lv_at hl 0 rfl) ?_
  refine lv_bipush (v := (nI 53)) hx hb dX5_mixWord_32 (by decide) ?_
  refine lv_lushr (v := ((x ^^^ (((w.toUInt64 >>> ((nI 56).toInt64.toUInt64 &&& Int64.toUInt64 63)).toInt64) &&& 255)).toUInt64 >>> ((nI 53).toInt64.toUInt64 &&& Int64.toUInt64 63)).toInt64) hx hb dX5_mixWord_34 rfl ?_
  refine lv_lor hx hb dX5_mixWord_35 ?_
  refine lv_ldc2 (v := (-7046029254386353131)) hx hb hown (hts _ tw_200) dX5_mixWord_36 ?_
  refine lv_lmul hx hb dX5_mixWord_39 ?_
  refine xx_topl (y := (xs_mix x w 56)) rfl ?_
  refine lv_topl (fun x56 ex56 => ?_)
  refine lv_lstore (lv' := [(4, .long x56), (6, .int (nI 56)), (0, .long x), (2, .long w)]) hx hb dX5_mixWord_40 hl (by decide) rfl (fun ls hl => ?_)
  refine lv_iinc (v := (nI 48)) (lv' := [(6, .int (nI 48)), (4, .long x56), (0, .long x), (2, .long w)]) hx hb dX5_mixWord_42 hl (k := 1) rfl (by decide) (by decide) rfl (fun ls hl => ?_)
  refine lv_goto (tgt := 7) hx hb dX5_mixWord_45 (by decide) ?_
  refine lv_iload hx hb dX5_mixWord_7 (lv_at hl 0 rfl) ?_
  refine lv_if_lt (tgt := 48) hx hb dX5_mixWord_9 (by decide) (fun c => absurd c (by decide)) (fun _ => ?_)
  refine lv_lload hx hb dX5_mixWord_12 (lv_at hl 1 rfl) ?_
  refine lv_lload_n hx hb dX5_mixWord_14 rfl (lv_at hl 3 rfl) ?_
  refine lv_iload hx hb dX5_mixWord_15 (lv_at hl 0 rfl) ?_
  refine lv_lushr (v := (w.toUInt64 >>> ((nI 48).toInt64.toUInt64 &&& Int64.toUInt64 63)).toInt64) hx hb dX5_mixWord_17 rfl ?_
  refine lv_ldc2 (v := 255) hx hb hown (hts _ tw_199) dX5_mixWord_18 ?_
  refine lv_land hx hb dX5_mixWord_21 ?_
  refine lv_lxor hx hb dX5_mixWord_22 ?_
  refine lv_lstore (lv' := [(4, .long (x56 ^^^ (((w.toUInt64 >>> ((nI 48).toInt64.toUInt64 &&& Int64.toUInt64 63)).toInt64) &&& 255))), (6, .int (nI 48)), (0, .long x), (2, .long w)]) hx hb dX5_mixWord_23 hl (by decide) rfl (fun ls hl => ?_)
  refine lv_lload hx hb dX5_mixWord_25 (lv_at hl 0 rfl) ?_
  refine lv_bipush (v := (nI 11)) hx hb dX5_mixWord_27 (by decide) ?_
  refine lv_lshl (v := (x56 ^^^ (((w.toUInt64 >>> ((nI 48).toInt64.toUInt64 &&& Int64.toUInt64 63)).toInt64) &&& 255)) <<< ((nI 11).toInt64 &&& 63)) hx hb dX5_mixWord_29 rfl ?_
  refine lv_lload hx hb dX5_mixWord_30 (lv_at hl 0 rfl) ?_
  refine lv_bipush (v := (nI 53)) hx hb dX5_mixWord_32 (by decide) ?_
  refine lv_lushr (v := ((x56 ^^^ (((w.toUInt64 >>> ((nI 48).toInt64.toUInt64 &&& Int64.toUInt64 63)).toInt64) &&& 255)).toUInt64 >>> ((nI 53).toInt64.toUInt64 &&& Int64.toUInt64 63)).toInt64) hx hb dX5_mixWord_34 rfl ?_
  refine lv_lor hx hb dX5_mixWord_35 ?_
  refine lv_ldc2 (v := (-7046029254386353131)) hx hb hown (hts _ tw_200) dX5_mixWord_36 ?_
  refine lv_lmul hx hb dX5_mixWord_39 ?_
  refine xx_topl (y := (xs_mix x56 w 48)) rfl ?_
  refine lv_topl (fun x48 ex48 => ?_)
  refine lv_lstore (lv' := [(4, .long x48), (6, .int (nI 48)), (0, .long x), (2, .long w)]) hx hb dX5_mixWord_40 hl (by decide) rfl (fun ls hl => ?_)
  refine lv_iinc (v := (nI 40)) (lv' := [(6, .int (nI 40)), (4, .long x48), (0, .long x), (2, .long w)]) hx hb dX5_mixWord_42 hl (k := 1) rfl (by decide) (by decide) rfl (fun ls hl => ?_)
  refine lv_goto (tgt := 7) hx hb dX5_mixWord_45 (by decide) ?_
  refine lv_iload hx hb dX5_mixWord_7 (lv_at hl 0 rfl) ?_
  refine lv_if_lt (tgt := 48) hx hb dX5_mixWord_9 (by decide) (fun c => absurd c (by decide)) (fun _ => ?_)
  refine lv_lload hx hb dX5_mixWord_12 (lv_at hl 1 rfl) ?_
  refine lv_lload_n hx hb dX5_mixWord_14 rfl (lv_at hl 3 rfl) ?_
  refine lv_iload hx hb dX5_mixWord_15 (lv_at hl 0 rfl) ?_
  refine lv_lushr (v := (w.toUInt64 >>> ((nI 40).toInt64.toUInt64 &&& Int64.toUInt64 63)).toInt64) hx hb dX5_mixWord_17 rfl ?_
  refine lv_ldc2 (v := 255) hx hb hown (hts _ tw_199) dX5_mixWord_18 ?_
  refine lv_land hx hb dX5_mixWord_21 ?_
  refine lv_lxor hx hb dX5_mixWord_22 ?_
  refine lv_lstore (lv' := [(4, .long (x48 ^^^ (((w.toUInt64 >>> ((nI 40).toInt64.toUInt64 &&& Int64.toUInt64 63)).toInt64) &&& 255))), (6, .int (nI 40)), (0, .long x), (2, .long w)]) hx hb dX5_mixWord_23 hl (by decide) rfl (fun ls hl => ?_)
  refine lv_lload hx hb dX5_mixWord_25 (lv_at hl 0 rfl) ?_
  refine lv_bipush (v := (nI 11)) hx hb dX5_mixWord_27 (by decide) ?_
  refine lv_lshl (v := (x48 ^^^ (((w.toUInt64 >>> ((nI 40).toInt64.toUInt64 &&& Int64.toUInt64 63)).toInt64) &&& 255)) <<< ((nI 11).toInt64 &&& 63)) hx hb dX5_mixWord_29 rfl ?_
  refine lv_lload hx hb dX5_mixWord_30 (lv_at hl 0 rfl) ?_
  refine lv_bipush (v := (nI 53)) hx hb dX5_mixWord_32 (by decide) ?_
  refine lv_lushr (v := ((x48 ^^^ (((w.toUInt64 >>> ((nI 40).toInt64.toUInt64 &&& Int64.toUInt64 63)).toInt64) &&& 255)).toUInt64 >>> ((nI 53).toInt64.toUInt64 &&& Int64.toUInt64 63)).toInt64) hx hb dX5_mixWord_34 rfl ?_
  refine lv_lor hx hb dX5_mixWord_35 ?_
  refine lv_ldc2 (v := (-7046029254386353131)) hx hb hown (hts _ tw_200) dX5_mixWord_36 ?_
  refine lv_lmul hx hb dX5_mixWord_39 ?_
  refine xx_topl (y := (xs_mix x48 w 40)) rfl ?_
  refine lv_topl (fun x40 ex40 => ?_)
  refine lv_lstore (lv' := [(4, .long x40), (6, .int (nI 40)), (0, .long x), (2, .long w)]) hx hb dX5_mixWord_40 hl (by decide) rfl (fun ls hl => ?_)
  refine lv_iinc (v := (nI 32)) (lv' := [(6, .int (nI 32)), (4, .long x40), (0, .long x), (2, .long w)]) hx hb dX5_mixWord_42 hl (k := 1) rfl (by decide) (by decide) rfl (fun ls hl => ?_)
  refine lv_goto (tgt := 7) hx hb dX5_mixWord_45 (by decide) ?_
  refine lv_iload hx hb dX5_mixWord_7 (lv_at hl 0 rfl) ?_
  refine lv_if_lt (tgt := 48) hx hb dX5_mixWord_9 (by decide) (fun c => absurd c (by decide)) (fun _ => ?_)
  refine lv_lload hx hb dX5_mixWord_12 (lv_at hl 1 rfl) ?_
  refine lv_lload_n hx hb dX5_mixWord_14 rfl (lv_at hl 3 rfl) ?_
  refine lv_iload hx hb dX5_mixWord_15 (lv_at hl 0 rfl) ?_
  refine lv_lushr (v := (w.toUInt64 >>> ((nI 32).toInt64.toUInt64 &&& Int64.toUInt64 63)).toInt64) hx hb dX5_mixWord_17 rfl ?_
  refine lv_ldc2 (v := 255) hx hb hown (hts _ tw_199) dX5_mixWord_18 ?_
  refine lv_land hx hb dX5_mixWord_21 ?_
  refine lv_lxor hx hb dX5_mixWord_22 ?_
  refine lv_lstore (lv' := [(4, .long (x40 ^^^ (((w.toUInt64 >>> ((nI 32).toInt64.toUInt64 &&& Int64.toUInt64 63)).toInt64) &&& 255))), (6, .int (nI 32)), (0, .long x), (2, .long w)]) hx hb dX5_mixWord_23 hl (by decide) rfl (fun ls hl => ?_)
  refine lv_lload hx hb dX5_mixWord_25 (lv_at hl 0 rfl) ?_
  refine lv_bipush (v := (nI 11)) hx hb dX5_mixWord_27 (by decide) ?_
  refine lv_lshl (v := (x40 ^^^ (((w.toUInt64 >>> ((nI 32).toInt64.toUInt64 &&& Int64.toUInt64 63)).toInt64) &&& 255)) <<< ((nI 11).toInt64 &&& 63)) hx hb dX5_mixWord_29 rfl ?_
  refine lv_lload hx hb dX5_mixWord_30 (lv_at hl 0 rfl) ?_
  refine lv_bipush (v := (nI 53)) hx hb dX5_mixWord_32 (by decide) ?_
  refine lv_lushr (v := ((x40 ^^^ (((w.toUInt64 >>> ((nI 32).toInt64.toUInt64 &&& Int64.toUInt64 63)).toInt64) &&& 255)).toUInt64 >>> ((nI 53).toInt64.toUInt64 &&& Int64.toUInt64 63)).toInt64) hx hb dX5_mixWord_34 rfl ?_
  refine lv_lor hx hb dX5_mixWord_35 ?_
  refine lv_ldc2 (v := (-7046029254386353131)) hx hb hown (hts _ tw_200) dX5_mixWord_36 ?_
  refine lv_lmul hx hb dX5_mixWord_39 ?_
  refine xx_topl (y := (xs_mix x40 w 32)) rfl ?_
  refine lv_topl (fun x32 ex32 => ?_)
  refine lv_lstore (lv' := [(4, .long x32), (6, .int (nI 32)), (0, .long x), (2, .long w)]) hx hb dX5_mixWord_40 hl (by decide) rfl (fun ls hl => ?_)
  refine lv_iinc (v := (nI 24)) (lv' := [(6, .int (nI 24)), (4, .long x32), (0, .long x), (2, .long w)]) hx hb dX5_mixWord_42 hl (k := 1) rfl (by decide) (by decide) rfl (fun ls hl => ?_)
  refine lv_goto (tgt := 7) hx hb dX5_mixWord_45 (by decide) ?_
  refine lv_iload hx hb dX5_mixWord_7 (lv_at hl 0 rfl) ?_
  refine lv_if_lt (tgt := 48) hx hb dX5_mixWord_9 (by decide) (fun c => absurd c (by decide)) (fun _ => ?_)
  refine lv_lload hx hb dX5_mixWord_12 (lv_at hl 1 rfl) ?_
  refine lv_lload_n hx hb dX5_mixWord_14 rfl (lv_at hl 3 rfl) ?_
  refine lv_iload hx hb dX5_mixWord_15 (lv_at hl 0 rfl) ?_
  refine lv_lushr (v := (w.toUInt64 >>> ((nI 24).toInt64.toUInt64 &&& Int64.toUInt64 63)).toInt64) hx hb dX5_mixWord_17 rfl ?_
  refine lv_ldc2 (v := 255) hx hb hown (hts _ tw_199) dX5_mixWord_18 ?_
  refine lv_land hx hb dX5_mixWord_21 ?_
  refine lv_lxor hx hb dX5_mixWord_22 ?_
  refine lv_lstore (lv' := [(4, .long (x32 ^^^ (((w.toUInt64 >>> ((nI 24).toInt64.toUInt64 &&& Int64.toUInt64 63)).toInt64) &&& 255))), (6, .int (nI 24)), (0, .long x), (2, .long w)]) hx hb dX5_mixWord_23 hl (by decide) rfl (fun ls hl => ?_)
  refine lv_lload hx hb dX5_mixWord_25 (lv_at hl 0 rfl) ?_
  refine lv_bipush (v := (nI 11)) hx hb dX5_mixWord_27 (by decide) ?_
  refine lv_lshl (v := (x32 ^^^ (((w.toUInt64 >>> ((nI 24).toInt64.toUInt64 &&& Int64.toUInt64 63)).toInt64) &&& 255)) <<< ((nI 11).toInt64 &&& 63)) hx hb dX5_mixWord_29 rfl ?_
  refine lv_lload hx hb dX5_mixWord_30 (lv_at hl 0 rfl) ?_
  refine lv_bipush (v := (nI 53)) hx hb dX5_mixWord_32 (by decide) ?_
  refine lv_lushr (v := ((x32 ^^^ (((w.toUInt64 >>> ((nI 24).toInt64.toUInt64 &&& Int64.toUInt64 63)).toInt64) &&& 255)).toUInt64 >>> ((nI 53).toInt64.toUInt64 &&& Int64.toUInt64 63)).toInt64) hx hb dX5_mixWord_34 rfl ?_
  refine lv_lor hx hb dX5_mixWord_35 ?_
  refine lv_ldc2 (v := (-7046029254386353131)) hx hb hown (hts _ tw_200) dX5_mixWord_36 ?_
  refine lv_lmul hx hb dX5_mixWord_39 ?_
  refine xx_topl (y := (xs_mix x32 w 24)) rfl ?_
  refine lv_topl (fun x24 ex24 => ?_)
  refine lv_lstore (lv' := [(4, .long x24), (6, .int (nI 24)), (0, .long x), (2, .long w)]) hx hb dX5_mixWord_40 hl (by decide) rfl (fun ls hl => ?_)
  refine lv_iinc (v := (nI 16)) (lv' := [(6, .int (nI 16)), (4, .long x24), (0, .long x), (2, .long w)]) hx hb dX5_mixWord_42 hl (k := 1) rfl (by decide) (by decide) rfl (fun ls hl => ?_)
  refine lv_goto (tgt := 7) hx hb dX5_mixWord_45 (by decide) ?_
  refine lv_iload hx hb dX5_mixWord_7 (lv_at hl 0 rfl) ?_
  refine lv_if_lt (tgt := 48) hx hb dX5_mixWord_9 (by decide) (fun c => absurd c (by decide)) (fun _ => ?_)
  refine lv_lload hx hb dX5_mixWord_12 (lv_at hl 1 rfl) ?_
  refine lv_lload_n hx hb dX5_mixWord_14 rfl (lv_at hl 3 rfl) ?_
  refine lv_iload hx hb dX5_mixWord_15 (lv_at hl 0 rfl) ?_
  refine lv_lushr (v := (w.toUInt64 >>> ((nI 16).toInt64.toUInt64 &&& Int64.toUInt64 63)).toInt64) hx hb dX5_mixWord_17 rfl ?_
  refine lv_ldc2 (v := 255) hx hb hown (hts _ tw_199) dX5_mixWord_18 ?_
  refine lv_land hx hb dX5_mixWord_21 ?_
  refine lv_lxor hx hb dX5_mixWord_22 ?_
  refine lv_lstore (lv' := [(4, .long (x24 ^^^ (((w.toUInt64 >>> ((nI 16).toInt64.toUInt64 &&& Int64.toUInt64 63)).toInt64) &&& 255))), (6, .int (nI 16)), (0, .long x), (2, .long w)]) hx hb dX5_mixWord_23 hl (by decide) rfl (fun ls hl => ?_)
  refine lv_lload hx hb dX5_mixWord_25 (lv_at hl 0 rfl) ?_
  refine lv_bipush (v := (nI 11)) hx hb dX5_mixWord_27 (by decide) ?_
  refine lv_lshl (v := (x24 ^^^ (((w.toUInt64 >>> ((nI 16).toInt64.toUInt64 &&& Int64.toUInt64 63)).toInt64) &&& 255)) <<< ((nI 11).toInt64 &&& 63)) hx hb dX5_mixWord_29 rfl ?_
  refine lv_lload hx hb dX5_mixWord_30 (lv_at hl 0 rfl) ?_
  refine lv_bipush (v := (nI 53)) hx hb dX5_mixWord_32 (by decide) ?_
  refine lv_lushr (v := ((x24 ^^^ (((w.toUInt64 >>> ((nI 16).toInt64.toUInt64 &&& Int64.toUInt64 63)).toInt64) &&& 255)).toUInt64 >>> ((nI 53).toInt64.toUInt64 &&& Int64.toUInt64 63)).toInt64) hx hb dX5_mixWord_34 rfl ?_
  refine lv_lor hx hb dX5_mixWord_35 ?_
  refine lv_ldc2 (v := (-7046029254386353131)) hx hb hown (hts _ tw_200) dX5_mixWord_36 ?_
  refine lv_lmul hx hb dX5_mixWord_39 ?_
  refine xx_topl (y := (xs_mix x24 w 16)) rfl ?_
  refine lv_topl (fun x16 ex16 => ?_)
  refine lv_lstore (lv' := [(4, .long x16), (6, .int (nI 16)), (0, .long x), (2, .long w)]) hx hb dX5_mixWord_40 hl (by decide) rfl (fun ls hl => ?_)
  refine lv_iinc (v := (nI 8)) (lv' := [(6, .int (nI 8)), (4, .long x16), (0, .long x), (2, .long w)]) hx hb dX5_mixWord_42 hl (k := 1) rfl (by decide) (by decide) rfl (fun ls hl => ?_)
  refine lv_goto (tgt := 7) hx hb dX5_mixWord_45 (by decide) ?_
  refine lv_iload hx hb dX5_mixWord_7 (lv_at hl 0 rfl) ?_
  refine lv_if_lt (tgt := 48) hx hb dX5_mixWord_9 (by decide) (fun c => absurd c (by decide)) (fun _ => ?_)
  refine lv_lload hx hb dX5_mixWord_12 (lv_at hl 1 rfl) ?_
  refine lv_lload_n hx hb dX5_mixWord_14 rfl (lv_at hl 3 rfl) ?_
  refine lv_iload hx hb dX5_mixWord_15 (lv_at hl 0 rfl) ?_
  refine lv_lushr (v := (w.toUInt64 >>> ((nI 8).toInt64.toUInt64 &&& Int64.toUInt64 63)).toInt64) hx hb dX5_mixWord_17 rfl ?_
  refine lv_ldc2 (v := 255) hx hb hown (hts _ tw_199) dX5_mixWord_18 ?_
  refine lv_land hx hb dX5_mixWord_21 ?_
  refine lv_lxor hx hb dX5_mixWord_22 ?_
  refine lv_lstore (lv' := [(4, .long (x16 ^^^ (((w.toUInt64 >>> ((nI 8).toInt64.toUInt64 &&& Int64.toUInt64 63)).toInt64) &&& 255))), (6, .int (nI 8)), (0, .long x), (2, .long w)]) hx hb dX5_mixWord_23 hl (by decide) rfl (fun ls hl => ?_)
  refine lv_lload hx hb dX5_mixWord_25 (lv_at hl 0 rfl) ?_
  refine lv_bipush (v := (nI 11)) hx hb dX5_mixWord_27 (by decide) ?_
  refine lv_lshl (v := (x16 ^^^ (((w.toUInt64 >>> ((nI 8).toInt64.toUInt64 &&& Int64.toUInt64 63)).toInt64) &&& 255)) <<< ((nI 11).toInt64 &&& 63)) hx hb dX5_mixWord_29 rfl ?_
  refine lv_lload hx hb dX5_mixWord_30 (lv_at hl 0 rfl) ?_
  refine lv_bipush (v := (nI 53)) hx hb dX5_mixWord_32 (by decide) ?_
  refine lv_lushr (v := ((x16 ^^^ (((w.toUInt64 >>> ((nI 8).toInt64.toUInt64 &&& Int64.toUInt64 63)).toInt64) &&& 255)).toUInt64 >>> ((nI 53).toInt64.toUInt64 &&& Int64.toUInt64 63)).toInt64) hx hb dX5_mixWord_34 rfl ?_
  refine lv_lor hx hb dX5_mixWord_35 ?_
  refine lv_ldc2 (v := (-7046029254386353131)) hx hb hown (hts _ tw_200) dX5_mixWord_36 ?_
  refine lv_lmul hx hb dX5_mixWord_39 ?_
  refine xx_topl (y := (xs_mix x16 w 8)) rfl ?_
  refine lv_topl (fun x8 ex8 => ?_)
  refine lv_lstore (lv' := [(4, .long x8), (6, .int (nI 8)), (0, .long x), (2, .long w)]) hx hb dX5_mixWord_40 hl (by decide) rfl (fun ls hl => ?_)
  refine lv_iinc (v := (nI 0)) (lv' := [(6, .int (nI 0)), (4, .long x8), (0, .long x), (2, .long w)]) hx hb dX5_mixWord_42 hl (k := 1) rfl (by decide) (by decide) rfl (fun ls hl => ?_)
  refine lv_goto (tgt := 7) hx hb dX5_mixWord_45 (by decide) ?_
  refine lv_iload hx hb dX5_mixWord_7 (lv_at hl 0 rfl) ?_
  refine lv_if_lt (tgt := 48) hx hb dX5_mixWord_9 (by decide) (fun c => absurd c (by decide)) (fun _ => ?_)
  refine lv_lload hx hb dX5_mixWord_12 (lv_at hl 1 rfl) ?_
  refine lv_lload_n hx hb dX5_mixWord_14 rfl (lv_at hl 3 rfl) ?_
  refine lv_iload hx hb dX5_mixWord_15 (lv_at hl 0 rfl) ?_
  refine lv_lushr (v := (w.toUInt64 >>> ((nI 0).toInt64.toUInt64 &&& Int64.toUInt64 63)).toInt64) hx hb dX5_mixWord_17 rfl ?_
  refine lv_ldc2 (v := 255) hx hb hown (hts _ tw_199) dX5_mixWord_18 ?_
  refine lv_land hx hb dX5_mixWord_21 ?_
  refine lv_lxor hx hb dX5_mixWord_22 ?_
  refine lv_lstore (lv' := [(4, .long (x8 ^^^ (((w.toUInt64 >>> ((nI 0).toInt64.toUInt64 &&& Int64.toUInt64 63)).toInt64) &&& 255))), (6, .int (nI 0)), (0, .long x), (2, .long w)]) hx hb dX5_mixWord_23 hl (by decide) rfl (fun ls hl => ?_)
  refine lv_lload hx hb dX5_mixWord_25 (lv_at hl 0 rfl) ?_
  refine lv_bipush (v := (nI 11)) hx hb dX5_mixWord_27 (by decide) ?_
  refine lv_lshl (v := (x8 ^^^ (((w.toUInt64 >>> ((nI 0).toInt64.toUInt64 &&& Int64.toUInt64 63)).toInt64) &&& 255)) <<< ((nI 11).toInt64 &&& 63)) hx hb dX5_mixWord_29 rfl ?_
  refine lv_lload hx hb dX5_mixWord_30 (lv_at hl 0 rfl) ?_
  refine lv_bipush (v := (nI 53)) hx hb dX5_mixWord_32 (by decide) ?_
  refine lv_lushr (v := ((x8 ^^^ (((w.toUInt64 >>> ((nI 0).toInt64.toUInt64 &&& Int64.toUInt64 63)).toInt64) &&& 255)).toUInt64 >>> ((nI 53).toInt64.toUInt64 &&& Int64.toUInt64 63)).toInt64) hx hb dX5_mixWord_34 rfl ?_
  refine lv_lor hx hb dX5_mixWord_35 ?_
  refine lv_ldc2 (v := (-7046029254386353131)) hx hb hown (hts _ tw_200) dX5_mixWord_36 ?_
  refine lv_lmul hx hb dX5_mixWord_39 ?_
  refine xx_topl (y := (xs_mix x8 w 0)) rfl ?_
  refine lv_topl (fun x0 ex0 => ?_)
  refine lv_lstore (lv' := [(4, .long x0), (6, .int (nI 0)), (0, .long x), (2, .long w)]) hx hb dX5_mixWord_40 hl (by decide) rfl (fun ls hl => ?_)
  refine lv_iinc (v := (-8)) (lv' := [(6, .int (-8)), (4, .long x0), (0, .long x), (2, .long w)]) hx hb dX5_mixWord_42 hl (k := 1) rfl (by decide) (by decide) rfl (fun ls hl => ?_)
  refine lv_goto (tgt := 7) hx hb dX5_mixWord_45 (by decide) ?_
  refine lv_iload hx hb dX5_mixWord_7 (lv_at hl 0 rfl) ?_
  refine lv_if_lt (tgt := 48) hx hb dX5_mixWord_9 (by decide) (fun _ => ?_) (fun c => absurd c (by decide))
  refine lv_lload hx hb dX5_mixWord_48 (lv_at hl 1 rfl) ?_
  refine xx_lret () hx hb hr hlocks hS hK hP hD dX5_mixWord_50 ?_
  subst ex0 ex8 ex16 ex24 ex32 ex40 ex48 ex56
  exact rfl
def p_sumUnder (x : Int64) (a : Int64) (d : Int64) : Int64 → Unit → Prop := fun r u => r = xs_sum x a d
set_option maxHeartbeats 4000000 in
set_option maxRecDepth 100000 in
theorem c_sumUnder (l : Launch) (D : va_G) (k : Nat → ClassId) (x : Int64) (a : Int64) (d : Int64) : xx_Cl l yX5_sumUnder (.code yX5_sumUnder cX5_sumUnder 6 (some .long) :: xall) ({ frames := 1, cells := 0, slots := 0, locals := 26 } : Room) D vwCl (xT k) [.long x, .long a, .long d] ([]) (p_sumUnder x a d) (fun (u : Unit) => []) 0 0 := by
  intro sz
  refine xx_met (Qf := fun A => va_Ql (p_sumUnder x a d) (xx_B D vwCl (xT k) A (fun (u : Unit) => [])) A) (cc := cX5_sumUnder) (maxL := 6) (ret := (some .long)) (by decide) rfl (Nat.le_of_ble_eq_true rfl) ?_
  intro p e s m below meth c A ls hx hb hr hts hown hlocks hin hml hA hS hP hD hK hN hl
  have hl : lv_has ls 6 [(0, .long x), (2, .long a), (4, .long d)] := hl
  have hown : s.vm.findClass RX5 = some m.cls := hown
  refine lv_lload_n hx hb dX5_sumUnder_0 rfl (lv_at hl 0 rfl) ?_
  refine lv_lload_n hx hb dX5_sumUnder_1 rfl (lv_at hl 1 rfl) ?_
  refine xx_calll ([]) [] [] (va_runS (As := [.long x, .long a]) (rest := []) ⟨hx, hb, hml, hown, hts⟩ (c_mixWord l D k x a s.heap.size) (va_cwS 2 hts (xx_gS tw_196 tw_197 tw_1 tw_198) rfl rfl rfl (by decide +kernel) ⟨Nat.le_of_ble_eq_true rfl, Nat.le_of_ble_eq_true rfl⟩) (xx_preS hK hN hP hD [] (by decide) rfl) rfl rfl hl.1 rfl (lv_room (Nat.le_of_ble_eq_true rfl)) dX5_sumUnder_2 ⟨Nat.le_of_ble_eq_true rfl, Nat.le_of_ble_eq_true rfl⟩) hP hD hS hA rfl rfl (by decide) (by decide) (fun r2 u2 H locs hw2 hP hD hS => ?_)
  obtain rfl := hw2
  have hP : va_P D vwCl ([]) H := hP
  have hD : va_D A ([]) := hD
  refine lv_lload hx hb dX5_sumUnder_5 (lv_at hl 2 rfl) ?_
  refine xx_calll ([]) [] [] (va_runS (As := [.long (xs_word x a), .long d]) (rest := []) ⟨hx, hb, hml, hown, hts⟩ (c_mixWord l D k (xs_word x a) d H.size) (va_cwS 2 hts (xx_gS tw_196 tw_197 tw_1 tw_198) rfl rfl rfl (by decide +kernel) ⟨Nat.le_of_ble_eq_true rfl, Nat.le_of_ble_eq_true rfl⟩) (xx_preS hK hN hP hD [] (by decide) rfl) rfl rfl hl.1 rfl (lv_room (Nat.le_of_ble_eq_true rfl)) dX5_sumUnder_7 ⟨Nat.le_of_ble_eq_true rfl, Nat.le_of_ble_eq_true rfl⟩) hP hD hS hA rfl rfl (by decide) (by decide) (fun r7 u7 H locs hw7 hP hD hS => ?_)
  obtain rfl := hw7
  have hP : va_P D vwCl ([]) H := hP
  have hD : va_D A ([]) := hD
  refine xx_lret () hx hb hr hlocks hS hK hP hD dX5_sumUnder_10 ?_
  exact rfl
end
section
theorem dX4_has_0 : decode cX4_has 0 = .ok (.iload_n 1, 1) := by decide +kernel
theorem dX4_has_1 : decode cX4_has 1 = .ok (.ifCond .lt 15, 3) := by decide +kernel
theorem dX4_has_4 : decode cX4_has 4 = .ok (.iload_n 1, 1) := by decide +kernel
theorem dX4_has_5 : decode cX4_has 5 = .ok (.aload_n 0, 1) := by decide +kernel
theorem dX4_has_6 : decode cX4_has 6 = .ok (.getfield 32, 3) := by decide +kernel
theorem dX4_has_9 : decode cX4_has 9 = .ok (.if_icmp .ge 7, 3) := by decide +kernel
theorem dX4_has_12 : decode cX4_has 12 = .ok (.iconst 1, 1) := by decide +kernel
theorem dX4_has_13 : decode cX4_has 13 = .ok (.goto 4, 3) := by decide +kernel
theorem dX4_has_16 : decode cX4_has 16 = .ok (.iconst 0, 1) := by decide +kernel
theorem dX4_has_17 : decode cX4_has 17 = .ok (.ireturn, 1) := by decide +kernel
theorem dX4_mayWrite_0 : decode cX4_mayWrite 0 = .ok (.aload_n 0, 1) := by decide +kernel
theorem dX4_mayWrite_1 : decode cX4_mayWrite 1 = .ok (.iload_n 1, 1) := by decide +kernel
theorem dX4_mayWrite_2 : decode cX4_mayWrite 2 = .ok (.invokevirtual 40, 3) := by decide +kernel
theorem dX4_mayWrite_5 : decode cX4_mayWrite 5 = .ok (.ifCond .eq 16, 3) := by decide +kernel
theorem dX4_mayWrite_8 : decode cX4_mayWrite 8 = .ok (.aload_n 0, 1) := by decide +kernel
theorem dX4_mayWrite_9 : decode cX4_mayWrite 9 = .ok (.getfield 15, 3) := by decide +kernel
theorem dX4_mayWrite_12 : decode cX4_mayWrite 12 = .ok (.iload_n 1, 1) := by decide +kernel
theorem dX4_mayWrite_13 : decode cX4_mayWrite 13 = .ok (.baload, 1) := by decide +kernel
theorem dX4_mayWrite_14 : decode cX4_mayWrite 14 = .ok (.ifCond .ne 7, 3) := by decide +kernel
theorem dX4_mayWrite_17 : decode cX4_mayWrite 17 = .ok (.iconst 1, 1) := by decide +kernel
theorem dX4_mayWrite_18 : decode cX4_mayWrite 18 = .ok (.goto 4, 3) := by decide +kernel
theorem dX4_mayWrite_21 : decode cX4_mayWrite 21 = .ok (.iconst 0, 1) := by decide +kernel
theorem dX4_mayWrite_22 : decode cX4_mayWrite 22 = .ok (.ireturn, 1) := by decide +kernel
theorem dX4_levelOf_0 : decode cX4_levelOf 0 = .ok (.aload_n 0, 1) := by decide +kernel
theorem dX4_levelOf_1 : decode cX4_levelOf 1 = .ok (.iload_n 1, 1) := by decide +kernel
theorem dX4_levelOf_2 : decode cX4_levelOf 2 = .ok (.invokevirtual 40, 3) := by decide +kernel
theorem dX4_levelOf_5 : decode cX4_levelOf 5 = .ok (.ifCond .eq 12, 3) := by decide +kernel
theorem dX4_levelOf_8 : decode cX4_levelOf 8 = .ok (.aload_n 0, 1) := by decide +kernel
theorem dX4_levelOf_9 : decode cX4_levelOf 9 = .ok (.getfield 9, 3) := by decide +kernel
theorem dX4_levelOf_12 : decode cX4_levelOf 12 = .ok (.iload_n 1, 1) := by decide +kernel
theorem dX4_levelOf_13 : decode cX4_levelOf 13 = .ok (.iaload, 1) := by decide +kernel
theorem dX4_levelOf_14 : decode cX4_levelOf 14 = .ok (.goto 4, 3) := by decide +kernel
theorem dX4_levelOf_17 : decode cX4_levelOf 17 = .ok (.iconst (-1), 1) := by decide +kernel
theorem dX4_levelOf_18 : decode cX4_levelOf 18 = .ok (.ireturn, 1) := by decide +kernel
theorem dX4_shutOut_0 : decode cX4_shutOut 0 = .ok (.aload_n 0, 1) := by decide +kernel
theorem dX4_shutOut_1 : decode cX4_shutOut 1 = .ok (.iload_n 1, 1) := by decide +kernel
theorem dX4_shutOut_2 : decode cX4_shutOut 2 = .ok (.invokevirtual 40, 3) := by decide +kernel
theorem dX4_shutOut_5 : decode cX4_shutOut 5 = .ok (.ifCond .eq 10, 3) := by decide +kernel
theorem dX4_shutOut_8 : decode cX4_shutOut 8 = .ok (.aload_n 0, 1) := by decide +kernel
theorem dX4_shutOut_9 : decode cX4_shutOut 9 = .ok (.getfield 15, 3) := by decide +kernel
theorem dX4_shutOut_12 : decode cX4_shutOut 12 = .ok (.iload_n 1, 1) := by decide +kernel
theorem dX4_shutOut_13 : decode cX4_shutOut 13 = .ok (.iconst 1, 1) := by decide +kernel
theorem dX4_shutOut_14 : decode cX4_shutOut 14 = .ok (.bastore, 1) := by decide +kernel
theorem dX4_shutOut_15 : decode cX4_shutOut 15 = .ok (.return_, 1) := by decide +kernel
theorem dX4_add_0 : decode cX4_add 0 = .ok (.aload_n 0, 1) := by decide +kernel
theorem dX4_add_1 : decode cX4_add 1 = .ok (.getfield 32, 3) := by decide +kernel
theorem dX4_add_4 : decode cX4_add 4 = .ok (.bipush 12, 2) := by decide +kernel
theorem dX4_add_6 : decode cX4_add 6 = .ok (.if_icmp .ge 10, 3) := by decide +kernel
theorem dX4_add_9 : decode cX4_add 9 = .ok (.iload_n 1, 1) := by decide +kernel
theorem dX4_add_10 : decode cX4_add 10 = .ok (.invokestatic 36, 3) := by decide +kernel
theorem dX4_add_13 : decode cX4_add 13 = .ok (.ifCond .ne 5, 3) := by decide +kernel
theorem dX4_add_16 : decode cX4_add 16 = .ok (.iconst (-1), 1) := by decide +kernel
theorem dX4_add_17 : decode cX4_add 17 = .ok (.ireturn, 1) := by decide +kernel
theorem dX4_add_18 : decode cX4_add 18 = .ok (.aload_n 0, 1) := by decide +kernel
theorem dX4_add_19 : decode cX4_add 19 = .ok (.getfield 32, 3) := by decide +kernel
theorem dX4_add_22 : decode cX4_add 22 = .ok (.istore_n 2, 1) := by decide +kernel
theorem dX4_add_23 : decode cX4_add 23 = .ok (.aload_n 0, 1) := by decide +kernel
theorem dX4_add_24 : decode cX4_add 24 = .ok (.getfield 9, 3) := by decide +kernel
theorem dX4_add_27 : decode cX4_add 27 = .ok (.iload_n 2, 1) := by decide +kernel
theorem dX4_add_28 : decode cX4_add 28 = .ok (.iload_n 1, 1) := by decide +kernel
theorem dX4_add_29 : decode cX4_add 29 = .ok (.iastore, 1) := by decide +kernel
theorem dX4_add_30 : decode cX4_add 30 = .ok (.aload_n 0, 1) := by decide +kernel
theorem dX4_add_31 : decode cX4_add 31 = .ok (.dup, 1) := by decide +kernel
theorem dX4_add_32 : decode cX4_add 32 = .ok (.getfield 32, 3) := by decide +kernel
theorem dX4_add_35 : decode cX4_add 35 = .ok (.iconst 1, 1) := by decide +kernel
theorem dX4_add_36 : decode cX4_add 36 = .ok (.iadd, 1) := by decide +kernel
theorem dX4_add_37 : decode cX4_add 37 = .ok (.putfield 32, 3) := by decide +kernel
theorem dX4_add_40 : decode cX4_add 40 = .ok (.iload_n 2, 1) := by decide +kernel
theorem dX4_add_41 : decode cX4_add 41 = .ok (.ireturn, 1) := by decide +kernel
theorem dX4_addKey_0 : decode cX4_addKey 0 = .ok (.aload_n 0, 1) := by decide +kernel
theorem dX4_addKey_1 : decode cX4_addKey 1 = .ok (.iload_n 1, 1) := by decide +kernel
theorem dX4_addKey_2 : decode cX4_addKey 2 = .ok (.invokevirtual 43, 3) := by decide +kernel
theorem dX4_addKey_5 : decode cX4_addKey 5 = .ok (.ifCond .eq 13, 3) := by decide +kernel
theorem dX4_addKey_8 : decode cX4_addKey 8 = .ok (.aload_n 0, 1) := by decide +kernel
theorem dX4_addKey_9 : decode cX4_addKey 9 = .ok (.getfield 19, 3) := by decide +kernel
theorem dX4_addKey_12 : decode cX4_addKey 12 = .ok (.iload_n 1, 1) := by decide +kernel
theorem dX4_addKey_13 : decode cX4_addKey 13 = .ok (.iaload, 1) := by decide +kernel
theorem dX4_addKey_14 : decode cX4_addKey 14 = .ok (.iconst 4, 1) := by decide +kernel
theorem dX4_addKey_15 : decode cX4_addKey 15 = .ok (.if_icmp .lt 5, 3) := by decide +kernel
theorem dX4_addKey_18 : decode cX4_addKey 18 = .ok (.iconst (-1), 1) := by decide +kernel
theorem dX4_addKey_19 : decode cX4_addKey 19 = .ok (.ireturn, 1) := by decide +kernel
theorem dX4_addKey_20 : decode cX4_addKey 20 = .ok (.lload 4, 2) := by decide +kernel
theorem dX4_addKey_22 : decode cX4_addKey 22 = .ok (.lconst 0, 1) := by decide +kernel
theorem dX4_addKey_23 : decode cX4_addKey 23 = .ok (.lcmp, 1) := by decide +kernel
theorem dX4_addKey_24 : decode cX4_addKey 24 = .ok (.ifCond .lt 11, 3) := by decide +kernel
theorem dX4_addKey_27 : decode cX4_addKey 27 = .ok (.lload 6, 2) := by decide +kernel
theorem dX4_addKey_29 : decode cX4_addKey 29 = .ok (.lload 4, 2) := by decide +kernel
theorem dX4_addKey_31 : decode cX4_addKey 31 = .ok (.lcmp, 1) := by decide +kernel
theorem dX4_addKey_32 : decode cX4_addKey 32 = .ok (.ifCond .gt 5, 3) := by decide +kernel
theorem dX4_addKey_35 : decode cX4_addKey 35 = .ok (.iconst (-1), 1) := by decide +kernel
theorem dX4_addKey_36 : decode cX4_addKey 36 = .ok (.ireturn, 1) := by decide +kernel
theorem dX4_addKey_37 : decode cX4_addKey 37 = .ok (.aload_n 0, 1) := by decide +kernel
theorem dX4_addKey_38 : decode cX4_addKey 38 = .ok (.getfield 19, 3) := by decide +kernel
theorem dX4_addKey_41 : decode cX4_addKey 41 = .ok (.iload_n 1, 1) := by decide +kernel
theorem dX4_addKey_42 : decode cX4_addKey 42 = .ok (.iaload, 1) := by decide +kernel
theorem dX4_addKey_43 : decode cX4_addKey 43 = .ok (.istore 8, 2) := by decide +kernel
theorem dX4_addKey_45 : decode cX4_addKey 45 = .ok (.iload_n 1, 1) := by decide +kernel
theorem dX4_addKey_46 : decode cX4_addKey 46 = .ok (.iconst 4, 1) := by decide +kernel
theorem dX4_addKey_47 : decode cX4_addKey 47 = .ok (.imul, 1) := by decide +kernel
theorem dX4_addKey_48 : decode cX4_addKey 48 = .ok (.iload 8, 2) := by decide +kernel
theorem dX4_addKey_50 : decode cX4_addKey 50 = .ok (.iadd, 1) := by decide +kernel
theorem dX4_addKey_51 : decode cX4_addKey 51 = .ok (.istore 9, 2) := by decide +kernel
theorem dX4_addKey_53 : decode cX4_addKey 53 = .ok (.aload_n 0, 1) := by decide +kernel
theorem dX4_addKey_54 : decode cX4_addKey 54 = .ok (.getfield 22, 3) := by decide +kernel
theorem dX4_addKey_57 : decode cX4_addKey 57 = .ok (.iload 9, 2) := by decide +kernel
theorem dX4_addKey_59 : decode cX4_addKey 59 = .ok (.lload_n 2, 1) := by decide +kernel
theorem dX4_addKey_60 : decode cX4_addKey 60 = .ok (.lastore, 1) := by decide +kernel
theorem dX4_addKey_61 : decode cX4_addKey 61 = .ok (.aload_n 0, 1) := by decide +kernel
theorem dX4_addKey_62 : decode cX4_addKey 62 = .ok (.getfield 26, 3) := by decide +kernel
theorem dX4_addKey_65 : decode cX4_addKey 65 = .ok (.iload 9, 2) := by decide +kernel
theorem dX4_addKey_67 : decode cX4_addKey 67 = .ok (.lload 4, 2) := by decide +kernel
theorem dX4_addKey_69 : decode cX4_addKey 69 = .ok (.lastore, 1) := by decide +kernel
theorem dX4_addKey_70 : decode cX4_addKey 70 = .ok (.aload_n 0, 1) := by decide +kernel
theorem dX4_addKey_71 : decode cX4_addKey 71 = .ok (.getfield 29, 3) := by decide +kernel
theorem dX4_addKey_74 : decode cX4_addKey 74 = .ok (.iload 9, 2) := by decide +kernel
theorem dX4_addKey_76 : decode cX4_addKey 76 = .ok (.lload 6, 2) := by decide +kernel
theorem dX4_addKey_78 : decode cX4_addKey 78 = .ok (.lastore, 1) := by decide +kernel
theorem dX4_addKey_79 : decode cX4_addKey 79 = .ok (.aload_n 0, 1) := by decide +kernel
theorem dX4_addKey_80 : decode cX4_addKey 80 = .ok (.getfield 19, 3) := by decide +kernel
theorem dX4_addKey_83 : decode cX4_addKey 83 = .ok (.iload_n 1, 1) := by decide +kernel
theorem dX4_addKey_84 : decode cX4_addKey 84 = .ok (.dup2, 1) := by decide +kernel
theorem dX4_addKey_85 : decode cX4_addKey 85 = .ok (.iaload, 1) := by decide +kernel
theorem dX4_addKey_86 : decode cX4_addKey 86 = .ok (.iconst 1, 1) := by decide +kernel
theorem dX4_addKey_87 : decode cX4_addKey 87 = .ok (.iadd, 1) := by decide +kernel
theorem dX4_addKey_88 : decode cX4_addKey 88 = .ok (.iastore, 1) := by decide +kernel
theorem dX4_addKey_89 : decode cX4_addKey 89 = .ok (.iload 8, 2) := by decide +kernel
theorem dX4_addKey_91 : decode cX4_addKey 91 = .ok (.ireturn, 1) := by decide +kernel
theorem dX4_fits_0 : decode cX4_fits 0 = .ok (.aload_n 0, 1) := by decide +kernel
theorem dX4_fits_1 : decode cX4_fits 1 = .ok (.iload_n 1, 1) := by decide +kernel
theorem dX4_fits_2 : decode cX4_fits 2 = .ok (.invokevirtual 40, 3) := by decide +kernel
theorem dX4_fits_5 : decode cX4_fits 5 = .ok (.ifCond .ne 5, 3) := by decide +kernel
theorem dX4_fits_8 : decode cX4_fits 8 = .ok (.iconst 0, 1) := by decide +kernel
theorem dX4_fits_9 : decode cX4_fits 9 = .ok (.ireturn, 1) := by decide +kernel
theorem dX4_fits_10 : decode cX4_fits 10 = .ok (.iload_n 1, 1) := by decide +kernel
theorem dX4_fits_11 : decode cX4_fits 11 = .ok (.iconst 4, 1) := by decide +kernel
theorem dX4_fits_12 : decode cX4_fits 12 = .ok (.imul, 1) := by decide +kernel
theorem dX4_fits_13 : decode cX4_fits 13 = .ok (.istore 10, 2) := by decide +kernel
theorem dX4_fits_15 : decode cX4_fits 15 = .ok (.iload 10, 2) := by decide +kernel
theorem dX4_fits_17 : decode cX4_fits 17 = .ok (.aload_n 0, 1) := by decide +kernel
theorem dX4_fits_18 : decode cX4_fits 18 = .ok (.getfield 19, 3) := by decide +kernel
theorem dX4_fits_21 : decode cX4_fits 21 = .ok (.iload_n 1, 1) := by decide +kernel
theorem dX4_fits_22 : decode cX4_fits 22 = .ok (.iaload, 1) := by decide +kernel
theorem dX4_fits_23 : decode cX4_fits 23 = .ok (.iadd, 1) := by decide +kernel
theorem dX4_fits_24 : decode cX4_fits 24 = .ok (.istore 11, 2) := by decide +kernel
theorem dX4_fits_26 : decode cX4_fits 26 = .ok (.iload 10, 2) := by decide +kernel
theorem dX4_fits_28 : decode cX4_fits 28 = .ok (.istore 12, 2) := by decide +kernel
theorem dX4_fits_30 : decode cX4_fits 30 = .ok (.iload 12, 2) := by decide +kernel
theorem dX4_fits_32 : decode cX4_fits 32 = .ok (.iload 11, 2) := by decide +kernel
theorem dX4_fits_34 : decode cX4_fits 34 = .ok (.if_icmp .ge 68, 3) := by decide +kernel
theorem dX4_fits_37 : decode cX4_fits 37 = .ok (.aload_n 0, 1) := by decide +kernel
theorem dX4_fits_38 : decode cX4_fits 38 = .ok (.getfield 26, 3) := by decide +kernel
theorem dX4_fits_41 : decode cX4_fits 41 = .ok (.iload 12, 2) := by decide +kernel
theorem dX4_fits_43 : decode cX4_fits 43 = .ok (.laload, 1) := by decide +kernel
theorem dX4_fits_44 : decode cX4_fits 44 = .ok (.lload 8, 2) := by decide +kernel
theorem dX4_fits_46 : decode cX4_fits 46 = .ok (.lcmp, 1) := by decide +kernel
theorem dX4_fits_47 : decode cX4_fits 47 = .ok (.ifCond .gt 20, 3) := by decide +kernel
theorem dX4_fits_50 : decode cX4_fits 50 = .ok (.lload 8, 2) := by decide +kernel
theorem dX4_fits_52 : decode cX4_fits 52 = .ok (.aload_n 0, 1) := by decide +kernel
theorem dX4_fits_53 : decode cX4_fits 53 = .ok (.getfield 29, 3) := by decide +kernel
theorem dX4_fits_56 : decode cX4_fits 56 = .ok (.iload 12, 2) := by decide +kernel
theorem dX4_fits_58 : decode cX4_fits 58 = .ok (.laload, 1) := by decide +kernel
theorem dX4_fits_59 : decode cX4_fits 59 = .ok (.lcmp, 1) := by decide +kernel
theorem dX4_fits_60 : decode cX4_fits 60 = .ok (.ifCond .ge 7, 3) := by decide +kernel
theorem dX4_fits_63 : decode cX4_fits 63 = .ok (.iconst 1, 1) := by decide +kernel
theorem dX4_fits_64 : decode cX4_fits 64 = .ok (.goto 4, 3) := by decide +kernel
theorem dX4_fits_67 : decode cX4_fits 67 = .ok (.iconst 0, 1) := by decide +kernel
theorem dX4_fits_68 : decode cX4_fits 68 = .ok (.istore 13, 2) := by decide +kernel
theorem dX4_fits_70 : decode cX4_fits 70 = .ok (.iload 13, 2) := by decide +kernel
theorem dX4_fits_72 : decode cX4_fits 72 = .ok (.ifCond .eq 24, 3) := by decide +kernel
theorem dX4_fits_75 : decode cX4_fits 75 = .ok (.aload_n 0, 1) := by decide +kernel
theorem dX4_fits_76 : decode cX4_fits 76 = .ok (.getfield 22, 3) := by decide +kernel
theorem dX4_fits_79 : decode cX4_fits 79 = .ok (.iload 12, 2) := by decide +kernel
theorem dX4_fits_81 : decode cX4_fits 81 = .ok (.laload, 1) := by decide +kernel
theorem dX4_fits_82 : decode cX4_fits 82 = .ok (.lload_n 2, 1) := by decide +kernel
theorem dX4_fits_83 : decode cX4_fits 83 = .ok (.lload 4, 2) := by decide +kernel
theorem dX4_fits_85 : decode cX4_fits 85 = .ok (.invokestatic 46, 3) := by decide +kernel
theorem dX4_fits_88 : decode cX4_fits 88 = .ok (.lload 6, 2) := by decide +kernel
theorem dX4_fits_90 : decode cX4_fits 90 = .ok (.lcmp, 1) := by decide +kernel
theorem dX4_fits_91 : decode cX4_fits 91 = .ok (.ifCond .ne 5, 3) := by decide +kernel
theorem dX4_fits_94 : decode cX4_fits 94 = .ok (.iconst 1, 1) := by decide +kernel
theorem dX4_fits_95 : decode cX4_fits 95 = .ok (.ireturn, 1) := by decide +kernel
theorem dX4_fits_96 : decode cX4_fits 96 = .ok (.iinc 12 1, 3) := by decide +kernel
theorem dX4_fits_99 : decode cX4_fits 99 = .ok (.goto (-69), 3) := by decide +kernel
theorem dX4_fits_102 : decode cX4_fits 102 = .ok (.iconst 0, 1) := by decide +kernel
theorem dX4_fits_103 : decode cX4_fits 103 = .ok (.ireturn, 1) := by decide +kernel
def p_W_has (ow : Nat → Nat) (wc : Nat) (wl : Nat → Int32) (wb : Nat → Bool) (wk : Nat → Nat) (kk : Nat → Int64) (kf : Nat → Int64) (ku : Nat → Int64) (x : Int32) : Int32 → Unit → Prop := fun r u => xb r (ixN wc x)
set_option maxHeartbeats 4000000 in
set_option maxRecDepth 100000 in
theorem c_W_has (l : Launch) (D : va_G) (k : Nat → ClassId) (ow : Nat → Nat) (wc : Nat) (wl : Nat → Int32) (wb : Nat → Bool) (wk : Nat → Nat) (kk : Nat → Int64) (kf : Nat → Int64) (ku : Nat → Int64) (x : Int32) (hwc : wc ≤ 12) : xx_Ci l yX4_has (.code yX4_has cX4_has 2 (some .boolean) :: xall) ({ frames := 0, cells := 0, slots := 0, locals := 0 } : Room) D vwCl (xT k) [.ref (ow 0), .int x] (bW k ow wc wl wb wk kk kf ku) (p_W_has ow wc wl wb wk kk kf ku x) (fun (u : Unit) => bW k ow wc wl wb wk kk kf ku) 0 0 := by
  intro sz
  refine xx_met (Qf := fun A => va_Qi (p_W_has ow wc wl wb wk kk kf ku x) (xx_B D vwCl (xT k) A (fun (u : Unit) => bW k ow wc wl wb wk kk kf ku)) A) (cc := cX4_has) (maxL := 2) (ret := (some .boolean)) (by decide) rfl (Nat.le_of_ble_eq_true rfl) ?_
  intro p e s m below meth c A ls hx hb hr hts hown hlocks hin hml hA hS hP hD hK hN hl
  have hl : lv_has ls 2 [(0, .ref (ow 0)), (1, .int x)] := hl
  have hown : s.vm.findClass RX4 = some m.cls := hown
  have hinW := inX4
  refine lv_iload_n hx hb dX4_has_0 rfl (lv_at hl 1 rfl) ?_
  refine lv_if_lt (tgt := 16) hx hb dX4_has_1 (by decide) (fun c1 => ?_) (fun c1 => ?_)
  · refine lv_iconst (v := (nI 0)) hx hb dX4_has_16 (by decide) ?_
    refine xx_zret () hx hb hr hlocks rfl hS hK hP hD dX4_has_17 ?_
    first | exact xb_f (xx_nix (by omega) (Or.inl c1)) | exact xb_f (xx_nix (by omega) (Or.inr c9)) | exact xb_t (xx_ix (by omega) c1 c9)
  · refine lv_iload_n hx hb dX4_has_4 rfl (lv_at hl 1 rfl) ?_
    refine lv_aload_n hx hb dX4_has_5 rfl (lv_at hl 0 rfl) ?_
    refine va_get (D := D) (ci := 4) (v := .int (nI wc)) (C := RX4) (T := TX4) (N := 7) hx hb hts hinW hown hK hP 0 rfl rfl 6 (by decide) (hts _ tw_36) (fun _ h9 => h9) rfl dX4_has_6 ?_
    refine lv_icmp_ge (tgt := 16) hx hb dX4_has_9 (by decide) (fun c9 => ?_) (fun c9 => ?_)
    · refine lv_iconst (v := (nI 0)) hx hb dX4_has_16 (by decide) ?_
      refine xx_zret () hx hb hr hlocks rfl hS hK hP hD dX4_has_17 ?_
      first | exact xb_f (xx_nix (by omega) (Or.inl c1)) | exact xb_f (xx_nix (by omega) (Or.inr c9)) | exact xb_t (xx_ix (by omega) c1 c9)
    · refine lv_iconst (v := (nI 1)) hx hb dX4_has_12 (by decide) ?_
      refine lv_goto (tgt := 17) hx hb dX4_has_13 (by decide) ?_
      refine xx_zret () hx hb hr hlocks rfl hS hK hP hD dX4_has_17 ?_
      first | exact xb_f (xx_nix (by omega) (Or.inl c1)) | exact xb_f (xx_nix (by omega) (Or.inr c9)) | exact xb_t (xx_ix (by omega) c1 c9)
def p_W_may (ow : Nat → Nat) (wc : Nat) (wl : Nat → Int32) (wb : Nat → Bool) (wk : Nat → Nat) (kk : Nat → Int64) (kf : Nat → Int64) (ku : Nat → Int64) (x : Int32) : Int32 → Unit → Prop := fun r u => xb r (∃ j, j < wc ∧ x = nI j ∧ wb j = false)
set_option maxHeartbeats 4000000 in
set_option maxRecDepth 100000 in
theorem c_W_may (l : Launch) (D : va_G) (k : Nat → ClassId) (ow : Nat → Nat) (wc : Nat) (wl : Nat → Int32) (wb : Nat → Bool) (wk : Nat → Nat) (kk : Nat → Int64) (kf : Nat → Int64) (ku : Nat → Int64) (x : Int32) (hwc : wc ≤ 12) : xx_Ci l yX4_mayWrite (.code yX4_mayWrite cX4_mayWrite 2 (some .boolean) :: xall) ({ frames := 1, cells := 0, slots := 0, locals := 21 } : Room) D vwCl (xT k) [.ref (ow 0), .int x] (bW k ow wc wl wb wk kk kf ku) (p_W_may ow wc wl wb wk kk kf ku x) (fun (u : Unit) => bW k ow wc wl wb wk kk kf ku) 0 0 := by
  intro sz
  refine xx_met (Qf := fun A => va_Qi (p_W_may ow wc wl wb wk kk kf ku x) (xx_B D vwCl (xT k) A (fun (u : Unit) => bW k ow wc wl wb wk kk kf ku)) A) (cc := cX4_mayWrite) (maxL := 2) (ret := (some .boolean)) (by decide) rfl (Nat.le_of_ble_eq_true rfl) ?_
  intro p e s m below meth c A ls hx hb hr hts hown hlocks hin hml hA hS hP hD hK hN hl
  have hl : lv_has ls 2 [(0, .ref (ow 0)), (1, .int x)] := hl
  have hown : s.vm.findClass RX4 = some m.cls := hown
  have hinW := inX4
  refine lv_aload_n hx hb dX4_mayWrite_0 rfl (lv_at hl 0 rfl) ?_
  refine lv_iload_n hx hb dX4_mayWrite_1 rfl (lv_at hl 1 rfl) ?_
  refine xx_calli ([]) [0, 1, 2, 3, 4, 5, 6] [] (va_runV (As := [.int x]) (rest := []) ⟨hx, hb, hml, hown, hts⟩ (c_W_has l D k ow wc wl wb wk kk kf ku x (by omega) s.heap.size) (cwV 1 hts (xx_gV tw_185 tw_186 tw_187 tw_3 tw_188) rfl rfl rfl (by decide +kernel) ⟨Nat.le_of_ble_eq_true rfl, Nat.le_of_ble_eq_true rfl⟩) (xx_preV hK hN hP hD [0, 1, 2, 3, 4, 5, 6] (by decide) rfl 4 0 rfl rfl) rfl rfl hl.1 rfl (lv_room (Nat.le_of_ble_eq_true rfl)) dX4_mayWrite_2 ⟨Nat.le_of_ble_eq_true rfl, Nat.le_of_ble_eq_true rfl⟩) hP hD hS hA rfl rfl (by decide) (by decide) (fun r2 u2 H locs hw2 hP hD hS => ?_)
  rcases hw2 with ⟨rfl, j2, hj2, hx2⟩ | ⟨rfl, hq2⟩
  · subst hx2
    have hP : va_P D vwCl (bW k ow wc wl wb wk kk kf ku) H := hP
    have hD : va_D A (bW k ow wc wl wb wk kk kf ku) := hD
    refine lv_if_eq (tgt := 21) hx hb dX4_mayWrite_5 (by decide) (fun c => absurd c (by decide)) (fun _ => ?_)
    refine lv_aload_n hx hb dX4_mayWrite_8 rfl (lv_at hl 0 rfl) ?_
    refine va_get (D := D) (ci := 4) (v := .ref (ow 2)) (C := RX4) (T := TX4) (N := 7) hx hb hts hinW hown hK hP 0 rfl rfl 1 (by decide) (hts _ tw_31) (fun _ h9 => h9) rfl dX4_mayWrite_9 ?_
    refine lv_iload_n hx hb dX4_mayWrite_12 rfl (lv_at hl 1 rfl) ?_
    refine xx_zald hx hb hK hP 2 1 rfl rfl (show j2 < 12 by omega) (by decide) dX4_mayWrite_13 ?_
    refine lv_if_ne (tgt := 21) hx hb dX4_mayWrite_14 (by decide) (fun c14 => ?_) (fun c14 => ?_)
    · have c14 : wb j2 = true := bI_ne c14
      refine lv_iconst (v := (nI 0)) hx hb dX4_mayWrite_21 (by decide) ?_
      refine xx_zret () hx hb hr hlocks rfl hS hK hP hD dX4_mayWrite_22 ?_
      first | exact xb_f (xx_none hq2) | exact xb_t ⟨j2, hj2, rfl, c14⟩ | exact xb_f (xx_one (P := fun j => wb j = false) (by omega) hj2 (fun h => xx_tf c14 h))
    · have c14 : wb j2 = false := bI_eq c14
      refine lv_iconst (v := (nI 1)) hx hb dX4_mayWrite_17 (by decide) ?_
      refine lv_goto (tgt := 22) hx hb dX4_mayWrite_18 (by decide) ?_
      refine xx_zret () hx hb hr hlocks rfl hS hK hP hD dX4_mayWrite_22 ?_
      first | exact xb_f (xx_none hq2) | exact xb_t ⟨j2, hj2, rfl, c14⟩ | exact xb_f (xx_one (P := fun j => wb j = false) (by omega) hj2 (fun h => xx_tf c14 h))
  · have hP : va_P D vwCl (bW k ow wc wl wb wk kk kf ku) H := hP
    have hD : va_D A (bW k ow wc wl wb wk kk kf ku) := hD
    refine lv_if_eq (tgt := 21) hx hb dX4_mayWrite_5 (by decide) (fun _ => ?_) (fun c => absurd c (by decide))
    refine lv_iconst (v := (nI 0)) hx hb dX4_mayWrite_21 (by decide) ?_
    refine xx_zret () hx hb hr hlocks rfl hS hK hP hD dX4_mayWrite_22 ?_
    first | exact xb_f (xx_none hq2) | exact xb_t ⟨j2, hj2, rfl, c14⟩ | exact xb_f (xx_one (P := fun j => wb j = false) (by omega) hj2 (fun h => xx_tf c14 h))
def p_W_levelOf (ow : Nat → Nat) (wc : Nat) (wl : Nat → Int32) (wb : Nat → Bool) (wk : Nat → Nat) (kk : Nat → Int64) (kf : Nat → Int64) (ku : Nat → Int64) (w : Nat) : Int32 → Unit → Prop := fun r u => r = wl w
set_option maxHeartbeats 4000000 in
set_option maxRecDepth 100000 in
theorem c_W_levelOf (l : Launch) (D : va_G) (k : Nat → ClassId) (ow : Nat → Nat) (wc : Nat) (wl : Nat → Int32) (wb : Nat → Bool) (wk : Nat → Nat) (kk : Nat → Int64) (kf : Nat → Int64) (ku : Nat → Int64) (w : Nat) (hwc : wc ≤ 12) (hw : w < wc) : xx_Ci l yX4_levelOf (.code yX4_levelOf cX4_levelOf 2 (some .int) :: xall) ({ frames := 1, cells := 0, slots := 0, locals := 21 } : Room) D vwCl (xT k) [.ref (ow 0), .int (nI w)] (bW k ow wc wl wb wk kk kf ku) (p_W_levelOf ow wc wl wb wk kk kf ku w) (fun (u : Unit) => bW k ow wc wl wb wk kk kf ku) 0 0 := by
  intro sz
  refine xx_met (Qf := fun A => va_Qi (p_W_levelOf ow wc wl wb wk kk kf ku w) (xx_B D vwCl (xT k) A (fun (u : Unit) => bW k ow wc wl wb wk kk kf ku)) A) (cc := cX4_levelOf) (maxL := 2) (ret := (some .int)) (by decide) rfl (Nat.le_of_ble_eq_true rfl) ?_
  intro p e s m below meth c A ls hx hb hr hts hown hlocks hin hml hA hS hP hD hK hN hl
  have hl : lv_has ls 2 [(0, .ref (ow 0)), (1, .int (nI w))] := hl
  have hown : s.vm.findClass RX4 = some m.cls := hown
  have hinW := inX4
  refine lv_aload_n hx hb dX4_levelOf_0 rfl (lv_at hl 0 rfl) ?_
  refine lv_iload_n hx hb dX4_levelOf_1 rfl (lv_at hl 1 rfl) ?_
  refine xx_calli ([]) [0, 1, 2, 3, 4, 5, 6] [] (va_runV (As := [.int (nI w)]) (rest := []) ⟨hx, hb, hml, hown, hts⟩ (c_W_has l D k ow wc wl wb wk kk kf ku (nI w) (by omega) s.heap.size) (cwV 1 hts (xx_gV tw_185 tw_186 tw_187 tw_3 tw_188) rfl rfl rfl (by decide +kernel) ⟨Nat.le_of_ble_eq_true rfl, Nat.le_of_ble_eq_true rfl⟩) (xx_preV hK hN hP hD [0, 1, 2, 3, 4, 5, 6] (by decide) rfl 4 0 rfl rfl) rfl rfl hl.1 rfl (lv_room (Nat.le_of_ble_eq_true rfl)) dX4_levelOf_2 ⟨Nat.le_of_ble_eq_true rfl, Nat.le_of_ble_eq_true rfl⟩) hP hD hS hA rfl rfl (by decide) (by decide) (fun r2 u2 H locs hw2 hP hD hS => ?_)
  rcases hw2 with ⟨rfl, j2, hj2, hx2⟩ | ⟨rfl, hq2⟩
  · have hx2 : w = j2 := (nI_eq (by omega) (by omega)).mp hx2
    subst hx2
    have hP : va_P D vwCl (bW k ow wc wl wb wk kk kf ku) H := hP
    have hD : va_D A (bW k ow wc wl wb wk kk kf ku) := hD
    refine lv_if_eq (tgt := 17) hx hb dX4_levelOf_5 (by decide) (fun c => absurd c (by decide)) (fun _ => ?_)
    refine lv_aload_n hx hb dX4_levelOf_8 rfl (lv_at hl 0 rfl) ?_
    refine va_get (D := D) (ci := 4) (v := .ref (ow 1)) (C := RX4) (T := TX4) (N := 7) hx hb hts hinW hown hK hP 0 rfl rfl 0 (by decide) (hts _ tw_30) (fun _ h9 => h9) rfl dX4_levelOf_9 ?_
    refine lv_iload_n hx hb dX4_levelOf_12 rfl (lv_at hl 1 rfl) ?_
    refine xx_iald hx hb hK hP 1 0 rfl rfl (show w < 12 by omega) (by decide) dX4_levelOf_13 ?_
    refine lv_goto (tgt := 18) hx hb dX4_levelOf_14 (by decide) ?_
    refine xx_iret () hx hb hr hlocks hS hK hP hD dX4_levelOf_18 ?_
    exact rfl
  · have hP : va_P D vwCl (bW k ow wc wl wb wk kk kf ku) H := hP
    have hD : va_D A (bW k ow wc wl wb wk kk kf ku) := hD
    exact absurd ⟨w, hw, rfl⟩ hq2
def p_W_shutOut (ow : Nat → Nat) (wc : Nat) (wl : Nat → Int32) (wb : Nat → Bool) (wk : Nat → Nat) (kk : Nat → Int64) (kf : Nat → Int64) (ku : Nat → Int64) (w : Nat) : (Nat → Bool) → Prop := fun u => u = xu_B wb w true
set_option maxHeartbeats 4000000 in
set_option maxRecDepth 100000 in
theorem c_W_shutOut (l : Launch) (D : va_G) (k : Nat → ClassId) (ow : Nat → Nat) (wc : Nat) (wl : Nat → Int32) (wb : Nat → Bool) (wk : Nat → Nat) (kk : Nat → Int64) (kf : Nat → Int64) (ku : Nat → Int64) (w : Nat) (hwc : wc ≤ 12) (hw : w < wc) : xx_Cv l yX4_shutOut (.code yX4_shutOut cX4_shutOut 2 none :: xall) ({ frames := 1, cells := 0, slots := 0, locals := 21 } : Room) D vwCl (xT k) [.ref (ow 0), .int (nI w)] (bW k ow wc wl wb wk kk kf ku) (p_W_shutOut ow wc wl wb wk kk kf ku w) (fun (u : Nat → Bool) => bW k ow wc wl u wk kk kf ku) 0 0 := by
  intro sz
  refine xx_met (Qf := fun A => va_Qv (p_W_shutOut ow wc wl wb wk kk kf ku w) (xx_B D vwCl (xT k) A (fun (u : Nat → Bool) => bW k ow wc wl u wk kk kf ku)) A) (cc := cX4_shutOut) (maxL := 2) (ret := none) (by decide) rfl (Nat.le_of_ble_eq_true rfl) ?_
  intro p e s m below meth c A ls hx hb hr hts hown hlocks hin hml hA hS hP hD hK hN hl
  have hl : lv_has ls 2 [(0, .ref (ow 0)), (1, .int (nI w))] := hl
  have hown : s.vm.findClass RX4 = some m.cls := hown
  have hinW := inX4
  refine lv_aload_n hx hb dX4_shutOut_0 rfl (lv_at hl 0 rfl) ?_
  refine lv_iload_n hx hb dX4_shutOut_1 rfl (lv_at hl 1 rfl) ?_
  refine xx_calli ([]) [0, 1, 2, 3, 4, 5, 6] [] (va_runV (As := [.int (nI w)]) (rest := []) ⟨hx, hb, hml, hown, hts⟩ (c_W_has l D k ow wc wl wb wk kk kf ku (nI w) (by omega) s.heap.size) (cwV 1 hts (xx_gV tw_185 tw_186 tw_187 tw_3 tw_188) rfl rfl rfl (by decide +kernel) ⟨Nat.le_of_ble_eq_true rfl, Nat.le_of_ble_eq_true rfl⟩) (xx_preV hK hN hP hD [0, 1, 2, 3, 4, 5, 6] (by decide) rfl 4 0 rfl rfl) rfl rfl hl.1 rfl (lv_room (Nat.le_of_ble_eq_true rfl)) dX4_shutOut_2 ⟨Nat.le_of_ble_eq_true rfl, Nat.le_of_ble_eq_true rfl⟩) hP hD hS hA rfl rfl (by decide) (by decide) (fun r2 u2 H locs hw2 hP hD hS => ?_)
  rcases hw2 with ⟨rfl, j2, hj2, hx2⟩ | ⟨rfl, hq2⟩
  · have hx2 : w = j2 := (nI_eq (by omega) (by omega)).mp hx2
    subst hx2
    have hP : va_P D vwCl (bW k ow wc wl wb wk kk kf ku) H := hP
    have hD : va_D A (bW k ow wc wl wb wk kk kf ku) := hD
    refine lv_if_eq (tgt := 15) hx hb dX4_shutOut_5 (by decide) (fun c => absurd c (by decide)) (fun _ => ?_)
    refine lv_aload_n hx hb dX4_shutOut_8 rfl (lv_at hl 0 rfl) ?_
    refine va_get (D := D) (ci := 4) (v := .ref (ow 2)) (C := RX4) (T := TX4) (N := 7) hx hb hts hinW hown hK hP 0 rfl rfl 1 (by decide) (hts _ tw_31) (fun _ h9 => h9) rfl dX4_shutOut_9 ?_
    refine lv_iload_n hx hb dX4_shutOut_12 rfl (lv_at hl 1 rfl) ?_
    refine lv_iconst (v := (nI 1)) hx hb dX4_shutOut_13 (by decide) ?_
    refine xx_zast (g := (fun z9 => bI ((xu_B wb w true) z9))) hx hb hK hP hD hS 2 1 rfl rfl (show w < 12 by omega) (by decide) (by decide) (xx_updB wb w true) dX4_shutOut_14 (fun H locs hP hD hS => ?_)
    have hP : va_P D vwCl (bW k ow wc wl (xu_B wb w true) wk kk kf ku) H := hP
    have hD : va_D A (bW k ow wc wl (xu_B wb w true) wk kk kf ku) := hD
    refine xx_vret (xu_B wb w true) hx hb hr hlocks hS hK hP hD dX4_shutOut_15 ?_
    exact rfl
  · have hP : va_P D vwCl (bW k ow wc wl wb wk kk kf ku) H := hP
    have hD : va_D A (bW k ow wc wl wb wk kk kf ku) := hD
    exact absurd ⟨w, hw, rfl⟩ hq2
def p_W_add (ow : Nat → Nat) (wc : Nat) (wl : Nat → Int32) (wb : Nat → Bool) (wk : Nat → Nat) (kk : Nat → Int64) (kf : Nat → Int64) (ku : Nat → Int64) (x : Int32) : Int32 → (Nat × (Nat → Int32)) → Prop := fun r u => (r = (-1) ∧ ¬ (wc < 12 ∧ ixN 3 x) ∧ u = (wc, wl)) ∨ (r = nI wc ∧ (wc < 12 ∧ ixN 3 x) ∧ u = (wc + 1, upd wl wc x))
set_option maxHeartbeats 4000000 in
set_option maxRecDepth 100000 in
theorem c_W_add (l : Launch) (D : va_G) (k : Nat → ClassId) (ow : Nat → Nat) (wc : Nat) (wl : Nat → Int32) (wb : Nat → Bool) (wk : Nat → Nat) (kk : Nat → Int64) (kf : Nat → Int64) (ku : Nat → Int64) (x : Int32) (hwc : wc ≤ 12) : xx_Ci l yX4_add (.code yX4_add cX4_add 3 (some .int) :: xall) ({ frames := 1, cells := 0, slots := 0, locals := 20 } : Room) D vwCl (xT k) [.ref (ow 0), .int x] (bW k ow wc wl wb wk kk kf ku) (p_W_add ow wc wl wb wk kk kf ku x) (fun (u : Nat × (Nat → Int32)) => bW k ow u.1 u.2 wb wk kk kf ku) 0 0 := by
  intro sz
  refine xx_met (Qf := fun A => va_Qi (p_W_add ow wc wl wb wk kk kf ku x) (xx_B D vwCl (xT k) A (fun (u : Nat × (Nat → Int32)) => bW k ow u.1 u.2 wb wk kk kf ku)) A) (cc := cX4_add) (maxL := 3) (ret := (some .int)) (by decide) rfl (Nat.le_of_ble_eq_true rfl) ?_
  intro p e s m below meth c A ls hx hb hr hts hown hlocks hin hml hA hS hP hD hK hN hl
  have hl : lv_has ls 3 [(0, .ref (ow 0)), (1, .int x)] := hl
  have hown : s.vm.findClass RX4 = some m.cls := hown
  have hinW := inX4
  refine lv_aload_n hx hb dX4_add_0 rfl (lv_at hl 0 rfl) ?_
  refine va_get (D := D) (ci := 4) (v := .int (nI wc)) (C := RX4) (T := TX4) (N := 7) hx hb hts hinW hown hK hP 0 rfl rfl 6 (by decide) (hts _ tw_36) (fun _ h9 => h9) rfl dX4_add_1 ?_
  refine lv_bipush (v := (nI 12)) hx hb dX4_add_4 (by decide) ?_
  refine lv_icmp_ge (tgt := 16) hx hb dX4_add_6 (by decide) (fun c6 => ?_) (fun c6 => ?_)
  · have c6 : 12 ≤ wc := (nI_leI (by omega) (by omega)).mp c6
    refine lv_iconst (v := (-1)) hx hb dX4_add_16 (by decide) ?_
    refine xx_iret (wc, wl) hx hb hr hlocks hS hK hP hD dX4_add_17 ?_
    first | exact Or.inl ⟨rfl, fun h => absurd h.1 (by omega), rfl⟩ | exact Or.inl ⟨rfl, fun h => absurd h.2 hq10, rfl⟩
  · have c6 : wc < 12 := Nat.lt_of_not_le (fun h => c6 ((nI_leI (by omega) (by omega)).mpr h))
    refine lv_iload_n hx hb dX4_add_9 rfl (lv_at hl 1 rfl) ?_
    refine xx_calli (bW k ow wc wl wb wk kk kf ku) [] [0, 1, 2, 3, 4, 5, 6] (va_runSN (As := [.int x]) (rest := []) ⟨hx, hb, hml, hown, hts⟩ (c_isLevel l D k x s.heap.size) ⟨va_cnB 1 hts (xx_gc tw_172) rfl rfl rfl (hN (RX4, 36, yX5_isLevel, "TrustRows") (by decide +kernel)) (hts _ tw_1) (by decide +kernel) ⟨Nat.le_of_ble_eq_true rfl, Nat.le_of_ble_eq_true rfl⟩, hts _ tw_171, trivial⟩ (xx_preS hK hN hP hD [] (by decide) rfl) rfl rfl hl.1 rfl (lv_room (Nat.le_of_ble_eq_true rfl)) dX4_add_10 ⟨Nat.le_of_ble_eq_true rfl, Nat.le_of_ble_eq_true rfl⟩) hP hD hS hA rfl rfl (by decide) (by decide) (fun r10 u10 H locs hw10 hP hD hS => ?_)
    rcases hw10 with ⟨rfl, hq10⟩ | ⟨rfl, hq10⟩
    · have hP : va_P D vwCl (bW k ow wc wl wb wk kk kf ku) H := hP
      have hD : va_D A (bW k ow wc wl wb wk kk kf ku) := hD
      refine lv_if_ne (tgt := 18) hx hb dX4_add_13 (by decide) (fun _ => ?_) (fun c => absurd c (by decide))
      refine lv_aload_n hx hb dX4_add_18 rfl (lv_at hl 0 rfl) ?_
      refine va_get (D := D) (ci := 4) (v := .int (nI wc)) (C := RX4) (T := TX4) (N := 7) hx hb hts hinW hown hK hP 0 rfl rfl 6 (by decide) (hts _ tw_36) (fun _ h9 => h9) rfl dX4_add_19 ?_
      refine lv_istore_n (lv' := [(2, .int (nI wc)), (0, .ref (ow 0)), (1, .int x)]) hx hb dX4_add_22 rfl hl (by decide) rfl (fun ls hl => ?_)
      refine lv_aload_n hx hb dX4_add_23 rfl (lv_at hl 1 rfl) ?_
      refine va_get (D := D) (ci := 4) (v := .ref (ow 1)) (C := RX4) (T := TX4) (N := 7) hx hb hts hinW hown hK hP 0 rfl rfl 0 (by decide) (hts _ tw_30) (fun _ h9 => h9) rfl dX4_add_24 ?_
      refine lv_iload_n hx hb dX4_add_27 rfl (lv_at hl 0 rfl) ?_
      refine lv_iload_n hx hb dX4_add_28 rfl (lv_at hl 2 rfl) ?_
      refine xx_iast (g := (upd wl wc x)) hx hb hK hP hD hS 1 0 rfl rfl (show wc < 12 by omega) (by decide) rfl dX4_add_29 (fun H locs hP hD hS => ?_)
      have hP : va_P D vwCl (bW k ow wc (upd wl wc x) wb wk kk kf ku) H := hP
      have hD : va_D A (bW k ow wc (upd wl wc x) wb wk kk kf ku) := hD
      refine lv_aload_n hx hb dX4_add_30 rfl (lv_at hl 1 rfl) ?_
      refine lv_dup hx hb dX4_add_31 rfl ?_
      refine va_get (D := D) (ci := 4) (v := .int (nI wc)) (C := RX4) (T := TX4) (N := 7) hx hb hts hinW hown hK hP 0 rfl rfl 6 (by decide) (hts _ tw_36) (fun _ h9 => h9) rfl dX4_add_32 ?_
      refine lv_iconst (v := (nI 1)) hx hb dX4_add_35 (by decide) ?_
      refine lv_iadd hx hb dX4_add_36 ?_
      refine xx_topi (nI_add wc 1) ?_
      refine va_put (D := D) (ci := 4) (v := .int (nI (wc + 1))) (ty := .int) (C := RX4) (T := TX4) (N := 7) hx hb hts hinW tyX4 tyX4_ok nmX4 hown hK hP hD hS 0 rfl rfl 6 (by decide) (hts _ tw_36) (fun _ h9 => h9) rfl (by decide +kernel) rfl rfl (Nat.le_of_ble_eq_true rfl) dX4_add_37 (fun H locs hP hD hS => ?_)
      have hP : va_P D vwCl (bW k ow (wc + 1) (upd wl wc x) wb wk kk kf ku) H := hP
      have hD : va_D A (bW k ow (wc + 1) (upd wl wc x) wb wk kk kf ku) := hD
      refine lv_iload_n hx hb dX4_add_40 rfl (lv_at hl 0 rfl) ?_
      refine xx_iret (wc + 1, (upd wl wc x)) hx hb hr hlocks hS hK hP hD dX4_add_41 ?_
      exact Or.inr ⟨rfl, ⟨c6, hq10⟩, rfl⟩
    · have hP : va_P D vwCl (bW k ow wc wl wb wk kk kf ku) H := hP
      have hD : va_D A (bW k ow wc wl wb wk kk kf ku) := hD
      refine lv_if_ne (tgt := 18) hx hb dX4_add_13 (by decide) (fun c => absurd c (by decide)) (fun _ => ?_)
      refine lv_iconst (v := (-1)) hx hb dX4_add_16 (by decide) ?_
      refine xx_iret (wc, wl) hx hb hr hlocks hS hK hP hD dX4_add_17 ?_
      first | exact Or.inl ⟨rfl, fun h => absurd h.1 (by omega), rfl⟩ | exact Or.inl ⟨rfl, fun h => absurd h.2 hq10, rfl⟩
def p_W_addKey (ow : Nat → Nat) (wc : Nat) (wl : Nat → Int32) (wb : Nat → Bool) (wk : Nat → Nat) (kk : Nat → Int64) (kf : Nat → Int64) (ku : Nat → Int64) (x : Int32) (key : Int64) (f : Int64) (g : Int64) : Int32 → ((Nat → Nat) × (Nat → Int64) × (Nat → Int64) × (Nat → Int64)) → Prop := fun r u => (r = (-1) ∧ ¬ (∃ j, j < wc ∧ x = nI j ∧ (wb j = false ∧ wk j < 4 ∧ ¬ (f < 0) ∧ f < g)) ∧ u = (wk, kk, kf, ku)) ∨ (∃ j, j < wc ∧ x = nI j ∧ (wb j = false ∧ wk j < 4 ∧ ¬ (f < 0) ∧ f < g) ∧ r = nI (wk j) ∧ u = (xu_N wk j (wk j + 1), vp_updL kk (j * 4 + wk j) key, vp_updL kf (j * 4 + wk j) f, vp_updL ku (j * 4 + wk j) g))
set_option maxHeartbeats 4000000 in
set_option maxRecDepth 100000 in
theorem c_W_addKey (l : Launch) (D : va_G) (k : Nat → ClassId) (ow : Nat → Nat) (wc : Nat) (wl : Nat → Int32) (wb : Nat → Bool) (wk : Nat → Nat) (kk : Nat → Int64) (kf : Nat → Int64) (ku : Nat → Int64) (x : Int32) (key : Int64) (f : Int64) (g : Int64) (hwc : wc ≤ 12) (hwk : ∀ i, wk i ≤ 4) : xx_Ci l yX4_addKey (.code yX4_addKey cX4_addKey 10 (some .int) :: xall) ({ frames := 2, cells := 0, slots := 0, locals := 42 } : Room) D vwCl (xT k) [.ref (ow 0), .int x, .long key, .long f, .long g] (bW k ow wc wl wb wk kk kf ku) (p_W_addKey ow wc wl wb wk kk kf ku x key f g) (fun (u : (Nat → Nat) × (Nat → Int64) × (Nat → Int64) × (Nat → Int64)) => bW k ow wc wl wb u.1 u.2.1 u.2.2.1 u.2.2.2) 0 0 := by
  intro sz
  refine xx_met (Qf := fun A => va_Qi (p_W_addKey ow wc wl wb wk kk kf ku x key f g) (xx_B D vwCl (xT k) A (fun (u : (Nat → Nat) × (Nat → Int64) × (Nat → Int64) × (Nat → Int64)) => bW k ow wc wl wb u.1 u.2.1 u.2.2.1 u.2.2.2)) A) (cc := cX4_addKey) (maxL := 10) (ret := (some .int)) (by decide) rfl (Nat.le_of_ble_eq_true rfl) ?_
  intro p e s m below meth c A ls hx hb hr hts hown hlocks hin hml hA hS hP hD hK hN hl
  have hl : lv_has ls 10 [(0, .ref (ow 0)), (1, .int x), (2, .long key), (4, .long f), (6, .long g)] := hl
  have hown : s.vm.findClass RX4 = some m.cls := hown
  have hinW := inX4
  refine lv_aload_n hx hb dX4_addKey_0 rfl (lv_at hl 0 rfl) ?_
  refine lv_iload_n hx hb dX4_addKey_1 rfl (lv_at hl 1 rfl) ?_
  refine xx_calli ([]) [0, 1, 2, 3, 4, 5, 6] [] (va_runV (As := [.int x]) (rest := []) ⟨hx, hb, hml, hown, hts⟩ (c_W_may l D k ow wc wl wb wk kk kf ku x (by omega) s.heap.size) (cwV 1 hts (xx_gV tw_181 tw_182 tw_183 tw_3 tw_184) rfl rfl rfl (by decide +kernel) ⟨Nat.le_of_ble_eq_true rfl, Nat.le_of_ble_eq_true rfl⟩) (xx_preV hK hN hP hD [0, 1, 2, 3, 4, 5, 6] (by decide) rfl 4 0 rfl rfl) rfl rfl hl.1 rfl (lv_room (Nat.le_of_ble_eq_true rfl)) dX4_addKey_2 ⟨Nat.le_of_ble_eq_true rfl, Nat.le_of_ble_eq_true rfl⟩) hP hD hS hA rfl rfl (by decide) (by decide) (fun r2 u2 H locs hw2 hP hD hS => ?_)
  rcases hw2 with ⟨rfl, j2, hj2, hx2, hb2⟩ | ⟨rfl, hq2⟩
  · subst hx2
    have hP : va_P D vwCl (bW k ow wc wl wb wk kk kf ku) H := hP
    have hD : va_D A (bW k ow wc wl wb wk kk kf ku) := hD
    refine lv_if_eq (tgt := 18) hx hb dX4_addKey_5 (by decide) (fun c => absurd c (by decide)) (fun _ => ?_)
    refine lv_aload_n hx hb dX4_addKey_8 rfl (lv_at hl 0 rfl) ?_
    refine va_get (D := D) (ci := 4) (v := .ref (ow 3)) (C := RX4) (T := TX4) (N := 7) hx hb hts hinW hown hK hP 0 rfl rfl 2 (by decide) (hts _ tw_32) (fun _ h9 => h9) rfl dX4_addKey_9 ?_
    refine lv_iload_n hx hb dX4_addKey_12 rfl (lv_at hl 1 rfl) ?_
    refine xx_iald hx hb hK hP 3 0 rfl rfl (show j2 < 12 by omega) (by decide) dX4_addKey_13 ?_
    refine lv_iconst (v := (nI 4)) hx hb dX4_addKey_14 (by decide) ?_
    have hk := hwk j2
    refine lv_icmp_lt (tgt := 20) hx hb dX4_addKey_15 (by decide) (fun c15 => ?_) (fun c15 => ?_)
    · have c15 : wk j2 < 4 := (nI_ltI (by omega) (by omega)).mp c15
      refine lv_lload hx hb dX4_addKey_20 (lv_at hl 3 rfl) ?_
      refine lv_lconst (v := 0) hx hb dX4_addKey_22 (by decide) ?_
      refine W.lcmp hx hb dX4_addKey_23 ?_
      refine lv_if_lt (tgt := 35) hx hb dX4_addKey_24 (by decide) (fun c24 => ?_) (fun c24 => ?_)
      · have c24 : f < 0 := (lg_cmp_lt f 0).mp c24
        refine lv_iconst (v := (-1)) hx hb dX4_addKey_35 (by decide) ?_
        refine xx_iret (wk, kk, kf, ku) hx hb hr hlocks hS hK hP hD dX4_addKey_36 ?_
        first | exact Or.inl ⟨rfl, xx_one (P := fun j => wb j = false ∧ wk j < 4 ∧ ¬ (f < 0) ∧ f < g) (by omega) hj2 (fun h => absurd c24 h.2.2.1), rfl⟩ | exact Or.inl ⟨rfl, xx_one (P := fun j => wb j = false ∧ wk j < 4 ∧ ¬ (f < 0) ∧ f < g) (by omega) hj2 (fun h => absurd h.2.2.2 c32), rfl⟩
      · have c24 : ¬ (f < 0) := fun h => c24 ((lg_cmp_lt f 0).mpr h)
        refine lv_lload hx hb dX4_addKey_27 (lv_at hl 4 rfl) ?_
        refine lv_lload hx hb dX4_addKey_29 (lv_at hl 3 rfl) ?_
        refine W.lcmp hx hb dX4_addKey_31 ?_
        refine lv_if_gt (tgt := 37) hx hb dX4_addKey_32 (by decide) (fun c32 => ?_) (fun c32 => ?_)
        · have c32 : f < g := (lg_cmp_gt g f).mp c32
          refine lv_aload_n hx hb dX4_addKey_37 rfl (lv_at hl 0 rfl) ?_
          refine va_get (D := D) (ci := 4) (v := .ref (ow 3)) (C := RX4) (T := TX4) (N := 7) hx hb hts hinW hown hK hP 0 rfl rfl 2 (by decide) (hts _ tw_32) (fun _ h9 => h9) rfl dX4_addKey_38 ?_
          refine lv_iload_n hx hb dX4_addKey_41 rfl (lv_at hl 1 rfl) ?_
          refine xx_iald hx hb hK hP 3 0 rfl rfl (show j2 < 12 by omega) (by decide) dX4_addKey_42 ?_
          refine lv_istore (lv' := [(8, .int (nI (wk j2))), (0, .ref (ow 0)), (1, .int (nI j2)), (2, .long key), (4, .long f), (6, .long g)]) hx hb dX4_addKey_43 hl (by decide) rfl (fun ls hl => ?_)
          refine lv_iload_n hx hb dX4_addKey_45 rfl (lv_at hl 2 rfl) ?_
          refine lv_iconst (v := (nI 4)) hx hb dX4_addKey_46 (by decide) ?_
          refine lv_imul hx hb dX4_addKey_47 ?_
          refine xx_topi (pk_mul j2 4) ?_
          refine lv_iload hx hb dX4_addKey_48 (lv_at hl 0 rfl) ?_
          refine lv_iadd hx hb dX4_addKey_50 ?_
          refine xx_topi (nI_add (j2 * 4) (wk j2)) ?_
          refine lv_istore (lv' := [(9, .int (nI ((j2 * 4) + (wk j2)))), (8, .int (nI (wk j2))), (0, .ref (ow 0)), (1, .int (nI j2)), (2, .long key), (4, .long f), (6, .long g)]) hx hb dX4_addKey_51 hl (by decide) rfl (fun ls hl => ?_)
          refine lv_aload_n hx hb dX4_addKey_53 rfl (lv_at hl 2 rfl) ?_
          refine va_get (D := D) (ci := 4) (v := .ref (ow 4)) (C := RX4) (T := TX4) (N := 7) hx hb hts hinW hown hK hP 0 rfl rfl 3 (by decide) (hts _ tw_33) (fun _ h9 => h9) rfl dX4_addKey_54 ?_
          refine lv_iload hx hb dX4_addKey_57 (lv_at hl 0 rfl) ?_
          refine lv_lload_n hx hb dX4_addKey_59 rfl (lv_at hl 4 rfl) ?_
          refine xx_last (g := (vp_updL kk ((j2 * 4) + (wk j2)) key)) hx hb hK hP hD hS 4 2 rfl rfl (show (j2 * 4) + (wk j2) < 48 by omega) (by decide) rfl dX4_addKey_60 (fun H locs hP hD hS => ?_)
          have hP : va_P D vwCl (bW k ow wc wl wb wk (vp_updL kk ((j2 * 4) + (wk j2)) key) kf ku) H := hP
          have hD : va_D A (bW k ow wc wl wb wk (vp_updL kk ((j2 * 4) + (wk j2)) key) kf ku) := hD
          refine lv_aload_n hx hb dX4_addKey_61 rfl (lv_at hl 2 rfl) ?_
          refine va_get (D := D) (ci := 4) (v := .ref (ow 5)) (C := RX4) (T := TX4) (N := 7) hx hb hts hinW hown hK hP 0 rfl rfl 4 (by decide) (hts _ tw_34) (fun _ h9 => h9) rfl dX4_addKey_62 ?_
          refine lv_iload hx hb dX4_addKey_65 (lv_at hl 0 rfl) ?_
          refine lv_lload hx hb dX4_addKey_67 (lv_at hl 5 rfl) ?_
          refine xx_last (g := (vp_updL kf ((j2 * 4) + (wk j2)) f)) hx hb hK hP hD hS 5 2 rfl rfl (show (j2 * 4) + (wk j2) < 48 by omega) (by decide) rfl dX4_addKey_69 (fun H locs hP hD hS => ?_)
          have hP : va_P D vwCl (bW k ow wc wl wb wk (vp_updL kk ((j2 * 4) + (wk j2)) key) (vp_updL kf ((j2 * 4) + (wk j2)) f) ku) H := hP
          have hD : va_D A (bW k ow wc wl wb wk (vp_updL kk ((j2 * 4) + (wk j2)) key) (vp_updL kf ((j2 * 4) + (wk j2)) f) ku) := hD
          refine lv_aload_n hx hb dX4_addKey_70 rfl (lv_at hl 2 rfl) ?_
          refine va_get (D := D) (ci := 4) (v := .ref (ow 6)) (C := RX4) (T := TX4) (N := 7) hx hb hts hinW hown hK hP 0 rfl rfl 5 (by decide) (hts _ tw_35) (fun _ h9 => h9) rfl dX4_addKey_71 ?_
          refine lv_iload hx hb dX4_addKey_74 (lv_at hl 0 rfl) ?_
          refine lv_lload hx hb dX4_addKey_76 (lv_at hl 6 rfl) ?_
          refine xx_last (g := (vp_updL ku ((j2 * 4) + (wk j2)) g)) hx hb hK hP hD hS 6 2 rfl rfl (show (j2 * 4) + (wk j2) < 48 by omega) (by decide) rfl dX4_addKey_78 (fun H locs hP hD hS => ?_)
          have hP : va_P D vwCl (bW k ow wc wl wb wk (vp_updL kk ((j2 * 4) + (wk j2)) key) (vp_updL kf ((j2 * 4) + (wk j2)) f) (vp_updL ku ((j2 * 4) + (wk j2)) g)) H := hP
          have hD : va_D A (bW k ow wc wl wb wk (vp_updL kk ((j2 * 4) + (wk j2)) key) (vp_updL kf ((j2 * 4) + (wk j2)) f) (vp_updL ku ((j2 * 4) + (wk j2)) g)) := hD
          refine lv_aload_n hx hb dX4_addKey_79 rfl (lv_at hl 2 rfl) ?_
          refine va_get (D := D) (ci := 4) (v := .ref (ow 3)) (C := RX4) (T := TX4) (N := 7) hx hb hts hinW hown hK hP 0 rfl rfl 2 (by decide) (hts _ tw_32) (fun _ h9 => h9) rfl dX4_addKey_80 ?_
          refine lv_iload_n hx hb dX4_addKey_83 rfl (lv_at hl 3 rfl) ?_
          refine lv_dup2_11 hx hb dX4_addKey_84 rfl rfl ?_
          refine xx_iald hx hb hK hP 3 0 rfl rfl (show j2 < 12 by omega) (by decide) dX4_addKey_85 ?_
          refine lv_iconst (v := (nI 1)) hx hb dX4_addKey_86 (by decide) ?_
          refine lv_iadd hx hb dX4_addKey_87 ?_
          refine xx_topi (nI_add (wk j2) 1) ?_
          refine xx_iast (g := (fun z9 => nI ((xu_N wk j2 ((wk j2) + 1)) z9))) hx hb hK hP hD hS 3 0 rfl rfl (show j2 < 12 by omega) (by decide) (xx_updN wk j2 ((wk j2) + 1)) dX4_addKey_88 (fun H locs hP hD hS => ?_)
          have hP : va_P D vwCl (bW k ow wc wl wb (xu_N wk j2 ((wk j2) + 1)) (vp_updL kk ((j2 * 4) + (wk j2)) key) (vp_updL kf ((j2 * 4) + (wk j2)) f) (vp_updL ku ((j2 * 4) + (wk j2)) g)) H := hP
          have hD : va_D A (bW k ow wc wl wb (xu_N wk j2 ((wk j2) + 1)) (vp_updL kk ((j2 * 4) + (wk j2)) key) (vp_updL kf ((j2 * 4) + (wk j2)) f) (vp_updL ku ((j2 * 4) + (wk j2)) g)) := hD
          refine lv_iload hx hb dX4_addKey_89 (lv_at hl 1 rfl) ?_
          refine xx_iret ((xu_N wk j2 ((wk j2) + 1)), (vp_updL kk ((j2 * 4) + (wk j2)) key), (vp_updL kf ((j2 * 4) + (wk j2)) f), (vp_updL ku ((j2 * 4) + (wk j2)) g)) hx hb hr hlocks hS hK hP hD dX4_addKey_91 ?_
          exact Or.inr ⟨j2, hj2, rfl, ⟨hb2, c15, c24, c32⟩, rfl, rfl⟩
        · have c32 : ¬ (f < g) := fun h => c32 ((lg_cmp_gt g f).mpr h)
          refine lv_iconst (v := (-1)) hx hb dX4_addKey_35 (by decide) ?_
          refine xx_iret (wk, kk, kf, ku) hx hb hr hlocks hS hK hP hD dX4_addKey_36 ?_
          first | exact Or.inl ⟨rfl, xx_one (P := fun j => wb j = false ∧ wk j < 4 ∧ ¬ (f < 0) ∧ f < g) (by omega) hj2 (fun h => absurd c24 h.2.2.1), rfl⟩ | exact Or.inl ⟨rfl, xx_one (P := fun j => wb j = false ∧ wk j < 4 ∧ ¬ (f < 0) ∧ f < g) (by omega) hj2 (fun h => absurd h.2.2.2 c32), rfl⟩
    · have c15 : 4 ≤ wk j2 := Nat.le_of_not_lt (fun h => c15 ((nI_ltI (by omega) (by omega)).mpr h))
      refine lv_iconst (v := (-1)) hx hb dX4_addKey_18 (by decide) ?_
      refine xx_iret (wk, kk, kf, ku) hx hb hr hlocks hS hK hP hD dX4_addKey_19 ?_
      first | exact Or.inl ⟨rfl, xx_none4 hq2, rfl⟩ | exact Or.inl ⟨rfl, xx_one (P := fun j => wb j = false ∧ wk j < 4 ∧ ¬ (f < 0) ∧ f < g) (by omega) hj2 (fun h => absurd h.2.1 (by omega)), rfl⟩
  · have hP : va_P D vwCl (bW k ow wc wl wb wk kk kf ku) H := hP
    have hD : va_D A (bW k ow wc wl wb wk kk kf ku) := hD
    refine lv_if_eq (tgt := 18) hx hb dX4_addKey_5 (by decide) (fun _ => ?_) (fun c => absurd c (by decide))
    refine lv_iconst (v := (-1)) hx hb dX4_addKey_18 (by decide) ?_
    refine xx_iret (wk, kk, kf, ku) hx hb hr hlocks hS hK hP hD dX4_addKey_19 ?_
    first | exact Or.inl ⟨rfl, xx_none4 hq2, rfl⟩ | exact Or.inl ⟨rfl, xx_one (P := fun j => wb j = false ∧ wk j < 4 ∧ ¬ (f < 0) ∧ f < g) (by omega) hj2 (fun h => absurd h.2.1 (by omega)), rfl⟩
def p_W_fits (ow : Nat → Nat) (wc : Nat) (wl : Nat → Int32) (wb : Nat → Bool) (wk : Nat → Nat) (kk : Nat → Int64) (kf : Nat → Int64) (ku : Nat → Int64) (w : Nat) (a : Int64) (d : Int64) (told : Int64) (tm : Int64) : Int32 → Unit → Prop := fun r u => xb r (∃ t, w * 4 ≤ t ∧ t < w * 4 + wk w ∧ (¬ (tm < kf t) ∧ ¬ (ku t ≤ tm) ∧ xs_sum (kk t) a d = told))
set_option maxHeartbeats 4000000 in
set_option maxRecDepth 100000 in
theorem c_W_fits (l : Launch) (D : va_G) (k : Nat → ClassId) (ow : Nat → Nat) (wc : Nat) (wl : Nat → Int32) (wb : Nat → Bool) (wk : Nat → Nat) (kk : Nat → Int64) (kf : Nat → Int64) (ku : Nat → Int64) (w : Nat) (a : Int64) (d : Int64) (told : Int64) (tm : Int64) (hwc : wc ≤ 12) (hw : w < wc) (hwk : ∀ i, wk i ≤ 4) : xx_Ci l yX4_fits (.code yX4_fits cX4_fits 14 (some .boolean) :: xall) ({ frames := 2, cells := 0, slots := 0, locals := 51 } : Room) D vwCl (xT k) [.ref (ow 0), .int (nI w), .long a, .long d, .long told, .long tm] (bW k ow wc wl wb wk kk kf ku) (p_W_fits ow wc wl wb wk kk kf ku w a d told tm) (fun (u : Unit) => bW k ow wc wl wb wk kk kf ku) 0 0 := by
  intro sz
  refine xx_met (Qf := fun A => va_Qi (p_W_fits ow wc wl wb wk kk kf ku w a d told tm) (xx_B D vwCl (xT k) A (fun (u : Unit) => bW k ow wc wl wb wk kk kf ku)) A) (cc := cX4_fits) (maxL := 14) (ret := (some .boolean)) (by decide) rfl (Nat.le_of_ble_eq_true rfl) ?_
  intro p e s m below meth c A ls hx hb hr hts hown hlocks hin hml hA hS hP hD hK hN hl
  have hl : lv_has ls 14 [(0, .ref (ow 0)), (1, .int (nI w)), (2, .long a), (4, .long d), (6, .long told), (8, .long tm)] := hl
  have hown : s.vm.findClass RX4 = some m.cls := hown
  have hinW := inX4
  have hk := hwk w
  refine lv_aload_n hx hb dX4_fits_0 rfl (lv_at hl 0 rfl) ?_
  refine lv_iload_n hx hb dX4_fits_1 rfl (lv_at hl 1 rfl) ?_
  refine xx_calli ([]) [0, 1, 2, 3, 4, 5, 6] [] (va_runV (As := [.int (nI w)]) (rest := []) ⟨hx, hb, hml, hown, hts⟩ (c_W_has l D k ow wc wl wb wk kk kf ku (nI w) (by omega) s.heap.size) (cwV 1 hts (xx_gV tw_185 tw_186 tw_187 tw_3 tw_188) rfl rfl rfl (by decide +kernel) ⟨Nat.le_of_ble_eq_true rfl, Nat.le_of_ble_eq_true rfl⟩) (xx_preV hK hN hP hD [0, 1, 2, 3, 4, 5, 6] (by decide) rfl 4 0 rfl rfl) rfl rfl hl.1 rfl (lv_room (Nat.le_of_ble_eq_true rfl)) dX4_fits_2 ⟨Nat.le_of_ble_eq_true rfl, Nat.le_of_ble_eq_true rfl⟩) hP hD hS hA rfl rfl (by decide) (by decide) (fun r2 u2 H locs hw2 hP hD hS => ?_)
  rcases hw2 with ⟨rfl, j2, hj2, hx2⟩ | ⟨rfl, hq2⟩
  · have hx2 : w = j2 := (nI_eq (by omega) (by omega)).mp hx2
    subst hx2
    have hP : va_P D vwCl (bW k ow wc wl wb wk kk kf ku) H := hP
    have hD : va_D A (bW k ow wc wl wb wk kk kf ku) := hD
    refine lv_if_ne (tgt := 10) hx hb dX4_fits_5 (by decide) (fun _ => ?_) (fun c => absurd c (by decide))
    refine lv_iload_n hx hb dX4_fits_10 rfl (lv_at hl 1 rfl) ?_
    refine lv_iconst (v := (nI 4)) hx hb dX4_fits_11 (by decide) ?_
    refine lv_imul hx hb dX4_fits_12 ?_
    refine xx_topi (pk_mul w 4) ?_
    refine lv_istore (lv' := [(10, .int (nI (w * 4))), (0, .ref (ow 0)), (1, .int (nI w)), (2, .long a), (4, .long d), (6, .long told), (8, .long tm)]) hx hb dX4_fits_13 hl (by decide) rfl (fun ls hl => ?_)
    refine lv_iload hx hb dX4_fits_15 (lv_at hl 0 rfl) ?_
    refine lv_aload_n hx hb dX4_fits_17 rfl (lv_at hl 1 rfl) ?_
    refine va_get (D := D) (ci := 4) (v := .ref (ow 3)) (C := RX4) (T := TX4) (N := 7) hx hb hts hinW hown hK hP 0 rfl rfl 2 (by decide) (hts _ tw_32) (fun _ h9 => h9) rfl dX4_fits_18 ?_
    refine lv_iload_n hx hb dX4_fits_21 rfl (lv_at hl 2 rfl) ?_
    refine xx_iald hx hb hK hP 3 0 rfl rfl (show w < 12 by omega) (by decide) dX4_fits_22 ?_
    refine lv_iadd hx hb dX4_fits_23 ?_
    refine xx_topi (nI_add (w * 4) (wk w)) ?_
    refine lv_istore (lv' := [(11, .int (nI ((w * 4) + (wk w)))), (10, .int (nI (w * 4))), (0, .ref (ow 0)), (1, .int (nI w)), (2, .long a), (4, .long d), (6, .long told), (8, .long tm)]) hx hb dX4_fits_24 hl (by decide) rfl (fun ls hl => ?_)
    refine lv_iload hx hb dX4_fits_26 (lv_at hl 1 rfl) ?_
    refine lv_istore (lv' := [(12, .int (nI (w * 4))), (11, .int (nI ((w * 4) + (wk w)))), (10, .int (nI (w * 4))), (0, .ref (ow 0)), (1, .int (nI w)), (2, .long a), (4, .long d), (6, .long told), (8, .long tm)]) hx hb dX4_fits_28 hl (by decide) rfl (fun ls hl => ?_)
    have loop30 : ∀ (dd : Nat) (t : Nat), (w * 4 + wk w) + 1 ≤ t + dd → (w * 4 ≤ t) → (t ≤ w * 4 + wk w) → (∀ j, w * 4 ≤ j → j < t → ¬ (¬ (tm < kf j) ∧ ¬ (ku j ≤ tm) ∧ xs_sum (kk j) a d = told)) → ∀ (H : Heap) (locs : List Loc) (ls : Array Slot), va_P D vwCl (bW k ow wc wl wb wk kk kf ku) H → va_D A (bW k ow wc wl wb wk kk kf ku) → va_S A s.heap H locs → lv_has ls 14 [(0, .ref (ow 0)), (1, .int (nI w)), (2, .long a), (4, .long d), (6, .long told), (8, .long tm), (11, .int (nI ((w * 4) + (wk w)))), (12, .int (nI t))] → W p l e ({ frames := 2, cells := 0, slots := 0, locals := 51 } : Room) s m [.ref (ow 0), .int (nI w), .long a, .long d, .long told, .long tm].toArray below meth c H locs 0 0 (MQ below (va_Qi (p_W_fits ow wc wl wb wk kk kf ku w a d told tm) (xx_B D vwCl (xT k) A (fun (u : Unit) => bW k ow wc wl wb wk kk kf ku)) A) [.ref (ow 0), .int (nI w), .long a, .long d, .long told, .long tm].toArray s 0 0 A) (F0 m 30 ls []) := by
      intro dd
      induction dd with
      | zero =>
        intro t hm h1 h2 h3
        exact absurd hm (by omega)
      | succ dd ih30 =>
        intro t hm h1 h2 h3 H locs ls hP hD hS hl
        refine lv_iload hx hb dX4_fits_30 (lv_at hl 7 rfl) ?_
        refine lv_iload hx hb dX4_fits_32 (lv_at hl 6 rfl) ?_
        refine lv_icmp_ge (tgt := 102) hx hb dX4_fits_34 (by decide) (fun c34 => ?_) (fun c34 => ?_)
        · have c34 : (w * 4) + (wk w) ≤ t := (nI_leI (by omega) (by omega)).mp c34
          refine lv_iconst (v := (nI 0)) hx hb dX4_fits_102 (by decide) ?_
          refine xx_zret () hx hb hr hlocks rfl hS hK hP hD dX4_fits_103 ?_
          exact xb_f (fun ⟨j, z1, z2, z3⟩ => h3 j z1 (by omega) z3)
        · have c34 : t < (w * 4) + (wk w) := Nat.lt_of_not_le (fun h => c34 ((nI_leI (by omega) (by omega)).mpr h))
          refine lv_aload_n hx hb dX4_fits_37 rfl (lv_at hl 0 rfl) ?_
          refine va_get (D := D) (ci := 4) (v := .ref (ow 5)) (C := RX4) (T := TX4) (N := 7) hx hb hts hinW hown hK hP 0 rfl rfl 4 (by decide) (hts _ tw_34) (fun _ h9 => h9) rfl dX4_fits_38 ?_
          refine lv_iload hx hb dX4_fits_41 (lv_at hl 7 rfl) ?_
          refine xx_lald hx hb hK hP 5 2 rfl rfl (show t < 48 by omega) (by decide) dX4_fits_43 ?_
          refine lv_lload hx hb dX4_fits_44 (lv_at hl 5 rfl) ?_
          refine W.lcmp hx hb dX4_fits_46 ?_
          refine lv_if_gt (tgt := 67) hx hb dX4_fits_47 (by decide) (fun c47 => ?_) (fun c47 => ?_)
          · have c47 : tm < (kf t) := (lg_cmp_gt (kf t) tm).mp c47
            refine lv_iconst (v := (nI 0)) hx hb dX4_fits_67 (by decide) ?_
            refine lv_istore (lv' := [(13, .int (nI 0)), (0, .ref (ow 0)), (1, .int (nI w)), (2, .long a), (4, .long d), (6, .long told), (8, .long tm), (11, .int (nI ((w * 4) + (wk w)))), (12, .int (nI t))]) hx hb dX4_fits_68 hl (by decide) rfl (fun ls hl => ?_)
            refine lv_iload hx hb dX4_fits_70 (lv_at hl 0 rfl) ?_
            refine lv_if_eq (tgt := 96) hx hb dX4_fits_72 (by decide) (fun _ => ?_) (fun c => absurd c (by decide))
            refine lv_iinc (v := (nI (t + 1))) (lv' := [(12, .int (nI (t + 1))), (13, .int (nI 0)), (0, .ref (ow 0)), (1, .int (nI w)), (2, .long a), (4, .long d), (6, .long told), (8, .long tm), (11, .int (nI ((w * 4) + (wk w))))]) hx hb dX4_fits_96 hl (k := 8) rfl (nI_1 t) (by decide) rfl (fun ls hl => ?_)
            refine lv_goto (tgt := 30) hx hb dX4_fits_99 (by decide) ?_
            exact ih30 (t + 1) (by omega) (by omega) (by omega) (by intro j z1 z2 z3; rcases Nat.lt_or_ge j t with z | z; exact h3 j z1 z z3; obtain rfl : j = t := (by omega); first | exact z3.1 c47 | exact z3.2.1 c60 | exact c91 z3.2.2) H locs ls hP hD hS (lv_sub hl [2, 3, 4, 5, 6, 7, 8, 0] rfl)
          · have c47 : ¬ (tm < (kf t)) := fun h => c47 ((lg_cmp_gt (kf t) tm).mpr h)
            refine lv_lload hx hb dX4_fits_50 (lv_at hl 5 rfl) ?_
            refine lv_aload_n hx hb dX4_fits_52 rfl (lv_at hl 0 rfl) ?_
            refine va_get (D := D) (ci := 4) (v := .ref (ow 6)) (C := RX4) (T := TX4) (N := 7) hx hb hts hinW hown hK hP 0 rfl rfl 5 (by decide) (hts _ tw_35) (fun _ h9 => h9) rfl dX4_fits_53 ?_
            refine lv_iload hx hb dX4_fits_56 (lv_at hl 7 rfl) ?_
            refine xx_lald hx hb hK hP 6 2 rfl rfl (show t < 48 by omega) (by decide) dX4_fits_58 ?_
            refine W.lcmp hx hb dX4_fits_59 ?_
            refine lv_if_ge (tgt := 67) hx hb dX4_fits_60 (by decide) (fun c60 => ?_) (fun c60 => ?_)
            · have c60 : (ku t) ≤ tm := (lg_cmp_ge tm (ku t)).mp c60
              refine lv_iconst (v := (nI 0)) hx hb dX4_fits_67 (by decide) ?_
              refine lv_istore (lv' := [(13, .int (nI 0)), (0, .ref (ow 0)), (1, .int (nI w)), (2, .long a), (4, .long d), (6, .long told), (8, .long tm), (11, .int (nI ((w * 4) + (wk w)))), (12, .int (nI t))]) hx hb dX4_fits_68 hl (by decide) rfl (fun ls hl => ?_)
              refine lv_iload hx hb dX4_fits_70 (lv_at hl 0 rfl) ?_
              refine lv_if_eq (tgt := 96) hx hb dX4_fits_72 (by decide) (fun _ => ?_) (fun c => absurd c (by decide))
              refine lv_iinc (v := (nI (t + 1))) (lv' := [(12, .int (nI (t + 1))), (13, .int (nI 0)), (0, .ref (ow 0)), (1, .int (nI w)), (2, .long a), (4, .long d), (6, .long told), (8, .long tm), (11, .int (nI ((w * 4) + (wk w))))]) hx hb dX4_fits_96 hl (k := 8) rfl (nI_1 t) (by decide) rfl (fun ls hl => ?_)
              refine lv_goto (tgt := 30) hx hb dX4_fits_99 (by decide) ?_
              exact ih30 (t + 1) (by omega) (by omega) (by omega) (by intro j z1 z2 z3; rcases Nat.lt_or_ge j t with z | z; exact h3 j z1 z z3; obtain rfl : j = t := (by omega); first | exact z3.1 c47 | exact z3.2.1 c60 | exact c91 z3.2.2) H locs ls hP hD hS (lv_sub hl [2, 3, 4, 5, 6, 7, 8, 0] rfl)
            · have c60 : ¬ ((ku t) ≤ tm) := fun h => c60 ((lg_cmp_ge tm (ku t)).mpr h)
              refine lv_iconst (v := (nI 1)) hx hb dX4_fits_63 (by decide) ?_
              refine lv_goto (tgt := 68) hx hb dX4_fits_64 (by decide) ?_
              refine lv_istore (lv' := [(13, .int (nI 1)), (0, .ref (ow 0)), (1, .int (nI w)), (2, .long a), (4, .long d), (6, .long told), (8, .long tm), (11, .int (nI ((w * 4) + (wk w)))), (12, .int (nI t))]) hx hb dX4_fits_68 hl (by decide) rfl (fun ls hl => ?_)
              refine lv_iload hx hb dX4_fits_70 (lv_at hl 0 rfl) ?_
              refine lv_if_eq (tgt := 96) hx hb dX4_fits_72 (by decide) (fun c => absurd c (by decide)) (fun _ => ?_)
              refine lv_aload_n hx hb dX4_fits_75 rfl (lv_at hl 1 rfl) ?_
              refine va_get (D := D) (ci := 4) (v := .ref (ow 4)) (C := RX4) (T := TX4) (N := 7) hx hb hts hinW hown hK hP 0 rfl rfl 3 (by decide) (hts _ tw_33) (fun _ h9 => h9) rfl dX4_fits_76 ?_
              refine lv_iload hx hb dX4_fits_79 (lv_at hl 8 rfl) ?_
              refine xx_lald hx hb hK hP 4 2 rfl rfl (show t < 48 by omega) (by decide) dX4_fits_81 ?_
              refine lv_lload_n hx hb dX4_fits_82 rfl (lv_at hl 3 rfl) ?_
              refine lv_lload hx hb dX4_fits_83 (lv_at hl 4 rfl) ?_
              refine xx_calll (bW k ow wc wl wb wk kk kf ku) [] [0, 1, 2, 3, 4, 5, 6] (va_runSN (As := [.long (kk t), .long a, .long d]) (rest := []) ⟨hx, hb, hml, hown, hts⟩ (c_sumUnder l D k (kk t) a d H.size) ⟨va_cnB 3 hts (xx_gc tw_195) rfl rfl rfl (hN (RX4, 46, yX5_sumUnder, "TrustRows") (by decide +kernel)) (hts _ tw_1) (by decide +kernel) ⟨Nat.le_of_ble_eq_true rfl, Nat.le_of_ble_eq_true rfl⟩, hts _ tw_194, trivial⟩ (xx_preS hK hN hP hD [] (by decide) rfl) rfl rfl hl.1 rfl (lv_room (Nat.le_of_ble_eq_true rfl)) dX4_fits_85 ⟨Nat.le_of_ble_eq_true rfl, Nat.le_of_ble_eq_true rfl⟩) hP hD hS hA rfl rfl (by decide) (by decide) (fun r85 u85 H locs hw85 hP hD hS => ?_)
              obtain rfl := hw85
              have hP : va_P D vwCl (bW k ow wc wl wb wk kk kf ku) H := hP
              have hD : va_D A (bW k ow wc wl wb wk kk kf ku) := hD
              refine lv_lload hx hb dX4_fits_88 (lv_at hl 5 rfl) ?_
              refine W.lcmp hx hb dX4_fits_90 ?_
              refine lv_if_ne (tgt := 96) hx hb dX4_fits_91 (by decide) (fun c91 => ?_) (fun c91 => ?_)
              · have c91 : ¬ ((xs_sum (kk t) a d) = told) := fun h => c91 ((lg_cmp_eq (xs_sum (kk t) a d) told).mpr h)
                refine lv_iinc (v := (nI (t + 1))) (lv' := [(12, .int (nI (t + 1))), (13, .int (nI 1)), (0, .ref (ow 0)), (1, .int (nI w)), (2, .long a), (4, .long d), (6, .long told), (8, .long tm), (11, .int (nI ((w * 4) + (wk w))))]) hx hb dX4_fits_96 hl (k := 8) rfl (nI_1 t) (by decide) rfl (fun ls hl => ?_)
                refine lv_goto (tgt := 30) hx hb dX4_fits_99 (by decide) ?_
                exact ih30 (t + 1) (by omega) (by omega) (by omega) (by intro j z1 z2 z3; rcases Nat.lt_or_ge j t with z | z; exact h3 j z1 z z3; obtain rfl : j = t := (by omega); first | exact z3.1 c47 | exact z3.2.1 c60 | exact c91 z3.2.2) H locs ls hP hD hS (lv_sub hl [2, 3, 4, 5, 6, 7, 8, 0] rfl)
              · have c91 : (xs_sum (kk t) a d) = told := (lg_cmp_eq (xs_sum (kk t) a d) told).mp c91
                refine lv_iconst (v := (nI 1)) hx hb dX4_fits_94 (by decide) ?_
                refine xx_zret () hx hb hr hlocks rfl hS hK hP hD dX4_fits_95 ?_
                exact xb_t ⟨t, h1, c34, c47, c60, c91⟩
    exact loop30 ((w * 4 + wk w) + 1) (w * 4) (by omega) (by omega) (by omega) (by intro j z1 z2; exact absurd z2 (by omega)) H locs ls hP hD hS (lv_sub hl [3, 4, 5, 6, 7, 8, 1, 0] rfl)
  · have hP : va_P D vwCl (bW k ow wc wl wb wk kk kf ku) H := hP
    have hD : va_D A (bW k ow wc wl wb wk kk kf ku) := hD
    exact absurd ⟨w, hw, rfl⟩ hq2
end
section
theorem dX2_isStanding_0 : decode cX2_isStanding 0 = .ok (.iload_n 1, 1) := by decide +kernel
theorem dX2_isStanding_1 : decode cX2_isStanding 1 = .ok (.ifCond .lt 24, 3) := by decide +kernel
theorem dX2_isStanding_4 : decode cX2_isStanding 4 = .ok (.iload_n 1, 1) := by decide +kernel
theorem dX2_isStanding_5 : decode cX2_isStanding 5 = .ok (.aload_n 0, 1) := by decide +kernel
theorem dX2_isStanding_6 : decode cX2_isStanding 6 = .ok (.getfield 32, 3) := by decide +kernel
theorem dX2_isStanding_9 : decode cX2_isStanding 9 = .ok (.if_icmp .ge 16, 3) := by decide +kernel
theorem dX2_isStanding_12 : decode cX2_isStanding 12 = .ok (.aload_n 0, 1) := by decide +kernel
theorem dX2_isStanding_13 : decode cX2_isStanding 13 = .ok (.getfield 28, 3) := by decide +kernel
theorem dX2_isStanding_16 : decode cX2_isStanding 16 = .ok (.iload_n 1, 1) := by decide +kernel
theorem dX2_isStanding_17 : decode cX2_isStanding 17 = .ok (.baload, 1) := by decide +kernel
theorem dX2_isStanding_18 : decode cX2_isStanding 18 = .ok (.ifCond .ne 7, 3) := by decide +kernel
theorem dX2_isStanding_21 : decode cX2_isStanding 21 = .ok (.iconst 1, 1) := by decide +kernel
theorem dX2_isStanding_22 : decode cX2_isStanding 22 = .ok (.goto 4, 3) := by decide +kernel
theorem dX2_isStanding_25 : decode cX2_isStanding 25 = .ok (.iconst 0, 1) := by decide +kernel
theorem dX2_isStanding_26 : decode cX2_isStanding 26 = .ok (.ireturn, 1) := by decide +kernel
theorem dX2_digestOf_0 : decode cX2_digestOf 0 = .ok (.iload_n 1, 1) := by decide +kernel
theorem dX2_digestOf_1 : decode cX2_digestOf 1 = .ok (.ifCond .lt 20, 3) := by decide +kernel
theorem dX2_digestOf_4 : decode cX2_digestOf 4 = .ok (.iload_n 1, 1) := by decide +kernel
theorem dX2_digestOf_5 : decode cX2_digestOf 5 = .ok (.aload_n 0, 1) := by decide +kernel
theorem dX2_digestOf_6 : decode cX2_digestOf 6 = .ok (.getfield 32, 3) := by decide +kernel
theorem dX2_digestOf_9 : decode cX2_digestOf 9 = .ok (.if_icmp .ge 12, 3) := by decide +kernel
theorem dX2_digestOf_12 : decode cX2_digestOf 12 = .ok (.aload_n 0, 1) := by decide +kernel
theorem dX2_digestOf_13 : decode cX2_digestOf 13 = .ok (.getfield 22, 3) := by decide +kernel
theorem dX2_digestOf_16 : decode cX2_digestOf 16 = .ok (.iload_n 1, 1) := by decide +kernel
theorem dX2_digestOf_17 : decode cX2_digestOf 17 = .ok (.laload, 1) := by decide +kernel
theorem dX2_digestOf_18 : decode cX2_digestOf 18 = .ok (.goto 4, 3) := by decide +kernel
theorem dX2_digestOf_21 : decode cX2_digestOf 21 = .ok (.lconst 0, 1) := by decide +kernel
theorem dX2_digestOf_22 : decode cX2_digestOf 22 = .ok (.lreturn, 1) := by decide +kernel
theorem dX2_add_0 : decode cX2_add 0 = .ok (.aload_n 0, 1) := by decide +kernel
theorem dX2_add_1 : decode cX2_add 1 = .ok (.getfield 32, 3) := by decide +kernel
theorem dX2_add_4 : decode cX2_add 4 = .ok (.bipush 100, 2) := by decide +kernel
theorem dX2_add_6 : decode cX2_add 6 = .ok (.if_icmp .lt 5, 3) := by decide +kernel
theorem dX2_add_9 : decode cX2_add 9 = .ok (.iconst (-1), 1) := by decide +kernel
theorem dX2_add_10 : decode cX2_add 10 = .ok (.ireturn, 1) := by decide +kernel
theorem dX2_add_11 : decode cX2_add 11 = .ok (.aload_n 0, 1) := by decide +kernel
theorem dX2_add_12 : decode cX2_add 12 = .ok (.getfield 32, 3) := by decide +kernel
theorem dX2_add_15 : decode cX2_add 15 = .ok (.istore 9, 2) := by decide +kernel
theorem dX2_add_17 : decode cX2_add 17 = .ok (.aload_n 0, 1) := by decide +kernel
theorem dX2_add_18 : decode cX2_add 18 = .ok (.getfield 9, 3) := by decide +kernel
theorem dX2_add_21 : decode cX2_add 21 = .ok (.iload 9, 2) := by decide +kernel
theorem dX2_add_23 : decode cX2_add 23 = .ok (.iload_n 1, 1) := by decide +kernel
theorem dX2_add_24 : decode cX2_add 24 = .ok (.iastore, 1) := by decide +kernel
theorem dX2_add_25 : decode cX2_add 25 = .ok (.aload_n 0, 1) := by decide +kernel
theorem dX2_add_26 : decode cX2_add 26 = .ok (.getfield 15, 3) := by decide +kernel
theorem dX2_add_29 : decode cX2_add 29 = .ok (.iload 9, 2) := by decide +kernel
theorem dX2_add_31 : decode cX2_add 31 = .ok (.iload_n 2, 1) := by decide +kernel
theorem dX2_add_32 : decode cX2_add 32 = .ok (.iastore, 1) := by decide +kernel
theorem dX2_add_33 : decode cX2_add 33 = .ok (.aload_n 0, 1) := by decide +kernel
theorem dX2_add_34 : decode cX2_add 34 = .ok (.getfield 18, 3) := by decide +kernel
theorem dX2_add_37 : decode cX2_add 37 = .ok (.iload 9, 2) := by decide +kernel
theorem dX2_add_39 : decode cX2_add 39 = .ok (.lload_n 3, 1) := by decide +kernel
theorem dX2_add_40 : decode cX2_add 40 = .ok (.lastore, 1) := by decide +kernel
theorem dX2_add_41 : decode cX2_add 41 = .ok (.aload_n 0, 1) := by decide +kernel
theorem dX2_add_42 : decode cX2_add 42 = .ok (.getfield 22, 3) := by decide +kernel
theorem dX2_add_45 : decode cX2_add 45 = .ok (.iload 9, 2) := by decide +kernel
theorem dX2_add_47 : decode cX2_add 47 = .ok (.lload 5, 2) := by decide +kernel
theorem dX2_add_49 : decode cX2_add 49 = .ok (.lastore, 1) := by decide +kernel
theorem dX2_add_50 : decode cX2_add 50 = .ok (.aload_n 0, 1) := by decide +kernel
theorem dX2_add_51 : decode cX2_add 51 = .ok (.getfield 25, 3) := by decide +kernel
theorem dX2_add_54 : decode cX2_add 54 = .ok (.iload 9, 2) := by decide +kernel
theorem dX2_add_56 : decode cX2_add 56 = .ok (.lload 7, 2) := by decide +kernel
theorem dX2_add_58 : decode cX2_add 58 = .ok (.lastore, 1) := by decide +kernel
theorem dX2_add_59 : decode cX2_add 59 = .ok (.aload_n 0, 1) := by decide +kernel
theorem dX2_add_60 : decode cX2_add 60 = .ok (.dup, 1) := by decide +kernel
theorem dX2_add_61 : decode cX2_add 61 = .ok (.getfield 32, 3) := by decide +kernel
theorem dX2_add_64 : decode cX2_add 64 = .ok (.iconst 1, 1) := by decide +kernel
theorem dX2_add_65 : decode cX2_add 65 = .ok (.iadd, 1) := by decide +kernel
theorem dX2_add_66 : decode cX2_add 66 = .ok (.putfield 32, 3) := by decide +kernel
theorem dX2_add_69 : decode cX2_add 69 = .ok (.iload 9, 2) := by decide +kernel
theorem dX2_add_71 : decode cX2_add 71 = .ok (.ireturn, 1) := by decide +kernel
theorem dX2_hasLike_0 : decode cX2_hasLike 0 = .ok (.iconst 0, 1) := by decide +kernel
theorem dX2_hasLike_1 : decode cX2_hasLike 1 = .ok (.istore 6, 2) := by decide +kernel
theorem dX2_hasLike_3 : decode cX2_hasLike 3 = .ok (.iload 6, 2) := by decide +kernel
theorem dX2_hasLike_5 : decode cX2_hasLike 5 = .ok (.aload_n 0, 1) := by decide +kernel
theorem dX2_hasLike_6 : decode cX2_hasLike 6 = .ok (.getfield 32, 3) := by decide +kernel
theorem dX2_hasLike_9 : decode cX2_hasLike 9 = .ok (.if_icmp .ge 69, 3) := by decide +kernel
theorem dX2_hasLike_12 : decode cX2_hasLike 12 = .ok (.aload_n 0, 1) := by decide +kernel
theorem dX2_hasLike_13 : decode cX2_hasLike 13 = .ok (.getfield 9, 3) := by decide +kernel
theorem dX2_hasLike_16 : decode cX2_hasLike 16 = .ok (.iload 6, 2) := by decide +kernel
theorem dX2_hasLike_18 : decode cX2_hasLike 18 = .ok (.iaload, 1) := by decide +kernel
theorem dX2_hasLike_19 : decode cX2_hasLike 19 = .ok (.iload_n 1, 1) := by decide +kernel
theorem dX2_hasLike_20 : decode cX2_hasLike 20 = .ok (.if_icmp .ne 32, 3) := by decide +kernel
theorem dX2_hasLike_23 : decode cX2_hasLike 23 = .ok (.aload_n 0, 1) := by decide +kernel
theorem dX2_hasLike_24 : decode cX2_hasLike 24 = .ok (.getfield 18, 3) := by decide +kernel
theorem dX2_hasLike_27 : decode cX2_hasLike 27 = .ok (.iload 6, 2) := by decide +kernel
theorem dX2_hasLike_29 : decode cX2_hasLike 29 = .ok (.laload, 1) := by decide +kernel
theorem dX2_hasLike_30 : decode cX2_hasLike 30 = .ok (.lload_n 2, 1) := by decide +kernel
theorem dX2_hasLike_31 : decode cX2_hasLike 31 = .ok (.lcmp, 1) := by decide +kernel
theorem dX2_hasLike_32 : decode cX2_hasLike 32 = .ok (.ifCond .ne 20, 3) := by decide +kernel
theorem dX2_hasLike_35 : decode cX2_hasLike 35 = .ok (.aload_n 0, 1) := by decide +kernel
theorem dX2_hasLike_36 : decode cX2_hasLike 36 = .ok (.getfield 22, 3) := by decide +kernel
theorem dX2_hasLike_39 : decode cX2_hasLike 39 = .ok (.iload 6, 2) := by decide +kernel
theorem dX2_hasLike_41 : decode cX2_hasLike 41 = .ok (.laload, 1) := by decide +kernel
theorem dX2_hasLike_42 : decode cX2_hasLike 42 = .ok (.lload 4, 2) := by decide +kernel
theorem dX2_hasLike_44 : decode cX2_hasLike 44 = .ok (.lcmp, 1) := by decide +kernel
theorem dX2_hasLike_45 : decode cX2_hasLike 45 = .ok (.ifCond .ne 7, 3) := by decide +kernel
theorem dX2_hasLike_48 : decode cX2_hasLike 48 = .ok (.iconst 1, 1) := by decide +kernel
theorem dX2_hasLike_49 : decode cX2_hasLike 49 = .ok (.goto 4, 3) := by decide +kernel
theorem dX2_hasLike_52 : decode cX2_hasLike 52 = .ok (.iconst 0, 1) := by decide +kernel
theorem dX2_hasLike_53 : decode cX2_hasLike 53 = .ok (.istore 7, 2) := by decide +kernel
theorem dX2_hasLike_55 : decode cX2_hasLike 55 = .ok (.iload 7, 2) := by decide +kernel
theorem dX2_hasLike_57 : decode cX2_hasLike 57 = .ok (.ifCond .eq 15, 3) := by decide +kernel
theorem dX2_hasLike_60 : decode cX2_hasLike 60 = .ok (.aload_n 0, 1) := by decide +kernel
theorem dX2_hasLike_61 : decode cX2_hasLike 61 = .ok (.getfield 28, 3) := by decide +kernel
theorem dX2_hasLike_64 : decode cX2_hasLike 64 = .ok (.iload 6, 2) := by decide +kernel
theorem dX2_hasLike_66 : decode cX2_hasLike 66 = .ok (.baload, 1) := by decide +kernel
theorem dX2_hasLike_67 : decode cX2_hasLike 67 = .ok (.ifCond .ne 5, 3) := by decide +kernel
theorem dX2_hasLike_70 : decode cX2_hasLike 70 = .ok (.iconst 1, 1) := by decide +kernel
theorem dX2_hasLike_71 : decode cX2_hasLike 71 = .ok (.ireturn, 1) := by decide +kernel
theorem dX2_hasLike_72 : decode cX2_hasLike 72 = .ok (.iinc 6 1, 3) := by decide +kernel
theorem dX2_hasLike_75 : decode cX2_hasLike 75 = .ok (.goto (-72), 3) := by decide +kernel
theorem dX2_hasLike_78 : decode cX2_hasLike 78 = .ok (.iconst 0, 1) := by decide +kernel
theorem dX2_hasLike_79 : decode cX2_hasLike 79 = .ok (.ireturn, 1) := by decide +kernel
theorem dX2_dropAllOf_0 : decode cX2_dropAllOf 0 = .ok (.iconst 0, 1) := by decide +kernel
theorem dX2_dropAllOf_1 : decode cX2_dropAllOf 1 = .ok (.istore_n 2, 1) := by decide +kernel
theorem dX2_dropAllOf_2 : decode cX2_dropAllOf 2 = .ok (.iconst 0, 1) := by decide +kernel
theorem dX2_dropAllOf_3 : decode cX2_dropAllOf 3 = .ok (.istore_n 3, 1) := by decide +kernel
theorem dX2_dropAllOf_4 : decode cX2_dropAllOf 4 = .ok (.iload_n 3, 1) := by decide +kernel
theorem dX2_dropAllOf_5 : decode cX2_dropAllOf 5 = .ok (.aload_n 0, 1) := by decide +kernel
theorem dX2_dropAllOf_6 : decode cX2_dropAllOf 6 = .ok (.getfield 32, 3) := by decide +kernel
theorem dX2_dropAllOf_9 : decode cX2_dropAllOf 9 = .ok (.if_icmp .ge 38, 3) := by decide +kernel
theorem dX2_dropAllOf_12 : decode cX2_dropAllOf 12 = .ok (.aload_n 0, 1) := by decide +kernel
theorem dX2_dropAllOf_13 : decode cX2_dropAllOf 13 = .ok (.getfield 9, 3) := by decide +kernel
theorem dX2_dropAllOf_16 : decode cX2_dropAllOf 16 = .ok (.iload_n 3, 1) := by decide +kernel
theorem dX2_dropAllOf_17 : decode cX2_dropAllOf 17 = .ok (.iaload, 1) := by decide +kernel
theorem dX2_dropAllOf_18 : decode cX2_dropAllOf 18 = .ok (.iload_n 1, 1) := by decide +kernel
theorem dX2_dropAllOf_19 : decode cX2_dropAllOf 19 = .ok (.if_icmp .ne 22, 3) := by decide +kernel
theorem dX2_dropAllOf_22 : decode cX2_dropAllOf 22 = .ok (.aload_n 0, 1) := by decide +kernel
theorem dX2_dropAllOf_23 : decode cX2_dropAllOf 23 = .ok (.getfield 28, 3) := by decide +kernel
theorem dX2_dropAllOf_26 : decode cX2_dropAllOf 26 = .ok (.iload_n 3, 1) := by decide +kernel
theorem dX2_dropAllOf_27 : decode cX2_dropAllOf 27 = .ok (.baload, 1) := by decide +kernel
theorem dX2_dropAllOf_28 : decode cX2_dropAllOf 28 = .ok (.ifCond .ne 13, 3) := by decide +kernel
theorem dX2_dropAllOf_31 : decode cX2_dropAllOf 31 = .ok (.aload_n 0, 1) := by decide +kernel
theorem dX2_dropAllOf_32 : decode cX2_dropAllOf 32 = .ok (.getfield 28, 3) := by decide +kernel
theorem dX2_dropAllOf_35 : decode cX2_dropAllOf 35 = .ok (.iload_n 3, 1) := by decide +kernel
theorem dX2_dropAllOf_36 : decode cX2_dropAllOf 36 = .ok (.iconst 1, 1) := by decide +kernel
theorem dX2_dropAllOf_37 : decode cX2_dropAllOf 37 = .ok (.bastore, 1) := by decide +kernel
theorem dX2_dropAllOf_38 : decode cX2_dropAllOf 38 = .ok (.iinc 2 1, 3) := by decide +kernel
theorem dX2_dropAllOf_41 : decode cX2_dropAllOf 41 = .ok (.iinc 3 1, 3) := by decide +kernel
theorem dX2_dropAllOf_44 : decode cX2_dropAllOf 44 = .ok (.goto (-40), 3) := by decide +kernel
theorem dX2_dropAllOf_47 : decode cX2_dropAllOf 47 = .ok (.iload_n 2, 1) := by decide +kernel
theorem dX2_dropAllOf_48 : decode cX2_dropAllOf 48 = .ok (.ireturn, 1) := by decide +kernel
theorem dX2_firstAgainst_0 : decode cX2_firstAgainst 0 = .ok (.aload_n 0, 1) := by decide +kernel
theorem dX2_firstAgainst_1 : decode cX2_firstAgainst 1 = .ok (.iload_n 1, 1) := by decide +kernel
theorem dX2_firstAgainst_2 : decode cX2_firstAgainst 2 = .ok (.invokevirtual 36, 3) := by decide +kernel
theorem dX2_firstAgainst_5 : decode cX2_firstAgainst 5 = .ok (.ifCond .eq 12, 3) := by decide +kernel
theorem dX2_firstAgainst_8 : decode cX2_firstAgainst 8 = .ok (.aload_n 0, 1) := by decide +kernel
theorem dX2_firstAgainst_9 : decode cX2_firstAgainst 9 = .ok (.getfield 15, 3) := by decide +kernel
theorem dX2_firstAgainst_12 : decode cX2_firstAgainst 12 = .ok (.iload_n 1, 1) := by decide +kernel
theorem dX2_firstAgainst_13 : decode cX2_firstAgainst 13 = .ok (.iaload, 1) := by decide +kernel
theorem dX2_firstAgainst_14 : decode cX2_firstAgainst 14 = .ok (.ifCond .ne 5, 3) := by decide +kernel
theorem dX2_firstAgainst_17 : decode cX2_firstAgainst 17 = .ok (.iconst (-1), 1) := by decide +kernel
theorem dX2_firstAgainst_18 : decode cX2_firstAgainst 18 = .ok (.ireturn, 1) := by decide +kernel
theorem dX2_firstAgainst_19 : decode cX2_firstAgainst 19 = .ok (.iconst 0, 1) := by decide +kernel
theorem dX2_firstAgainst_20 : decode cX2_firstAgainst 20 = .ok (.istore_n 2, 1) := by decide +kernel
theorem dX2_firstAgainst_21 : decode cX2_firstAgainst 21 = .ok (.iload_n 2, 1) := by decide +kernel
theorem dX2_firstAgainst_22 : decode cX2_firstAgainst 22 = .ok (.iload_n 1, 1) := by decide +kernel
theorem dX2_firstAgainst_23 : decode cX2_firstAgainst 23 = .ok (.if_icmp .ge 71, 3) := by decide +kernel
theorem dX2_firstAgainst_26 : decode cX2_firstAgainst 26 = .ok (.aload_n 0, 1) := by decide +kernel
theorem dX2_firstAgainst_27 : decode cX2_firstAgainst 27 = .ok (.getfield 18, 3) := by decide +kernel
theorem dX2_firstAgainst_30 : decode cX2_firstAgainst 30 = .ok (.iload_n 2, 1) := by decide +kernel
theorem dX2_firstAgainst_31 : decode cX2_firstAgainst 31 = .ok (.laload, 1) := by decide +kernel
theorem dX2_firstAgainst_32 : decode cX2_firstAgainst 32 = .ok (.aload_n 0, 1) := by decide +kernel
theorem dX2_firstAgainst_33 : decode cX2_firstAgainst 33 = .ok (.getfield 18, 3) := by decide +kernel
theorem dX2_firstAgainst_36 : decode cX2_firstAgainst 36 = .ok (.iload_n 1, 1) := by decide +kernel
theorem dX2_firstAgainst_37 : decode cX2_firstAgainst 37 = .ok (.laload, 1) := by decide +kernel
theorem dX2_firstAgainst_38 : decode cX2_firstAgainst 38 = .ok (.lcmp, 1) := by decide +kernel
theorem dX2_firstAgainst_39 : decode cX2_firstAgainst 39 = .ok (.ifCond .ne 23, 3) := by decide +kernel
theorem dX2_firstAgainst_42 : decode cX2_firstAgainst 42 = .ok (.aload_n 0, 1) := by decide +kernel
theorem dX2_firstAgainst_43 : decode cX2_firstAgainst 43 = .ok (.getfield 22, 3) := by decide +kernel
theorem dX2_firstAgainst_46 : decode cX2_firstAgainst 46 = .ok (.iload_n 2, 1) := by decide +kernel
theorem dX2_firstAgainst_47 : decode cX2_firstAgainst 47 = .ok (.laload, 1) := by decide +kernel
theorem dX2_firstAgainst_48 : decode cX2_firstAgainst 48 = .ok (.aload_n 0, 1) := by decide +kernel
theorem dX2_firstAgainst_49 : decode cX2_firstAgainst 49 = .ok (.getfield 22, 3) := by decide +kernel
theorem dX2_firstAgainst_52 : decode cX2_firstAgainst 52 = .ok (.iload_n 1, 1) := by decide +kernel
theorem dX2_firstAgainst_53 : decode cX2_firstAgainst 53 = .ok (.laload, 1) := by decide +kernel
theorem dX2_firstAgainst_54 : decode cX2_firstAgainst 54 = .ok (.lcmp, 1) := by decide +kernel
theorem dX2_firstAgainst_55 : decode cX2_firstAgainst 55 = .ok (.ifCond .eq 7, 3) := by decide +kernel
theorem dX2_firstAgainst_58 : decode cX2_firstAgainst 58 = .ok (.iconst 1, 1) := by decide +kernel
theorem dX2_firstAgainst_59 : decode cX2_firstAgainst 59 = .ok (.goto 4, 3) := by decide +kernel
theorem dX2_firstAgainst_62 : decode cX2_firstAgainst 62 = .ok (.iconst 0, 1) := by decide +kernel
theorem dX2_firstAgainst_63 : decode cX2_firstAgainst 63 = .ok (.istore_n 3, 1) := by decide +kernel
theorem dX2_firstAgainst_64 : decode cX2_firstAgainst 64 = .ok (.iload_n 3, 1) := by decide +kernel
theorem dX2_firstAgainst_65 : decode cX2_firstAgainst 65 = .ok (.ifCond .eq 23, 3) := by decide +kernel
theorem dX2_firstAgainst_68 : decode cX2_firstAgainst 68 = .ok (.aload_n 0, 1) := by decide +kernel
theorem dX2_firstAgainst_69 : decode cX2_firstAgainst 69 = .ok (.getfield 28, 3) := by decide +kernel
theorem dX2_firstAgainst_72 : decode cX2_firstAgainst 72 = .ok (.iload_n 2, 1) := by decide +kernel
theorem dX2_firstAgainst_73 : decode cX2_firstAgainst 73 = .ok (.baload, 1) := by decide +kernel
theorem dX2_firstAgainst_74 : decode cX2_firstAgainst 74 = .ok (.ifCond .ne 14, 3) := by decide +kernel
theorem dX2_firstAgainst_77 : decode cX2_firstAgainst 77 = .ok (.aload_n 0, 1) := by decide +kernel
theorem dX2_firstAgainst_78 : decode cX2_firstAgainst 78 = .ok (.getfield 15, 3) := by decide +kernel
theorem dX2_firstAgainst_81 : decode cX2_firstAgainst 81 = .ok (.iload_n 2, 1) := by decide +kernel
theorem dX2_firstAgainst_82 : decode cX2_firstAgainst 82 = .ok (.iaload, 1) := by decide +kernel
theorem dX2_firstAgainst_83 : decode cX2_firstAgainst 83 = .ok (.ifCond .eq 5, 3) := by decide +kernel
theorem dX2_firstAgainst_86 : decode cX2_firstAgainst 86 = .ok (.iload_n 2, 1) := by decide +kernel
theorem dX2_firstAgainst_87 : decode cX2_firstAgainst 87 = .ok (.ireturn, 1) := by decide +kernel
theorem dX2_firstAgainst_88 : decode cX2_firstAgainst 88 = .ok (.iinc 2 1, 3) := by decide +kernel
theorem dX2_firstAgainst_91 : decode cX2_firstAgainst 91 = .ok (.goto (-70), 3) := by decide +kernel
theorem dX2_firstAgainst_94 : decode cX2_firstAgainst 94 = .ok (.iconst (-1), 1) := by decide +kernel
theorem dX2_firstAgainst_95 : decode cX2_firstAgainst 95 = .ok (.ireturn, 1) := by decide +kernel
theorem dX2_counts_0 : decode cX2_counts 0 = .ok (.aload_n 0, 1) := by decide +kernel
theorem dX2_counts_1 : decode cX2_counts 1 = .ok (.iload_n 1, 1) := by decide +kernel
theorem dX2_counts_2 : decode cX2_counts 2 = .ok (.invokevirtual 36, 3) := by decide +kernel
theorem dX2_counts_5 : decode cX2_counts 5 = .ok (.ifCond .eq 41, 3) := by decide +kernel
theorem dX2_counts_8 : decode cX2_counts 8 = .ok (.aload_n 0, 1) := by decide +kernel
theorem dX2_counts_9 : decode cX2_counts 9 = .ok (.getfield 18, 3) := by decide +kernel
theorem dX2_counts_12 : decode cX2_counts 12 = .ok (.iload_n 1, 1) := by decide +kernel
theorem dX2_counts_13 : decode cX2_counts 13 = .ok (.laload, 1) := by decide +kernel
theorem dX2_counts_14 : decode cX2_counts 14 = .ok (.lload_n 2, 1) := by decide +kernel
theorem dX2_counts_15 : decode cX2_counts 15 = .ok (.lcmp, 1) := by decide +kernel
theorem dX2_counts_16 : decode cX2_counts 16 = .ok (.ifCond .ne 30, 3) := by decide +kernel
theorem dX2_counts_19 : decode cX2_counts 19 = .ok (.aload_n 0, 1) := by decide +kernel
theorem dX2_counts_20 : decode cX2_counts 20 = .ok (.getfield 15, 3) := by decide +kernel
theorem dX2_counts_23 : decode cX2_counts 23 = .ok (.iload_n 1, 1) := by decide +kernel
theorem dX2_counts_24 : decode cX2_counts 24 = .ok (.iaload, 1) := by decide +kernel
theorem dX2_counts_25 : decode cX2_counts 25 = .ok (.iload 4, 2) := by decide +kernel
theorem dX2_counts_27 : decode cX2_counts 27 = .ok (.if_icmp .lt 19, 3) := by decide +kernel
theorem dX2_counts_30 : decode cX2_counts 30 = .ok (.aload_n 0, 1) := by decide +kernel
theorem dX2_counts_31 : decode cX2_counts 31 = .ok (.getfield 25, 3) := by decide +kernel
theorem dX2_counts_34 : decode cX2_counts 34 = .ok (.iload_n 1, 1) := by decide +kernel
theorem dX2_counts_35 : decode cX2_counts 35 = .ok (.laload, 1) := by decide +kernel
theorem dX2_counts_36 : decode cX2_counts 36 = .ok (.lload 5, 2) := by decide +kernel
theorem dX2_counts_38 : decode cX2_counts 38 = .ok (.lcmp, 1) := by decide +kernel
theorem dX2_counts_39 : decode cX2_counts 39 = .ok (.ifCond .gt 7, 3) := by decide +kernel
theorem dX2_counts_42 : decode cX2_counts 42 = .ok (.iconst 1, 1) := by decide +kernel
theorem dX2_counts_43 : decode cX2_counts 43 = .ok (.goto 4, 3) := by decide +kernel
theorem dX2_counts_46 : decode cX2_counts 46 = .ok (.iconst 0, 1) := by decide +kernel
theorem dX2_counts_47 : decode cX2_counts 47 = .ok (.ireturn, 1) := by decide +kernel
def p_E_stand (oe : Nat → Nat) (ec : Nat) (ew : Nat → Nat) (el : Nat → Int32) (ea : Nat → Int64) (ed : Nat → Int64) (et : Nat → Int64) (ex : Nat → Bool) (x : Int32) : Int32 → Unit → Prop := fun r u => xb r (∃ j, j < ec ∧ x = nI j ∧ ex j = false)
set_option maxHeartbeats 4000000 in
set_option maxRecDepth 100000 in
theorem c_E_stand (l : Launch) (D : va_G) (k : Nat → ClassId) (oe : Nat → Nat) (ec : Nat) (ew : Nat → Nat) (el : Nat → Int32) (ea : Nat → Int64) (ed : Nat → Int64) (et : Nat → Int64) (ex : Nat → Bool) (x : Int32) (hec : ec ≤ 100) : xx_Ci l yX2_isStanding (.code yX2_isStanding cX2_isStanding 2 (some .boolean) :: xall) ({ frames := 0, cells := 0, slots := 0, locals := 0 } : Room) D vwCl (xT k) [.ref (oe 0), .int x] (bE k oe ec ew el ea ed et ex) (p_E_stand oe ec ew el ea ed et ex x) (fun (u : Unit) => bE k oe ec ew el ea ed et ex) 0 0 := by
  intro sz
  refine xx_met (Qf := fun A => va_Qi (p_E_stand oe ec ew el ea ed et ex x) (xx_B D vwCl (xT k) A (fun (u : Unit) => bE k oe ec ew el ea ed et ex)) A) (cc := cX2_isStanding) (maxL := 2) (ret := (some .boolean)) (by decide) rfl (Nat.le_of_ble_eq_true rfl) ?_
  intro p e s m below meth c A ls hx hb hr hts hown hlocks hin hml hA hS hP hD hK hN hl
  have hl : lv_has ls 2 [(0, .ref (oe 0)), (1, .int x)] := hl
  have hown : s.vm.findClass RX2 = some m.cls := hown
  have hinW := inX2
  refine lv_iload_n hx hb dX2_isStanding_0 rfl (lv_at hl 1 rfl) ?_
  refine lv_if_lt (tgt := 25) hx hb dX2_isStanding_1 (by decide) (fun c1 => ?_) (fun c1 => ?_)
  · refine lv_iconst (v := (nI 0)) hx hb dX2_isStanding_25 (by decide) ?_
    refine xx_zret () hx hb hr hlocks rfl hS hK hP hD dX2_isStanding_26 ?_
    first | exact xb_f (xx_none (xx_nix (by omega) (Or.inl c1))) | exact xb_t ⟨j, hj, rfl, c18⟩ | exact xb_f (xx_one (P := fun j => ex j = false) (by omega) hj (fun h => xx_tf c18 h)) | exact xb_f (xx_none (xx_nix (by omega) (Or.inr c9)))
  · refine lv_iload_n hx hb dX2_isStanding_4 rfl (lv_at hl 1 rfl) ?_
    refine lv_aload_n hx hb dX2_isStanding_5 rfl (lv_at hl 0 rfl) ?_
    refine va_get (D := D) (ci := 2) (v := .int (nI ec)) (C := RX2) (T := TX2) (N := 7) hx hb hts hinW hown hK hP 0 rfl rfl 6 (by decide) (hts _ tw_67) (fun _ h9 => h9) rfl dX2_isStanding_6 ?_
    refine lv_icmp_ge (tgt := 25) hx hb dX2_isStanding_9 (by decide) (fun c9 => ?_) (fun c9 => ?_)
    · refine lv_iconst (v := (nI 0)) hx hb dX2_isStanding_25 (by decide) ?_
      refine xx_zret () hx hb hr hlocks rfl hS hK hP hD dX2_isStanding_26 ?_
      first | exact xb_f (xx_none (xx_nix (by omega) (Or.inl c1))) | exact xb_t ⟨j, hj, rfl, c18⟩ | exact xb_f (xx_one (P := fun j => ex j = false) (by omega) hj (fun h => xx_tf c18 h)) | exact xb_f (xx_none (xx_nix (by omega) (Or.inr c9)))
    · obtain ⟨j, hj, hxj⟩ := xx_ix (n := ec) (by omega) c1 c9
      subst hxj
      refine lv_aload_n hx hb dX2_isStanding_12 rfl (lv_at hl 0 rfl) ?_
      refine va_get (D := D) (ci := 2) (v := .ref (oe 6)) (C := RX2) (T := TX2) (N := 7) hx hb hts hinW hown hK hP 0 rfl rfl 5 (by decide) (hts _ tw_66) (fun _ h9 => h9) rfl dX2_isStanding_13 ?_
      refine lv_iload_n hx hb dX2_isStanding_16 rfl (lv_at hl 1 rfl) ?_
      refine xx_zald hx hb hK hP 6 1 rfl rfl (show j < 100 by omega) (by decide) dX2_isStanding_17 ?_
      refine lv_if_ne (tgt := 25) hx hb dX2_isStanding_18 (by decide) (fun c18 => ?_) (fun c18 => ?_)
      · have c18 : ex j = true := bI_ne c18
        refine lv_iconst (v := (nI 0)) hx hb dX2_isStanding_25 (by decide) ?_
        refine xx_zret () hx hb hr hlocks rfl hS hK hP hD dX2_isStanding_26 ?_
        first | exact xb_f (xx_none (xx_nix (by omega) (Or.inl c1))) | exact xb_t ⟨j, hj, rfl, c18⟩ | exact xb_f (xx_one (P := fun j => ex j = false) (by omega) hj (fun h => xx_tf c18 h)) | exact xb_f (xx_none (xx_nix (by omega) (Or.inr c9)))
      · have c18 : ex j = false := bI_eq c18
        refine lv_iconst (v := (nI 1)) hx hb dX2_isStanding_21 (by decide) ?_
        refine lv_goto (tgt := 26) hx hb dX2_isStanding_22 (by decide) ?_
        refine xx_zret () hx hb hr hlocks rfl hS hK hP hD dX2_isStanding_26 ?_
        first | exact xb_f (xx_none (xx_nix (by omega) (Or.inl c1))) | exact xb_t ⟨j, hj, rfl, c18⟩ | exact xb_f (xx_one (P := fun j => ex j = false) (by omega) hj (fun h => xx_tf c18 h)) | exact xb_f (xx_none (xx_nix (by omega) (Or.inr c9)))
def p_E_digest (oe : Nat → Nat) (ec : Nat) (ew : Nat → Nat) (el : Nat → Int32) (ea : Nat → Int64) (ed : Nat → Int64) (et : Nat → Int64) (ex : Nat → Bool) (x : Int32) : Int64 → Unit → Prop := fun r u => (∃ j, j < ec ∧ x = nI j ∧ r = ed j) ∨ (¬ ixN ec x ∧ r = 0)
set_option maxHeartbeats 4000000 in
set_option maxRecDepth 100000 in
theorem c_E_digest (l : Launch) (D : va_G) (k : Nat → ClassId) (oe : Nat → Nat) (ec : Nat) (ew : Nat → Nat) (el : Nat → Int32) (ea : Nat → Int64) (ed : Nat → Int64) (et : Nat → Int64) (ex : Nat → Bool) (x : Int32) (hec : ec ≤ 100) : xx_Cl l yX2_digestOf (.code yX2_digestOf cX2_digestOf 2 (some .long) :: xall) ({ frames := 0, cells := 0, slots := 0, locals := 0 } : Room) D vwCl (xT k) [.ref (oe 0), .int x] (bE k oe ec ew el ea ed et ex) (p_E_digest oe ec ew el ea ed et ex x) (fun (u : Unit) => bE k oe ec ew el ea ed et ex) 0 0 := by
  intro sz
  refine xx_met (Qf := fun A => va_Ql (p_E_digest oe ec ew el ea ed et ex x) (xx_B D vwCl (xT k) A (fun (u : Unit) => bE k oe ec ew el ea ed et ex)) A) (cc := cX2_digestOf) (maxL := 2) (ret := (some .long)) (by decide) rfl (Nat.le_of_ble_eq_true rfl) ?_
  intro p e s m below meth c A ls hx hb hr hts hown hlocks hin hml hA hS hP hD hK hN hl
  have hl : lv_has ls 2 [(0, .ref (oe 0)), (1, .int x)] := hl
  have hown : s.vm.findClass RX2 = some m.cls := hown
  have hinW := inX2
  refine lv_iload_n hx hb dX2_digestOf_0 rfl (lv_at hl 1 rfl) ?_
  refine lv_if_lt (tgt := 21) hx hb dX2_digestOf_1 (by decide) (fun c1 => ?_) (fun c1 => ?_)
  · refine lv_lconst (v := 0) hx hb dX2_digestOf_21 (by decide) ?_
    refine xx_lret () hx hb hr hlocks hS hK hP hD dX2_digestOf_22 ?_
    first | exact Or.inr ⟨xx_nix (by omega) (Or.inl c1), rfl⟩ | exact Or.inl ⟨j, hj, rfl, rfl⟩ | exact Or.inr ⟨xx_nix (by omega) (Or.inr c9), rfl⟩
  · refine lv_iload_n hx hb dX2_digestOf_4 rfl (lv_at hl 1 rfl) ?_
    refine lv_aload_n hx hb dX2_digestOf_5 rfl (lv_at hl 0 rfl) ?_
    refine va_get (D := D) (ci := 2) (v := .int (nI ec)) (C := RX2) (T := TX2) (N := 7) hx hb hts hinW hown hK hP 0 rfl rfl 6 (by decide) (hts _ tw_67) (fun _ h9 => h9) rfl dX2_digestOf_6 ?_
    refine lv_icmp_ge (tgt := 21) hx hb dX2_digestOf_9 (by decide) (fun c9 => ?_) (fun c9 => ?_)
    · refine lv_lconst (v := 0) hx hb dX2_digestOf_21 (by decide) ?_
      refine xx_lret () hx hb hr hlocks hS hK hP hD dX2_digestOf_22 ?_
      first | exact Or.inr ⟨xx_nix (by omega) (Or.inl c1), rfl⟩ | exact Or.inl ⟨j, hj, rfl, rfl⟩ | exact Or.inr ⟨xx_nix (by omega) (Or.inr c9), rfl⟩
    · obtain ⟨j, hj, hxj⟩ := xx_ix (n := ec) (by omega) c1 c9
      subst hxj
      refine lv_aload_n hx hb dX2_digestOf_12 rfl (lv_at hl 0 rfl) ?_
      refine va_get (D := D) (ci := 2) (v := .ref (oe 4)) (C := RX2) (T := TX2) (N := 7) hx hb hts hinW hown hK hP 0 rfl rfl 3 (by decide) (hts _ tw_64) (fun _ h9 => h9) rfl dX2_digestOf_13 ?_
      refine lv_iload_n hx hb dX2_digestOf_16 rfl (lv_at hl 1 rfl) ?_
      refine xx_lald hx hb hK hP 4 2 rfl rfl (show j < 100 by omega) (by decide) dX2_digestOf_17 ?_
      refine lv_goto (tgt := 22) hx hb dX2_digestOf_18 (by decide) ?_
      refine xx_lret () hx hb hr hlocks hS hK hP hD dX2_digestOf_22 ?_
      first | exact Or.inr ⟨xx_nix (by omega) (Or.inl c1), rfl⟩ | exact Or.inl ⟨j, hj, rfl, rfl⟩ | exact Or.inr ⟨xx_nix (by omega) (Or.inr c9), rfl⟩
def p_E_add (oe : Nat → Nat) (ec : Nat) (ew : Nat → Nat) (el : Nat → Int32) (ea : Nat → Int64) (ed : Nat → Int64) (et : Nat → Int64) (ex : Nat → Bool) (w : Nat) (lv : Int32) (a : Int64) (d : Int64) (t : Int64) : Int32 → (Nat × (Nat → Nat) × (Nat → Int32) × (Nat → Int64) × (Nat → Int64) × (Nat → Int64)) → Prop := fun r u => (r = (-1) ∧ 100 ≤ ec ∧ u = (ec, ew, el, ea, ed, et)) ∨ (r = nI ec ∧ ec < 100 ∧ u = (ec + 1, xu_N ew ec w, upd el ec lv, vp_updL ea ec a, vp_updL ed ec d, vp_updL et ec t))
set_option maxHeartbeats 4000000 in
set_option maxRecDepth 100000 in
theorem c_E_add (l : Launch) (D : va_G) (k : Nat → ClassId) (oe : Nat → Nat) (ec : Nat) (ew : Nat → Nat) (el : Nat → Int32) (ea : Nat → Int64) (ed : Nat → Int64) (et : Nat → Int64) (ex : Nat → Bool) (w : Nat) (lv : Int32) (a : Int64) (d : Int64) (t : Int64) (hec : ec ≤ 100) : xx_Ci l yX2_add (.code yX2_add cX2_add 10 (some .int) :: xall) ({ frames := 0, cells := 0, slots := 0, locals := 0 } : Room) D vwCl (xT k) [.ref (oe 0), .int (nI w), .int lv, .long a, .long d, .long t] (bE k oe ec ew el ea ed et ex) (p_E_add oe ec ew el ea ed et ex w lv a d t) (fun (u : Nat × (Nat → Nat) × (Nat → Int32) × (Nat → Int64) × (Nat → Int64) × (Nat → Int64)) => bE k oe u.1 u.2.1 u.2.2.1 u.2.2.2.1 u.2.2.2.2.1 u.2.2.2.2.2 ex) 0 0 := by
  intro sz
  refine xx_met (Qf := fun A => va_Qi (p_E_add oe ec ew el ea ed et ex w lv a d t) (xx_B D vwCl (xT k) A (fun (u : Nat × (Nat → Nat) × (Nat → Int32) × (Nat → Int64) × (Nat → Int64) × (Nat → Int64)) => bE k oe u.1 u.2.1 u.2.2.1 u.2.2.2.1 u.2.2.2.2.1 u.2.2.2.2.2 ex)) A) (cc := cX2_add) (maxL := 10) (ret := (some .int)) (by decide) rfl (Nat.le_of_ble_eq_true rfl) ?_
  intro p e s m below meth c A ls hx hb hr hts hown hlocks hin hml hA hS hP hD hK hN hl
  have hl : lv_has ls 10 [(0, .ref (oe 0)), (1, .int (nI w)), (2, .int lv), (3, .long a), (5, .long d), (7, .long t)] := hl
  have hown : s.vm.findClass RX2 = some m.cls := hown
  have hinW := inX2
  refine lv_aload_n hx hb dX2_add_0 rfl (lv_at hl 0 rfl) ?_
  refine va_get (D := D) (ci := 2) (v := .int (nI ec)) (C := RX2) (T := TX2) (N := 7) hx hb hts hinW hown hK hP 0 rfl rfl 6 (by decide) (hts _ tw_67) (fun _ h9 => h9) rfl dX2_add_1 ?_
  refine lv_bipush (v := (nI 100)) hx hb dX2_add_4 (by decide) ?_
  refine lv_icmp_lt (tgt := 11) hx hb dX2_add_6 (by decide) (fun c6 => ?_) (fun c6 => ?_)
  · have c6 : ec < 100 := (nI_ltI (by omega) (by omega)).mp c6
    refine lv_aload_n hx hb dX2_add_11 rfl (lv_at hl 0 rfl) ?_
    refine va_get (D := D) (ci := 2) (v := .int (nI ec)) (C := RX2) (T := TX2) (N := 7) hx hb hts hinW hown hK hP 0 rfl rfl 6 (by decide) (hts _ tw_67) (fun _ h9 => h9) rfl dX2_add_12 ?_
    refine lv_istore (lv' := [(9, .int (nI ec)), (0, .ref (oe 0)), (1, .int (nI w)), (2, .int lv), (3, .long a), (5, .long d), (7, .long t)]) hx hb dX2_add_15 hl (by decide) rfl (fun ls hl => ?_)
    refine lv_aload_n hx hb dX2_add_17 rfl (lv_at hl 1 rfl) ?_
    refine va_get (D := D) (ci := 2) (v := .ref (oe 1)) (C := RX2) (T := TX2) (N := 7) hx hb hts hinW hown hK hP 0 rfl rfl 0 (by decide) (hts _ tw_61) (fun _ h9 => h9) rfl dX2_add_18 ?_
    refine lv_iload hx hb dX2_add_21 (lv_at hl 0 rfl) ?_
    refine lv_iload_n hx hb dX2_add_23 rfl (lv_at hl 2 rfl) ?_
    refine xx_iast (g := (fun z9 => nI ((xu_N ew ec w) z9))) hx hb hK hP hD hS 1 0 rfl rfl (show ec < 100 by omega) (by decide) (xx_updN ew ec w) dX2_add_24 (fun H locs hP hD hS => ?_)
    have hP : va_P D vwCl (bE k oe ec (xu_N ew ec w) el ea ed et ex) H := hP
    have hD : va_D A (bE k oe ec (xu_N ew ec w) el ea ed et ex) := hD
    refine lv_aload_n hx hb dX2_add_25 rfl (lv_at hl 1 rfl) ?_
    refine va_get (D := D) (ci := 2) (v := .ref (oe 2)) (C := RX2) (T := TX2) (N := 7) hx hb hts hinW hown hK hP 0 rfl rfl 1 (by decide) (hts _ tw_62) (fun _ h9 => h9) rfl dX2_add_26 ?_
    refine lv_iload hx hb dX2_add_29 (lv_at hl 0 rfl) ?_
    refine lv_iload_n hx hb dX2_add_31 rfl (lv_at hl 3 rfl) ?_
    refine xx_iast (g := (upd el ec lv)) hx hb hK hP hD hS 2 0 rfl rfl (show ec < 100 by omega) (by decide) rfl dX2_add_32 (fun H locs hP hD hS => ?_)
    have hP : va_P D vwCl (bE k oe ec (xu_N ew ec w) (upd el ec lv) ea ed et ex) H := hP
    have hD : va_D A (bE k oe ec (xu_N ew ec w) (upd el ec lv) ea ed et ex) := hD
    refine lv_aload_n hx hb dX2_add_33 rfl (lv_at hl 1 rfl) ?_
    refine va_get (D := D) (ci := 2) (v := .ref (oe 3)) (C := RX2) (T := TX2) (N := 7) hx hb hts hinW hown hK hP 0 rfl rfl 2 (by decide) (hts _ tw_63) (fun _ h9 => h9) rfl dX2_add_34 ?_
    refine lv_iload hx hb dX2_add_37 (lv_at hl 0 rfl) ?_
    refine lv_lload_n hx hb dX2_add_39 rfl (lv_at hl 4 rfl) ?_
    refine xx_last (g := (vp_updL ea ec a)) hx hb hK hP hD hS 3 2 rfl rfl (show ec < 100 by omega) (by decide) rfl dX2_add_40 (fun H locs hP hD hS => ?_)
    have hP : va_P D vwCl (bE k oe ec (xu_N ew ec w) (upd el ec lv) (vp_updL ea ec a) ed et ex) H := hP
    have hD : va_D A (bE k oe ec (xu_N ew ec w) (upd el ec lv) (vp_updL ea ec a) ed et ex) := hD
    refine lv_aload_n hx hb dX2_add_41 rfl (lv_at hl 1 rfl) ?_
    refine va_get (D := D) (ci := 2) (v := .ref (oe 4)) (C := RX2) (T := TX2) (N := 7) hx hb hts hinW hown hK hP 0 rfl rfl 3 (by decide) (hts _ tw_64) (fun _ h9 => h9) rfl dX2_add_42 ?_
    refine lv_iload hx hb dX2_add_45 (lv_at hl 0 rfl) ?_
    refine lv_lload hx hb dX2_add_47 (lv_at hl 5 rfl) ?_
    refine xx_last (g := (vp_updL ed ec d)) hx hb hK hP hD hS 4 2 rfl rfl (show ec < 100 by omega) (by decide) rfl dX2_add_49 (fun H locs hP hD hS => ?_)
    have hP : va_P D vwCl (bE k oe ec (xu_N ew ec w) (upd el ec lv) (vp_updL ea ec a) (vp_updL ed ec d) et ex) H := hP
    have hD : va_D A (bE k oe ec (xu_N ew ec w) (upd el ec lv) (vp_updL ea ec a) (vp_updL ed ec d) et ex) := hD
    refine lv_aload_n hx hb dX2_add_50 rfl (lv_at hl 1 rfl) ?_
    refine va_get (D := D) (ci := 2) (v := .ref (oe 5)) (C := RX2) (T := TX2) (N := 7) hx hb hts hinW hown hK hP 0 rfl rfl 4 (by decide) (hts _ tw_65) (fun _ h9 => h9) rfl dX2_add_51 ?_
    refine lv_iload hx hb dX2_add_54 (lv_at hl 0 rfl) ?_
    refine lv_lload hx hb dX2_add_56 (lv_at hl 6 rfl) ?_
    refine xx_last (g := (vp_updL et ec t)) hx hb hK hP hD hS 5 2 rfl rfl (show ec < 100 by omega) (by decide) rfl dX2_add_58 (fun H locs hP hD hS => ?_)
    have hP : va_P D vwCl (bE k oe ec (xu_N ew ec w) (upd el ec lv) (vp_updL ea ec a) (vp_updL ed ec d) (vp_updL et ec t) ex) H := hP
    have hD : va_D A (bE k oe ec (xu_N ew ec w) (upd el ec lv) (vp_updL ea ec a) (vp_updL ed ec d) (vp_updL et ec t) ex) := hD
    refine lv_aload_n hx hb dX2_add_59 rfl (lv_at hl 1 rfl) ?_
    refine lv_dup hx hb dX2_add_60 rfl ?_
    refine va_get (D := D) (ci := 2) (v := .int (nI ec)) (C := RX2) (T := TX2) (N := 7) hx hb hts hinW hown hK hP 0 rfl rfl 6 (by decide) (hts _ tw_67) (fun _ h9 => h9) rfl dX2_add_61 ?_
    refine lv_iconst (v := (nI 1)) hx hb dX2_add_64 (by decide) ?_
    refine lv_iadd hx hb dX2_add_65 ?_
    refine xx_topi (nI_add ec 1) ?_
    refine va_put (D := D) (ci := 2) (v := .int (nI (ec + 1))) (ty := .int) (C := RX2) (T := TX2) (N := 7) hx hb hts hinW tyX2 tyX2_ok nmX2 hown hK hP hD hS 0 rfl rfl 6 (by decide) (hts _ tw_67) (fun _ h9 => h9) rfl (by decide +kernel) rfl rfl (Nat.le_of_ble_eq_true rfl) dX2_add_66 (fun H locs hP hD hS => ?_)
    have hP : va_P D vwCl (bE k oe (ec + 1) (xu_N ew ec w) (upd el ec lv) (vp_updL ea ec a) (vp_updL ed ec d) (vp_updL et ec t) ex) H := hP
    have hD : va_D A (bE k oe (ec + 1) (xu_N ew ec w) (upd el ec lv) (vp_updL ea ec a) (vp_updL ed ec d) (vp_updL et ec t) ex) := hD
    refine lv_iload hx hb dX2_add_69 (lv_at hl 0 rfl) ?_
    refine xx_iret (ec + 1, (xu_N ew ec w), (upd el ec lv), (vp_updL ea ec a), (vp_updL ed ec d), (vp_updL et ec t)) hx hb hr hlocks hS hK hP hD dX2_add_71 ?_
    exact Or.inr ⟨rfl, c6, rfl⟩
  · have c6 : 100 ≤ ec := Nat.le_of_not_lt (fun h => c6 ((nI_ltI (by omega) (by omega)).mpr h))
    refine lv_iconst (v := (-1)) hx hb dX2_add_9 (by decide) ?_
    refine xx_iret (ec, ew, el, ea, ed, et) hx hb hr hlocks hS hK hP hD dX2_add_10 ?_
    exact Or.inl ⟨rfl, c6, rfl⟩
def p_E_like (oe : Nat → Nat) (ec : Nat) (ew : Nat → Nat) (el : Nat → Int32) (ea : Nat → Int64) (ed : Nat → Int64) (et : Nat → Int64) (ex : Nat → Bool) (w : Nat) (a : Int64) (d : Int64) : Int32 → Unit → Prop := fun r u => xb r (∃ i, i < ec ∧ (ew i = w ∧ ea i = a ∧ ed i = d ∧ ex i = false))
set_option maxHeartbeats 4000000 in
set_option maxRecDepth 100000 in
theorem c_E_like (l : Launch) (D : va_G) (k : Nat → ClassId) (oe : Nat → Nat) (ec : Nat) (ew : Nat → Nat) (el : Nat → Int32) (ea : Nat → Int64) (ed : Nat → Int64) (et : Nat → Int64) (ex : Nat → Bool) (w : Nat) (a : Int64) (d : Int64) (hec : ec ≤ 100) (hew : ∀ i, ew i < 12) (hw : w < 12) : xx_Ci l yX2_hasLike (.code yX2_hasLike cX2_hasLike 8 (some .boolean) :: xall) ({ frames := 0, cells := 0, slots := 0, locals := 0 } : Room) D vwCl (xT k) [.ref (oe 0), .int (nI w), .long a, .long d] (bE k oe ec ew el ea ed et ex) (p_E_like oe ec ew el ea ed et ex w a d) (fun (u : Unit) => bE k oe ec ew el ea ed et ex) 0 0 := by
  intro sz
  refine xx_met (Qf := fun A => va_Qi (p_E_like oe ec ew el ea ed et ex w a d) (xx_B D vwCl (xT k) A (fun (u : Unit) => bE k oe ec ew el ea ed et ex)) A) (cc := cX2_hasLike) (maxL := 8) (ret := (some .boolean)) (by decide) rfl (Nat.le_of_ble_eq_true rfl) ?_
  intro p e s m below meth c A ls hx hb hr hts hown hlocks hin hml hA hS hP hD hK hN hl
  have hl : lv_has ls 8 [(0, .ref (oe 0)), (1, .int (nI w)), (2, .long a), (4, .long d)] := hl
  have hown : s.vm.findClass RX2 = some m.cls := hown
  have hinW := inX2
  refine lv_iconst (v := (nI 0)) hx hb dX2_hasLike_0 (by decide) ?_
  refine lv_istore (lv' := [(6, .int (nI 0)), (0, .ref (oe 0)), (1, .int (nI w)), (2, .long a), (4, .long d)]) hx hb dX2_hasLike_1 hl (by decide) rfl (fun ls hl => ?_)
  have loop3 : ∀ (dd : Nat) (i : Nat), ec + 1 ≤ i + dd → (i ≤ ec) → (∀ j, j < i → ¬ (ew j = w ∧ ea j = a ∧ ed j = d ∧ ex j = false)) → ∀ (H : Heap) (locs : List Loc) (ls : Array Slot), va_P D vwCl (bE k oe ec ew el ea ed et ex) H → va_D A (bE k oe ec ew el ea ed et ex) → va_S A s.heap H locs → lv_has ls 8 [(0, .ref (oe 0)), (1, .int (nI w)), (2, .long a), (4, .long d), (6, .int (nI i))] → W p l e ({ frames := 0, cells := 0, slots := 0, locals := 0 } : Room) s m [.ref (oe 0), .int (nI w), .long a, .long d].toArray below meth c H locs 0 0 (MQ below (va_Qi (p_E_like oe ec ew el ea ed et ex w a d) (xx_B D vwCl (xT k) A (fun (u : Unit) => bE k oe ec ew el ea ed et ex)) A) [.ref (oe 0), .int (nI w), .long a, .long d].toArray s 0 0 A) (F0 m 3 ls []) := by
    intro dd
    induction dd with
    | zero =>
      intro i hm h2 h3
      exact absurd hm (by omega)
    | succ dd ih3 =>
      intro i hm h2 h3 H locs ls hP hD hS hl
      refine lv_iload hx hb dX2_hasLike_3 (lv_at hl 4 rfl) ?_
      refine lv_aload_n hx hb dX2_hasLike_5 rfl (lv_at hl 0 rfl) ?_
      refine va_get (D := D) (ci := 2) (v := .int (nI ec)) (C := RX2) (T := TX2) (N := 7) hx hb hts hinW hown hK hP 0 rfl rfl 6 (by decide) (hts _ tw_67) (fun _ h9 => h9) rfl dX2_hasLike_6 ?_
      refine lv_icmp_ge (tgt := 78) hx hb dX2_hasLike_9 (by decide) (fun c9 => ?_) (fun c9 => ?_)
      · have c9 : ec ≤ i := (nI_leI (by omega) (by omega)).mp c9
        refine lv_iconst (v := (nI 0)) hx hb dX2_hasLike_78 (by decide) ?_
        refine xx_zret () hx hb hr hlocks rfl hS hK hP hD dX2_hasLike_79 ?_
        exact xb_f (fun ⟨j, z1, z3⟩ => h3 j (by omega) z3)
      · have c9 : i < ec := Nat.lt_of_not_le (fun h => c9 ((nI_leI (by omega) (by omega)).mpr h))
        refine lv_aload_n hx hb dX2_hasLike_12 rfl (lv_at hl 0 rfl) ?_
        refine va_get (D := D) (ci := 2) (v := .ref (oe 1)) (C := RX2) (T := TX2) (N := 7) hx hb hts hinW hown hK hP 0 rfl rfl 0 (by decide) (hts _ tw_61) (fun _ h9 => h9) rfl dX2_hasLike_13 ?_
        refine lv_iload hx hb dX2_hasLike_16 (lv_at hl 4 rfl) ?_
        refine xx_iald hx hb hK hP 1 0 rfl rfl (show i < 100 by omega) (by decide) dX2_hasLike_18 ?_
        refine lv_iload_n hx hb dX2_hasLike_19 rfl (lv_at hl 1 rfl) ?_
        have hwi := hew i
        refine lv_icmp_ne (tgt := 52) hx hb dX2_hasLike_20 (by decide) (fun c20 => ?_) (fun c20 => ?_)
        · have c20 : ¬ ew i = w := fun h => c20 ((nI_eq (by omega) (by omega)).mpr h)
          refine lv_iconst (v := (nI 0)) hx hb dX2_hasLike_52 (by decide) ?_
          refine lv_istore (lv' := [(7, .int (nI 0)), (0, .ref (oe 0)), (1, .int (nI w)), (2, .long a), (4, .long d), (6, .int (nI i))]) hx hb dX2_hasLike_53 hl (by decide) rfl (fun ls hl => ?_)
          refine lv_iload hx hb dX2_hasLike_55 (lv_at hl 0 rfl) ?_
          refine lv_if_eq (tgt := 72) hx hb dX2_hasLike_57 (by decide) (fun _ => ?_) (fun c => absurd c (by decide))
          refine lv_iinc (v := (nI (i + 1))) (lv' := [(6, .int (nI (i + 1))), (7, .int (nI 0)), (0, .ref (oe 0)), (1, .int (nI w)), (2, .long a), (4, .long d)]) hx hb dX2_hasLike_72 hl (k := 5) rfl (nI_1 i) (by decide) rfl (fun ls hl => ?_)
          refine lv_goto (tgt := 3) hx hb dX2_hasLike_75 (by decide) ?_
          exact ih3 (i + 1) (by omega) (by omega) (by intro j z1 z3; rcases Nat.lt_or_ge j i with z | z; exact h3 j z z3; obtain rfl : j = i := (by omega); first | exact c20 z3.1 | exact c32 z3.2.1 | exact c45 z3.2.2.1 | exact xx_tf c67 z3.2.2.2) H locs ls hP hD hS (lv_sub hl [2, 3, 4, 5, 0] rfl)
        · have c20 : ew i = w := (nI_eq (by omega) (by omega)).mp c20
          refine lv_aload_n hx hb dX2_hasLike_23 rfl (lv_at hl 0 rfl) ?_
          refine va_get (D := D) (ci := 2) (v := .ref (oe 3)) (C := RX2) (T := TX2) (N := 7) hx hb hts hinW hown hK hP 0 rfl rfl 2 (by decide) (hts _ tw_63) (fun _ h9 => h9) rfl dX2_hasLike_24 ?_
          refine lv_iload hx hb dX2_hasLike_27 (lv_at hl 4 rfl) ?_
          refine xx_lald hx hb hK hP 3 2 rfl rfl (show i < 100 by omega) (by decide) dX2_hasLike_29 ?_
          refine lv_lload_n hx hb dX2_hasLike_30 rfl (lv_at hl 2 rfl) ?_
          refine W.lcmp hx hb dX2_hasLike_31 ?_
          refine lv_if_ne (tgt := 52) hx hb dX2_hasLike_32 (by decide) (fun c32 => ?_) (fun c32 => ?_)
          · have c32 : ¬ ((ea i) = a) := fun h => c32 ((lg_cmp_eq (ea i) a).mpr h)
            refine lv_iconst (v := (nI 0)) hx hb dX2_hasLike_52 (by decide) ?_
            refine lv_istore (lv' := [(7, .int (nI 0)), (0, .ref (oe 0)), (1, .int (nI w)), (2, .long a), (4, .long d), (6, .int (nI i))]) hx hb dX2_hasLike_53 hl (by decide) rfl (fun ls hl => ?_)
            refine lv_iload hx hb dX2_hasLike_55 (lv_at hl 0 rfl) ?_
            refine lv_if_eq (tgt := 72) hx hb dX2_hasLike_57 (by decide) (fun _ => ?_) (fun c => absurd c (by decide))
            refine lv_iinc (v := (nI (i + 1))) (lv' := [(6, .int (nI (i + 1))), (7, .int (nI 0)), (0, .ref (oe 0)), (1, .int (nI w)), (2, .long a), (4, .long d)]) hx hb dX2_hasLike_72 hl (k := 5) rfl (nI_1 i) (by decide) rfl (fun ls hl => ?_)
            refine lv_goto (tgt := 3) hx hb dX2_hasLike_75 (by decide) ?_
            exact ih3 (i + 1) (by omega) (by omega) (by intro j z1 z3; rcases Nat.lt_or_ge j i with z | z; exact h3 j z z3; obtain rfl : j = i := (by omega); first | exact c20 z3.1 | exact c32 z3.2.1 | exact c45 z3.2.2.1 | exact xx_tf c67 z3.2.2.2) H locs ls hP hD hS (lv_sub hl [2, 3, 4, 5, 0] rfl)
          · have c32 : (ea i) = a := (lg_cmp_eq (ea i) a).mp c32
            refine lv_aload_n hx hb dX2_hasLike_35 rfl (lv_at hl 0 rfl) ?_
            refine va_get (D := D) (ci := 2) (v := .ref (oe 4)) (C := RX2) (T := TX2) (N := 7) hx hb hts hinW hown hK hP 0 rfl rfl 3 (by decide) (hts _ tw_64) (fun _ h9 => h9) rfl dX2_hasLike_36 ?_
            refine lv_iload hx hb dX2_hasLike_39 (lv_at hl 4 rfl) ?_
            refine xx_lald hx hb hK hP 4 2 rfl rfl (show i < 100 by omega) (by decide) dX2_hasLike_41 ?_
            refine lv_lload hx hb dX2_hasLike_42 (lv_at hl 3 rfl) ?_
            refine W.lcmp hx hb dX2_hasLike_44 ?_
            refine lv_if_ne (tgt := 52) hx hb dX2_hasLike_45 (by decide) (fun c45 => ?_) (fun c45 => ?_)
            · have c45 : ¬ ((ed i) = d) := fun h => c45 ((lg_cmp_eq (ed i) d).mpr h)
              refine lv_iconst (v := (nI 0)) hx hb dX2_hasLike_52 (by decide) ?_
              refine lv_istore (lv' := [(7, .int (nI 0)), (0, .ref (oe 0)), (1, .int (nI w)), (2, .long a), (4, .long d), (6, .int (nI i))]) hx hb dX2_hasLike_53 hl (by decide) rfl (fun ls hl => ?_)
              refine lv_iload hx hb dX2_hasLike_55 (lv_at hl 0 rfl) ?_
              refine lv_if_eq (tgt := 72) hx hb dX2_hasLike_57 (by decide) (fun _ => ?_) (fun c => absurd c (by decide))
              refine lv_iinc (v := (nI (i + 1))) (lv' := [(6, .int (nI (i + 1))), (7, .int (nI 0)), (0, .ref (oe 0)), (1, .int (nI w)), (2, .long a), (4, .long d)]) hx hb dX2_hasLike_72 hl (k := 5) rfl (nI_1 i) (by decide) rfl (fun ls hl => ?_)
              refine lv_goto (tgt := 3) hx hb dX2_hasLike_75 (by decide) ?_
              exact ih3 (i + 1) (by omega) (by omega) (by intro j z1 z3; rcases Nat.lt_or_ge j i with z | z; exact h3 j z z3; obtain rfl : j = i := (by omega); first | exact c20 z3.1 | exact c32 z3.2.1 | exact c45 z3.2.2.1 | exact xx_tf c67 z3.2.2.2) H locs ls hP hD hS (lv_sub hl [2, 3, 4, 5, 0] rfl)
            · have c45 : (ed i) = d := (lg_cmp_eq (ed i) d).mp c45
              refine lv_iconst (v := (nI 1)) hx hb dX2_hasLike_48 (by decide) ?_
              refine lv_goto (tgt := 53) hx hb dX2_hasLike_49 (by decide) ?_
              refine lv_istore (lv' := [(7, .int (nI 1)), (0, .ref (oe 0)), (1, .int (nI w)), (2, .long a), (4, .long d), (6, .int (nI i))]) hx hb dX2_hasLike_53 hl (by decide) rfl (fun ls hl => ?_)
              refine lv_iload hx hb dX2_hasLike_55 (lv_at hl 0 rfl) ?_
              refine lv_if_eq (tgt := 72) hx hb dX2_hasLike_57 (by decide) (fun c => absurd c (by decide)) (fun _ => ?_)
              refine lv_aload_n hx hb dX2_hasLike_60 rfl (lv_at hl 1 rfl) ?_
              refine va_get (D := D) (ci := 2) (v := .ref (oe 6)) (C := RX2) (T := TX2) (N := 7) hx hb hts hinW hown hK hP 0 rfl rfl 5 (by decide) (hts _ tw_66) (fun _ h9 => h9) rfl dX2_hasLike_61 ?_
              refine lv_iload hx hb dX2_hasLike_64 (lv_at hl 5 rfl) ?_
              refine xx_zald hx hb hK hP 6 1 rfl rfl (show i < 100 by omega) (by decide) dX2_hasLike_66 ?_
              refine lv_if_ne (tgt := 72) hx hb dX2_hasLike_67 (by decide) (fun c67 => ?_) (fun c67 => ?_)
              · have c67 : ex i = true := bI_ne c67
                refine lv_iinc (v := (nI (i + 1))) (lv' := [(6, .int (nI (i + 1))), (7, .int (nI 1)), (0, .ref (oe 0)), (1, .int (nI w)), (2, .long a), (4, .long d)]) hx hb dX2_hasLike_72 hl (k := 5) rfl (nI_1 i) (by decide) rfl (fun ls hl => ?_)
                refine lv_goto (tgt := 3) hx hb dX2_hasLike_75 (by decide) ?_
                exact ih3 (i + 1) (by omega) (by omega) (by intro j z1 z3; rcases Nat.lt_or_ge j i with z | z; exact h3 j z z3; obtain rfl : j = i := (by omega); first | exact c20 z3.1 | exact c32 z3.2.1 | exact c45 z3.2.2.1 | exact xx_tf c67 z3.2.2.2) H locs ls hP hD hS (lv_sub hl [2, 3, 4, 5, 0] rfl)
              · have c67 : ex i = false := bI_eq c67
                refine lv_iconst (v := (nI 1)) hx hb dX2_hasLike_70 (by decide) ?_
                refine xx_zret () hx hb hr hlocks rfl hS hK hP hD dX2_hasLike_71 ?_
                exact xb_t ⟨i, c9, c20, c32, c45, c67⟩
  exact loop3 (ec + 1) 0 (by omega) (by omega) (by intro j z1; exact absurd z1 (by omega)) s.heap _ ls hP hD hS (lv_sub hl [1, 2, 3, 4, 0] rfl)
def p_E_drop (oe : Nat → Nat) (ec : Nat) (ew : Nat → Nat) (el : Nat → Int32) (ea : Nat → Int64) (ed : Nat → Int64) (et : Nat → Int64) (ex : Nat → Bool) (w : Nat) : Int32 → (Nat → Bool) → Prop := fun r u => r = nI (xcnt (fun j => decide (ew j = w) && !ex j) ec) ∧ u = xd_drop ew ex w ec
set_option maxHeartbeats 4000000 in
set_option maxRecDepth 100000 in
theorem c_E_drop (l : Launch) (D : va_G) (k : Nat → ClassId) (oe : Nat → Nat) (ec : Nat) (ew : Nat → Nat) (el : Nat → Int32) (ea : Nat → Int64) (ed : Nat → Int64) (et : Nat → Int64) (ex : Nat → Bool) (w : Nat) (hec : ec ≤ 100) (hew : ∀ i, ew i < 12) (hw : w < 12) : xx_Ci l yX2_dropAllOf (.code yX2_dropAllOf cX2_dropAllOf 4 (some .int) :: xall) ({ frames := 0, cells := 0, slots := 0, locals := 0 } : Room) D vwCl (xT k) [.ref (oe 0), .int (nI w)] (bE k oe ec ew el ea ed et ex) (p_E_drop oe ec ew el ea ed et ex w) (fun (u : Nat → Bool) => bE k oe ec ew el ea ed et u) 0 0 := by
  intro sz
  refine xx_met (Qf := fun A => va_Qi (p_E_drop oe ec ew el ea ed et ex w) (xx_B D vwCl (xT k) A (fun (u : Nat → Bool) => bE k oe ec ew el ea ed et u)) A) (cc := cX2_dropAllOf) (maxL := 4) (ret := (some .int)) (by decide) rfl (Nat.le_of_ble_eq_true rfl) ?_
  intro p e s m below meth c A ls hx hb hr hts hown hlocks hin hml hA hS hP hD hK hN hl
  have hl : lv_has ls 4 [(0, .ref (oe 0)), (1, .int (nI w))] := hl
  have hown : s.vm.findClass RX2 = some m.cls := hown
  have hinW := inX2
  refine lv_iconst (v := (nI 0)) hx hb dX2_dropAllOf_0 (by decide) ?_
  refine lv_istore_n (lv' := [(2, .int (nI 0)), (0, .ref (oe 0)), (1, .int (nI w))]) hx hb dX2_dropAllOf_1 rfl hl (by decide) rfl (fun ls hl => ?_)
  refine lv_iconst (v := (nI 0)) hx hb dX2_dropAllOf_2 (by decide) ?_
  refine lv_istore_n (lv' := [(3, .int (nI 0)), (2, .int (nI 0)), (0, .ref (oe 0)), (1, .int (nI w))]) hx hb dX2_dropAllOf_3 rfl hl (by decide) rfl (fun ls hl => ?_)
  have loop4 : ∀ (dd : Nat) (i : Nat) (mn : Nat) (f : Nat → Bool), ec + 1 ≤ i + dd → (i ≤ ec) → (f = xd_drop ew ex w i) → (mn = xcnt (fun j => decide (ew j = w) && !ex j) i) → ∀ (H : Heap) (locs : List Loc) (ls : Array Slot), va_P D vwCl (bE k oe ec ew el ea ed et f) H → va_D A (bE k oe ec ew el ea ed et f) → va_S A s.heap H locs → lv_has ls 4 [(0, .ref (oe 0)), (1, .int (nI w)), (2, .int (nI mn)), (3, .int (nI i))] → W p l e ({ frames := 0, cells := 0, slots := 0, locals := 0 } : Room) s m [.ref (oe 0), .int (nI w)].toArray below meth c H locs 0 0 (MQ below (va_Qi (p_E_drop oe ec ew el ea ed et ex w) (xx_B D vwCl (xT k) A (fun (u : Nat → Bool) => bE k oe ec ew el ea ed et u)) A) [.ref (oe 0), .int (nI w)].toArray s 0 0 A) (F0 m 4 ls []) := by
    intro dd
    induction dd with
    | zero =>
      intro i mn f hm h2 hf hm2
      exact absurd hm (by omega)
    | succ dd ih4 =>
      intro i mn f hm h2 hf hm2 H locs ls hP hD hS hl
      refine lv_iload_n hx hb dX2_dropAllOf_4 rfl (lv_at hl 3 rfl) ?_
      refine lv_aload_n hx hb dX2_dropAllOf_5 rfl (lv_at hl 0 rfl) ?_
      refine va_get (D := D) (ci := 2) (v := .int (nI ec)) (C := RX2) (T := TX2) (N := 7) hx hb hts hinW hown hK hP 0 rfl rfl 6 (by decide) (hts _ tw_67) (fun _ h9 => h9) rfl dX2_dropAllOf_6 ?_
      refine lv_icmp_ge (tgt := 47) hx hb dX2_dropAllOf_9 (by decide) (fun c9 => ?_) (fun c9 => ?_)
      · have c9 : ec ≤ i := (nI_leI (by omega) (by omega)).mp c9
        refine lv_iload_n hx hb dX2_dropAllOf_47 rfl (lv_at hl 2 rfl) ?_
        refine xx_iret f hx hb hr hlocks hS hK hP hD dX2_dropAllOf_48 ?_
        obtain rfl : i = ec := by omega
        exact ⟨by rw [hm2], hf⟩
      · have c9 : i < ec := Nat.lt_of_not_le (fun h => c9 ((nI_leI (by omega) (by omega)).mpr h))
        refine lv_aload_n hx hb dX2_dropAllOf_12 rfl (lv_at hl 0 rfl) ?_
        refine va_get (D := D) (ci := 2) (v := .ref (oe 1)) (C := RX2) (T := TX2) (N := 7) hx hb hts hinW hown hK hP 0 rfl rfl 0 (by decide) (hts _ tw_61) (fun _ h9 => h9) rfl dX2_dropAllOf_13 ?_
        refine lv_iload_n hx hb dX2_dropAllOf_16 rfl (lv_at hl 3 rfl) ?_
        refine xx_iald hx hb hK hP 1 0 rfl rfl (show i < 100 by omega) (by decide) dX2_dropAllOf_17 ?_
        refine lv_iload_n hx hb dX2_dropAllOf_18 rfl (lv_at hl 1 rfl) ?_
        have hwi := hew i
        refine lv_icmp_ne (tgt := 41) hx hb dX2_dropAllOf_19 (by decide) (fun c19 => ?_) (fun c19 => ?_)
        · have c19 : ¬ ew i = w := fun h => c19 ((nI_eq (by omega) (by omega)).mpr h)
          refine lv_iinc (v := (nI (i + 1))) (lv' := [(3, .int (nI (i + 1))), (0, .ref (oe 0)), (1, .int (nI w)), (2, .int (nI mn))]) hx hb dX2_dropAllOf_41 hl (k := 3) rfl (nI_1 i) (by decide) rfl (fun ls hl => ?_)
          refine lv_goto (tgt := 4) hx hb dX2_dropAllOf_44 (by decide) ?_
          exact ih4 (i + 1) mn f (by omega) (by omega) (by subst hf; first | exact (xd_skip c19).symm | exact (xd_skip2 ((xd_self ew ex w i).symm.trans c28)).symm | exact xd_put c19) (by subst hf; subst hm2; first | exact (xcnt_no1 c19).symm | exact (xcnt_no2 ((xd_self ew ex w i).symm.trans c28)).symm | exact (xcnt_yes2 c19 ((xd_self ew ex w i).symm.trans c28)).symm) H locs ls hP hD hS (lv_sub hl [1, 2, 3, 0] rfl)
        · have c19 : ew i = w := (nI_eq (by omega) (by omega)).mp c19
          refine lv_aload_n hx hb dX2_dropAllOf_22 rfl (lv_at hl 0 rfl) ?_
          refine va_get (D := D) (ci := 2) (v := .ref (oe 6)) (C := RX2) (T := TX2) (N := 7) hx hb hts hinW hown hK hP 0 rfl rfl 5 (by decide) (hts _ tw_66) (fun _ h9 => h9) rfl dX2_dropAllOf_23 ?_
          refine lv_iload_n hx hb dX2_dropAllOf_26 rfl (lv_at hl 3 rfl) ?_
          refine xx_zald hx hb hK hP 6 1 rfl rfl (show i < 100 by omega) (by decide) dX2_dropAllOf_27 ?_
          refine lv_if_ne (tgt := 41) hx hb dX2_dropAllOf_28 (by decide) (fun c28 => ?_) (fun c28 => ?_)
          · have c28 : f i = true := bI_ne c28
            refine lv_iinc (v := (nI (i + 1))) (lv' := [(3, .int (nI (i + 1))), (0, .ref (oe 0)), (1, .int (nI w)), (2, .int (nI mn))]) hx hb dX2_dropAllOf_41 hl (k := 3) rfl (nI_1 i) (by decide) rfl (fun ls hl => ?_)
            refine lv_goto (tgt := 4) hx hb dX2_dropAllOf_44 (by decide) ?_
            exact ih4 (i + 1) mn f (by omega) (by omega) (by subst hf; first | exact (xd_skip c19).symm | exact (xd_skip2 ((xd_self ew ex w i).symm.trans c28)).symm | exact xd_put c19) (by subst hf; subst hm2; first | exact (xcnt_no1 c19).symm | exact (xcnt_no2 ((xd_self ew ex w i).symm.trans c28)).symm | exact (xcnt_yes2 c19 ((xd_self ew ex w i).symm.trans c28)).symm) H locs ls hP hD hS (lv_sub hl [1, 2, 3, 0] rfl)
          · have c28 : f i = false := bI_eq c28
            refine lv_aload_n hx hb dX2_dropAllOf_31 rfl (lv_at hl 0 rfl) ?_
            refine va_get (D := D) (ci := 2) (v := .ref (oe 6)) (C := RX2) (T := TX2) (N := 7) hx hb hts hinW hown hK hP 0 rfl rfl 5 (by decide) (hts _ tw_66) (fun _ h9 => h9) rfl dX2_dropAllOf_32 ?_
            refine lv_iload_n hx hb dX2_dropAllOf_35 rfl (lv_at hl 3 rfl) ?_
            refine lv_iconst (v := (nI 1)) hx hb dX2_dropAllOf_36 (by decide) ?_
            refine xx_zast (g := (fun z9 => bI ((xu_B f i true) z9))) hx hb hK hP hD hS 6 1 rfl rfl (show i < 100 by omega) (by decide) (by decide) (xx_updB f i true) dX2_dropAllOf_37 (fun H locs hP hD hS => ?_)
            have hP : va_P D vwCl (bE k oe ec ew el ea ed et (xu_B f i true)) H := hP
            have hD : va_D A (bE k oe ec ew el ea ed et (xu_B f i true)) := hD
            refine lv_iinc (v := (nI (mn + 1))) (lv' := [(2, .int (nI (mn + 1))), (0, .ref (oe 0)), (1, .int (nI w)), (3, .int (nI i))]) hx hb dX2_dropAllOf_38 hl (k := 2) rfl (nI_1 mn) (by decide) rfl (fun ls hl => ?_)
            refine lv_iinc (v := (nI (i + 1))) (lv' := [(3, .int (nI (i + 1))), (2, .int (nI (mn + 1))), (0, .ref (oe 0)), (1, .int (nI w))]) hx hb dX2_dropAllOf_41 hl (k := 3) rfl (nI_1 i) (by decide) rfl (fun ls hl => ?_)
            refine lv_goto (tgt := 4) hx hb dX2_dropAllOf_44 (by decide) ?_
            exact ih4 (i + 1) (mn + 1) (xu_B f i true) (by omega) (by omega) (by subst hf; first | exact (xd_skip c19).symm | exact (xd_skip2 ((xd_self ew ex w i).symm.trans c28)).symm | exact xd_put c19) (by subst hf; subst hm2; first | exact (xcnt_no1 c19).symm | exact (xcnt_no2 ((xd_self ew ex w i).symm.trans c28)).symm | exact (xcnt_yes2 c19 ((xd_self ew ex w i).symm.trans c28)).symm) H locs ls hP hD hS (lv_sub hl [2, 3, 1, 0] rfl)
  exact loop4 (ec + 1) 0 0 ex (by omega) (by omega) (by exact (xd_zero ew ex w).symm) (by rfl) s.heap _ ls hP hD hS (lv_sub hl [2, 3, 1, 0] rfl)
def p_E_against (oe : Nat → Nat) (ec : Nat) (ew : Nat → Nat) (el : Nat → Int32) (ea : Nat → Int64) (ed : Nat → Int64) (et : Nat → Int64) (ex : Nat → Bool) (mm : Nat) : Int32 → Unit → Prop := fun r u => (r = (-1) ∧ ¬ ∃ i, i < mm ∧ (ex mm = false ∧ ¬ el mm = 0) ∧ (ea i = ea mm ∧ ¬ ed i = ed mm ∧ ex i = false ∧ ¬ el i = 0)) ∨ (∃ i, i < mm ∧ r = nI i ∧ (ex mm = false ∧ ¬ el mm = 0) ∧ (ea i = ea mm ∧ ¬ ed i = ed mm ∧ ex i = false ∧ ¬ el i = 0) ∧ ∀ j, j < i → ¬ (ea j = ea mm ∧ ¬ ed j = ed mm ∧ ex j = false ∧ ¬ el j = 0))
set_option maxHeartbeats 4000000 in
set_option maxRecDepth 100000 in
theorem c_E_against (l : Launch) (D : va_G) (k : Nat → ClassId) (oe : Nat → Nat) (ec : Nat) (ew : Nat → Nat) (el : Nat → Int32) (ea : Nat → Int64) (ed : Nat → Int64) (et : Nat → Int64) (ex : Nat → Bool) (mm : Nat) (hec : ec ≤ 100) (hm1 : mm < ec) : xx_Ci l yX2_firstAgainst (.code yX2_firstAgainst cX2_firstAgainst 4 (some .int) :: xall) ({ frames := 1, cells := 0, slots := 0, locals := 21 } : Room) D vwCl (xT k) [.ref (oe 0), .int (nI mm)] (bE k oe ec ew el ea ed et ex) (p_E_against oe ec ew el ea ed et ex mm) (fun (u : Unit) => bE k oe ec ew el ea ed et ex) 0 0 := by
  intro sz
  refine xx_met (Qf := fun A => va_Qi (p_E_against oe ec ew el ea ed et ex mm) (xx_B D vwCl (xT k) A (fun (u : Unit) => bE k oe ec ew el ea ed et ex)) A) (cc := cX2_firstAgainst) (maxL := 4) (ret := (some .int)) (by decide) rfl (Nat.le_of_ble_eq_true rfl) ?_
  intro p e s m below meth c A ls hx hb hr hts hown hlocks hin hml hA hS hP hD hK hN hl
  have hl : lv_has ls 4 [(0, .ref (oe 0)), (1, .int (nI mm))] := hl
  have hown : s.vm.findClass RX2 = some m.cls := hown
  have hinW := inX2
  refine lv_aload_n hx hb dX2_firstAgainst_0 rfl (lv_at hl 0 rfl) ?_
  refine lv_iload_n hx hb dX2_firstAgainst_1 rfl (lv_at hl 1 rfl) ?_
  refine xx_calli ([]) [0, 1, 2, 3, 4, 5, 6] [] (va_runV (As := [.int (nI mm)]) (rest := []) ⟨hx, hb, hml, hown, hts⟩ (c_E_stand l D k oe ec ew el ea ed et ex (nI mm) (by omega) s.heap.size) (cwV 1 hts (xx_gV tw_235 tw_236 tw_237 tw_4 tw_238) rfl rfl rfl (by decide +kernel) ⟨Nat.le_of_ble_eq_true rfl, Nat.le_of_ble_eq_true rfl⟩) (xx_preV hK hN hP hD [0, 1, 2, 3, 4, 5, 6] (by decide) rfl 2 0 rfl rfl) rfl rfl hl.1 rfl (lv_room (Nat.le_of_ble_eq_true rfl)) dX2_firstAgainst_2 ⟨Nat.le_of_ble_eq_true rfl, Nat.le_of_ble_eq_true rfl⟩) hP hD hS hA rfl rfl (by decide) (by decide) (fun r2 u2 H locs hw2 hP hD hS => ?_)
  rcases hw2 with ⟨rfl, j2, hj2, hx2, hb2⟩ | ⟨rfl, hq2⟩
  · have hx2 : mm = j2 := (nI_eq (by omega) (by omega)).mp hx2
    subst hx2
    have hP : va_P D vwCl (bE k oe ec ew el ea ed et ex) H := hP
    have hD : va_D A (bE k oe ec ew el ea ed et ex) := hD
    refine lv_if_eq (tgt := 17) hx hb dX2_firstAgainst_5 (by decide) (fun c => absurd c (by decide)) (fun _ => ?_)
    refine lv_aload_n hx hb dX2_firstAgainst_8 rfl (lv_at hl 0 rfl) ?_
    refine va_get (D := D) (ci := 2) (v := .ref (oe 2)) (C := RX2) (T := TX2) (N := 7) hx hb hts hinW hown hK hP 0 rfl rfl 1 (by decide) (hts _ tw_62) (fun _ h9 => h9) rfl dX2_firstAgainst_9 ?_
    refine lv_iload_n hx hb dX2_firstAgainst_12 rfl (lv_at hl 1 rfl) ?_
    refine xx_iald hx hb hK hP 2 0 rfl rfl (show mm < 100 by omega) (by decide) dX2_firstAgainst_13 ?_
    refine lv_if_ne (tgt := 19) hx hb dX2_firstAgainst_14 (by decide) (fun c14 => ?_) (fun c14 => ?_)
    · refine lv_iconst (v := (nI 0)) hx hb dX2_firstAgainst_19 (by decide) ?_
      refine lv_istore_n (lv' := [(2, .int (nI 0)), (0, .ref (oe 0)), (1, .int (nI mm))]) hx hb dX2_firstAgainst_20 rfl hl (by decide) rfl (fun ls hl => ?_)
      have loop21 : ∀ (dd : Nat) (i : Nat), mm + 1 ≤ i + dd → (i ≤ mm) → (∀ j, j < i → ¬ (ea j = ea mm ∧ ¬ ed j = ed mm ∧ ex j = false ∧ ¬ el j = 0)) → ∀ (H : Heap) (locs : List Loc) (ls : Array Slot), va_P D vwCl (bE k oe ec ew el ea ed et ex) H → va_D A (bE k oe ec ew el ea ed et ex) → va_S A s.heap H locs → lv_has ls 4 [(0, .ref (oe 0)), (1, .int (nI mm)), (2, .int (nI i))] → W p l e ({ frames := 1, cells := 0, slots := 0, locals := 21 } : Room) s m [.ref (oe 0), .int (nI mm)].toArray below meth c H locs 0 0 (MQ below (va_Qi (p_E_against oe ec ew el ea ed et ex mm) (xx_B D vwCl (xT k) A (fun (u : Unit) => bE k oe ec ew el ea ed et ex)) A) [.ref (oe 0), .int (nI mm)].toArray s 0 0 A) (F0 m 21 ls []) := by
        intro dd
        induction dd with
        | zero =>
          intro i hm h2 h3
          exact absurd hm (by omega)
        | succ dd ih21 =>
          intro i hm h2 h3 H locs ls hP hD hS hl
          refine lv_iload_n hx hb dX2_firstAgainst_21 rfl (lv_at hl 2 rfl) ?_
          refine lv_iload_n hx hb dX2_firstAgainst_22 rfl (lv_at hl 1 rfl) ?_
          refine lv_icmp_ge (tgt := 94) hx hb dX2_firstAgainst_23 (by decide) (fun c23 => ?_) (fun c23 => ?_)
          · have c23 : mm ≤ i := (nI_leI (by omega) (by omega)).mp c23
            refine lv_iconst (v := (-1)) hx hb dX2_firstAgainst_94 (by decide) ?_
            refine xx_iret () hx hb hr hlocks hS hK hP hD dX2_firstAgainst_95 ?_
            exact Or.inl ⟨rfl, fun ⟨j, z1, z2, z3⟩ => h3 j (by omega) z3⟩
          · have c23 : i < mm := Nat.lt_of_not_le (fun h => c23 ((nI_leI (by omega) (by omega)).mpr h))
            refine lv_aload_n hx hb dX2_firstAgainst_26 rfl (lv_at hl 0 rfl) ?_
            refine va_get (D := D) (ci := 2) (v := .ref (oe 3)) (C := RX2) (T := TX2) (N := 7) hx hb hts hinW hown hK hP 0 rfl rfl 2 (by decide) (hts _ tw_63) (fun _ h9 => h9) rfl dX2_firstAgainst_27 ?_
            refine lv_iload_n hx hb dX2_firstAgainst_30 rfl (lv_at hl 2 rfl) ?_
            refine xx_lald hx hb hK hP 3 2 rfl rfl (show i < 100 by omega) (by decide) dX2_firstAgainst_31 ?_
            refine lv_aload_n hx hb dX2_firstAgainst_32 rfl (lv_at hl 0 rfl) ?_
            refine va_get (D := D) (ci := 2) (v := .ref (oe 3)) (C := RX2) (T := TX2) (N := 7) hx hb hts hinW hown hK hP 0 rfl rfl 2 (by decide) (hts _ tw_63) (fun _ h9 => h9) rfl dX2_firstAgainst_33 ?_
            refine lv_iload_n hx hb dX2_firstAgainst_36 rfl (lv_at hl 1 rfl) ?_
            refine xx_lald hx hb hK hP 3 2 rfl rfl (show mm < 100 by omega) (by decide) dX2_firstAgainst_37 ?_
            refine W.lcmp hx hb dX2_firstAgainst_38 ?_
            refine lv_if_ne (tgt := 62) hx hb dX2_firstAgainst_39 (by decide) (fun c39 => ?_) (fun c39 => ?_)
            · have c39 : ¬ ((ea i) = (ea mm)) := fun h => c39 ((lg_cmp_eq (ea i) (ea mm)).mpr h)
              refine lv_iconst (v := (nI 0)) hx hb dX2_firstAgainst_62 (by decide) ?_
              refine lv_istore_n (lv' := [(3, .int (nI 0)), (0, .ref (oe 0)), (1, .int (nI mm)), (2, .int (nI i))]) hx hb dX2_firstAgainst_63 rfl hl (by decide) rfl (fun ls hl => ?_)
              refine lv_iload_n hx hb dX2_firstAgainst_64 rfl (lv_at hl 0 rfl) ?_
              refine lv_if_eq (tgt := 88) hx hb dX2_firstAgainst_65 (by decide) (fun _ => ?_) (fun c => absurd c (by decide))
              refine lv_iinc (v := (nI (i + 1))) (lv' := [(2, .int (nI (i + 1))), (3, .int (nI 0)), (0, .ref (oe 0)), (1, .int (nI mm))]) hx hb dX2_firstAgainst_88 hl (k := 3) rfl (nI_1 i) (by decide) rfl (fun ls hl => ?_)
              refine lv_goto (tgt := 21) hx hb dX2_firstAgainst_91 (by decide) ?_
              exact ih21 (i + 1) (by omega) (by omega) (by intro j z1 z3; rcases Nat.lt_or_ge j i with z | z; exact h3 j z z3; obtain rfl : j = i := (by omega); first | exact c39 z3.1 | exact z3.2.1 c55 | exact xx_tf c74 z3.2.2.1 | exact z3.2.2.2 c83) H locs ls hP hD hS (lv_sub hl [2, 3, 0] rfl)
            · have c39 : (ea i) = (ea mm) := (lg_cmp_eq (ea i) (ea mm)).mp c39
              refine lv_aload_n hx hb dX2_firstAgainst_42 rfl (lv_at hl 0 rfl) ?_
              refine va_get (D := D) (ci := 2) (v := .ref (oe 4)) (C := RX2) (T := TX2) (N := 7) hx hb hts hinW hown hK hP 0 rfl rfl 3 (by decide) (hts _ tw_64) (fun _ h9 => h9) rfl dX2_firstAgainst_43 ?_
              refine lv_iload_n hx hb dX2_firstAgainst_46 rfl (lv_at hl 2 rfl) ?_
              refine xx_lald hx hb hK hP 4 2 rfl rfl (show i < 100 by omega) (by decide) dX2_firstAgainst_47 ?_
              refine lv_aload_n hx hb dX2_firstAgainst_48 rfl (lv_at hl 0 rfl) ?_
              refine va_get (D := D) (ci := 2) (v := .ref (oe 4)) (C := RX2) (T := TX2) (N := 7) hx hb hts hinW hown hK hP 0 rfl rfl 3 (by decide) (hts _ tw_64) (fun _ h9 => h9) rfl dX2_firstAgainst_49 ?_
              refine lv_iload_n hx hb dX2_firstAgainst_52 rfl (lv_at hl 1 rfl) ?_
              refine xx_lald hx hb hK hP 4 2 rfl rfl (show mm < 100 by omega) (by decide) dX2_firstAgainst_53 ?_
              refine W.lcmp hx hb dX2_firstAgainst_54 ?_
              refine lv_if_eq (tgt := 62) hx hb dX2_firstAgainst_55 (by decide) (fun c55 => ?_) (fun c55 => ?_)
              · have c55 : (ed i) = (ed mm) := (lg_cmp_eq (ed i) (ed mm)).mp c55
                refine lv_iconst (v := (nI 0)) hx hb dX2_firstAgainst_62 (by decide) ?_
                refine lv_istore_n (lv' := [(3, .int (nI 0)), (0, .ref (oe 0)), (1, .int (nI mm)), (2, .int (nI i))]) hx hb dX2_firstAgainst_63 rfl hl (by decide) rfl (fun ls hl => ?_)
                refine lv_iload_n hx hb dX2_firstAgainst_64 rfl (lv_at hl 0 rfl) ?_
                refine lv_if_eq (tgt := 88) hx hb dX2_firstAgainst_65 (by decide) (fun _ => ?_) (fun c => absurd c (by decide))
                refine lv_iinc (v := (nI (i + 1))) (lv' := [(2, .int (nI (i + 1))), (3, .int (nI 0)), (0, .ref (oe 0)), (1, .int (nI mm))]) hx hb dX2_firstAgainst_88 hl (k := 3) rfl (nI_1 i) (by decide) rfl (fun ls hl => ?_)
                refine lv_goto (tgt := 21) hx hb dX2_firstAgainst_91 (by decide) ?_
                exact ih21 (i + 1) (by omega) (by omega) (by intro j z1 z3; rcases Nat.lt_or_ge j i with z | z; exact h3 j z z3; obtain rfl : j = i := (by omega); first | exact c39 z3.1 | exact z3.2.1 c55 | exact xx_tf c74 z3.2.2.1 | exact z3.2.2.2 c83) H locs ls hP hD hS (lv_sub hl [2, 3, 0] rfl)
              · have c55 : ¬ ((ed i) = (ed mm)) := fun h => c55 ((lg_cmp_eq (ed i) (ed mm)).mpr h)
                refine lv_iconst (v := (nI 1)) hx hb dX2_firstAgainst_58 (by decide) ?_
                refine lv_goto (tgt := 63) hx hb dX2_firstAgainst_59 (by decide) ?_
                refine lv_istore_n (lv' := [(3, .int (nI 1)), (0, .ref (oe 0)), (1, .int (nI mm)), (2, .int (nI i))]) hx hb dX2_firstAgainst_63 rfl hl (by decide) rfl (fun ls hl => ?_)
                refine lv_iload_n hx hb dX2_firstAgainst_64 rfl (lv_at hl 0 rfl) ?_
                refine lv_if_eq (tgt := 88) hx hb dX2_firstAgainst_65 (by decide) (fun c => absurd c (by decide)) (fun _ => ?_)
                refine lv_aload_n hx hb dX2_firstAgainst_68 rfl (lv_at hl 1 rfl) ?_
                refine va_get (D := D) (ci := 2) (v := .ref (oe 6)) (C := RX2) (T := TX2) (N := 7) hx hb hts hinW hown hK hP 0 rfl rfl 5 (by decide) (hts _ tw_66) (fun _ h9 => h9) rfl dX2_firstAgainst_69 ?_
                refine lv_iload_n hx hb dX2_firstAgainst_72 rfl (lv_at hl 3 rfl) ?_
                refine xx_zald hx hb hK hP 6 1 rfl rfl (show i < 100 by omega) (by decide) dX2_firstAgainst_73 ?_
                refine lv_if_ne (tgt := 88) hx hb dX2_firstAgainst_74 (by decide) (fun c74 => ?_) (fun c74 => ?_)
                · have c74 : ex i = true := bI_ne c74
                  refine lv_iinc (v := (nI (i + 1))) (lv' := [(2, .int (nI (i + 1))), (3, .int (nI 1)), (0, .ref (oe 0)), (1, .int (nI mm))]) hx hb dX2_firstAgainst_88 hl (k := 3) rfl (nI_1 i) (by decide) rfl (fun ls hl => ?_)
                  refine lv_goto (tgt := 21) hx hb dX2_firstAgainst_91 (by decide) ?_
                  exact ih21 (i + 1) (by omega) (by omega) (by intro j z1 z3; rcases Nat.lt_or_ge j i with z | z; exact h3 j z z3; obtain rfl : j = i := (by omega); first | exact c39 z3.1 | exact z3.2.1 c55 | exact xx_tf c74 z3.2.2.1 | exact z3.2.2.2 c83) H locs ls hP hD hS (lv_sub hl [2, 3, 0] rfl)
                · have c74 : ex i = false := bI_eq c74
                  refine lv_aload_n hx hb dX2_firstAgainst_77 rfl (lv_at hl 1 rfl) ?_
                  refine va_get (D := D) (ci := 2) (v := .ref (oe 2)) (C := RX2) (T := TX2) (N := 7) hx hb hts hinW hown hK hP 0 rfl rfl 1 (by decide) (hts _ tw_62) (fun _ h9 => h9) rfl dX2_firstAgainst_78 ?_
                  refine lv_iload_n hx hb dX2_firstAgainst_81 rfl (lv_at hl 3 rfl) ?_
                  refine xx_iald hx hb hK hP 2 0 rfl rfl (show i < 100 by omega) (by decide) dX2_firstAgainst_82 ?_
                  refine lv_if_eq (tgt := 88) hx hb dX2_firstAgainst_83 (by decide) (fun c83 => ?_) (fun c83 => ?_)
                  · refine lv_iinc (v := (nI (i + 1))) (lv' := [(2, .int (nI (i + 1))), (3, .int (nI 1)), (0, .ref (oe 0)), (1, .int (nI mm))]) hx hb dX2_firstAgainst_88 hl (k := 3) rfl (nI_1 i) (by decide) rfl (fun ls hl => ?_)
                    refine lv_goto (tgt := 21) hx hb dX2_firstAgainst_91 (by decide) ?_
                    exact ih21 (i + 1) (by omega) (by omega) (by intro j z1 z3; rcases Nat.lt_or_ge j i with z | z; exact h3 j z z3; obtain rfl : j = i := (by omega); first | exact c39 z3.1 | exact z3.2.1 c55 | exact xx_tf c74 z3.2.2.1 | exact z3.2.2.2 c83) H locs ls hP hD hS (lv_sub hl [2, 3, 0] rfl)
                  · refine lv_iload_n hx hb dX2_firstAgainst_86 rfl (lv_at hl 3 rfl) ?_
                    refine xx_iret () hx hb hr hlocks hS hK hP hD dX2_firstAgainst_87 ?_
                    exact Or.inr ⟨i, c23, rfl, ⟨hb2, c14⟩, ⟨c39, c55, c74, c83⟩, h3⟩
      exact loop21 (mm + 1) 0 (by omega) (by omega) (by intro j z1; exact absurd z1 (by omega)) H locs ls hP hD hS (lv_sub hl [1, 2, 0] rfl)
    · refine lv_iconst (v := (-1)) hx hb dX2_firstAgainst_17 (by decide) ?_
      refine xx_iret () hx hb hr hlocks hS hK hP hD dX2_firstAgainst_18 ?_
      first | exact Or.inl ⟨rfl, fun ⟨i, z1, z2, z3⟩ => hq2 ⟨mm, hm1, rfl, z2.1⟩⟩ | exact Or.inl ⟨rfl, fun ⟨i, z1, z2, z3⟩ => z2.2 c14⟩
  · have hP : va_P D vwCl (bE k oe ec ew el ea ed et ex) H := hP
    have hD : va_D A (bE k oe ec ew el ea ed et ex) := hD
    refine lv_if_eq (tgt := 17) hx hb dX2_firstAgainst_5 (by decide) (fun _ => ?_) (fun c => absurd c (by decide))
    refine lv_iconst (v := (-1)) hx hb dX2_firstAgainst_17 (by decide) ?_
    refine xx_iret () hx hb hr hlocks hS hK hP hD dX2_firstAgainst_18 ?_
    first | exact Or.inl ⟨rfl, fun ⟨i, z1, z2, z3⟩ => hq2 ⟨mm, hm1, rfl, z2.1⟩⟩ | exact Or.inl ⟨rfl, fun ⟨i, z1, z2, z3⟩ => z2.2 c14⟩
def p_E_counts (oe : Nat → Nat) (ec : Nat) (ew : Nat → Nat) (el : Nat → Int32) (ea : Nat → Int64) (ed : Nat → Int64) (et : Nat → Int64) (ex : Nat → Bool) (i : Nat) (a : Int64) (lv : Int32) (tm : Int64) : Int32 → Unit → Prop := fun r u => xb r (ex i = false ∧ ea i = a ∧ ¬ (el i < lv) ∧ ¬ (tm < et i))
set_option maxHeartbeats 4000000 in
set_option maxRecDepth 100000 in
theorem c_E_counts (l : Launch) (D : va_G) (k : Nat → ClassId) (oe : Nat → Nat) (ec : Nat) (ew : Nat → Nat) (el : Nat → Int32) (ea : Nat → Int64) (ed : Nat → Int64) (et : Nat → Int64) (ex : Nat → Bool) (i : Nat) (a : Int64) (lv : Int32) (tm : Int64) (hec : ec ≤ 100) (hi : i < ec) : xx_Ci l yX2_counts (.code yX2_counts cX2_counts 7 (some .boolean) :: xall) ({ frames := 1, cells := 0, slots := 0, locals := 21 } : Room) D vwCl (xT k) [.ref (oe 0), .int (nI i), .long a, .int lv, .long tm] (bE k oe ec ew el ea ed et ex) (p_E_counts oe ec ew el ea ed et ex i a lv tm) (fun (u : Unit) => bE k oe ec ew el ea ed et ex) 0 0 := by
  intro sz
  refine xx_met (Qf := fun A => va_Qi (p_E_counts oe ec ew el ea ed et ex i a lv tm) (xx_B D vwCl (xT k) A (fun (u : Unit) => bE k oe ec ew el ea ed et ex)) A) (cc := cX2_counts) (maxL := 7) (ret := (some .boolean)) (by decide) rfl (Nat.le_of_ble_eq_true rfl) ?_
  intro p e s m below meth c A ls hx hb hr hts hown hlocks hin hml hA hS hP hD hK hN hl
  have hl : lv_has ls 7 [(0, .ref (oe 0)), (1, .int (nI i)), (2, .long a), (4, .int lv), (5, .long tm)] := hl
  have hown : s.vm.findClass RX2 = some m.cls := hown
  have hinW := inX2
  refine lv_aload_n hx hb dX2_counts_0 rfl (lv_at hl 0 rfl) ?_
  refine lv_iload_n hx hb dX2_counts_1 rfl (lv_at hl 1 rfl) ?_
  refine xx_calli ([]) [0, 1, 2, 3, 4, 5, 6] [] (va_runV (As := [.int (nI i)]) (rest := []) ⟨hx, hb, hml, hown, hts⟩ (c_E_stand l D k oe ec ew el ea ed et ex (nI i) (by omega) s.heap.size) (cwV 1 hts (xx_gV tw_235 tw_236 tw_237 tw_4 tw_238) rfl rfl rfl (by decide +kernel) ⟨Nat.le_of_ble_eq_true rfl, Nat.le_of_ble_eq_true rfl⟩) (xx_preV hK hN hP hD [0, 1, 2, 3, 4, 5, 6] (by decide) rfl 2 0 rfl rfl) rfl rfl hl.1 rfl (lv_room (Nat.le_of_ble_eq_true rfl)) dX2_counts_2 ⟨Nat.le_of_ble_eq_true rfl, Nat.le_of_ble_eq_true rfl⟩) hP hD hS hA rfl rfl (by decide) (by decide) (fun r2 u2 H locs hw2 hP hD hS => ?_)
  rcases hw2 with ⟨rfl, j2, hj2, hx2, hb2⟩ | ⟨rfl, hq2⟩
  · have hx2 : i = j2 := (nI_eq (by omega) (by omega)).mp hx2
    subst hx2
    have hP : va_P D vwCl (bE k oe ec ew el ea ed et ex) H := hP
    have hD : va_D A (bE k oe ec ew el ea ed et ex) := hD
    refine lv_if_eq (tgt := 46) hx hb dX2_counts_5 (by decide) (fun c => absurd c (by decide)) (fun _ => ?_)
    refine lv_aload_n hx hb dX2_counts_8 rfl (lv_at hl 0 rfl) ?_
    refine va_get (D := D) (ci := 2) (v := .ref (oe 3)) (C := RX2) (T := TX2) (N := 7) hx hb hts hinW hown hK hP 0 rfl rfl 2 (by decide) (hts _ tw_63) (fun _ h9 => h9) rfl dX2_counts_9 ?_
    refine lv_iload_n hx hb dX2_counts_12 rfl (lv_at hl 1 rfl) ?_
    refine xx_lald hx hb hK hP 3 2 rfl rfl (show i < 100 by omega) (by decide) dX2_counts_13 ?_
    refine lv_lload_n hx hb dX2_counts_14 rfl (lv_at hl 2 rfl) ?_
    refine W.lcmp hx hb dX2_counts_15 ?_
    refine lv_if_ne (tgt := 46) hx hb dX2_counts_16 (by decide) (fun c16 => ?_) (fun c16 => ?_)
    · have c16 : ¬ ((ea i) = a) := fun h => c16 ((lg_cmp_eq (ea i) a).mpr h)
      refine lv_iconst (v := (nI 0)) hx hb dX2_counts_46 (by decide) ?_
      refine xx_zret () hx hb hr hlocks rfl hS hK hP hD dX2_counts_47 ?_
      first | exact xb_f (fun h => hq2 ⟨i, hi, rfl, h.1⟩) | exact xb_f (fun h => c16 h.2.1) | exact xb_f (fun h => h.2.2.1 c27) | exact xb_f (fun h => h.2.2.2 c39) | exact xb_t ⟨hb2, c16, c27, c39⟩
    · have c16 : (ea i) = a := (lg_cmp_eq (ea i) a).mp c16
      refine lv_aload_n hx hb dX2_counts_19 rfl (lv_at hl 0 rfl) ?_
      refine va_get (D := D) (ci := 2) (v := .ref (oe 2)) (C := RX2) (T := TX2) (N := 7) hx hb hts hinW hown hK hP 0 rfl rfl 1 (by decide) (hts _ tw_62) (fun _ h9 => h9) rfl dX2_counts_20 ?_
      refine lv_iload_n hx hb dX2_counts_23 rfl (lv_at hl 1 rfl) ?_
      refine xx_iald hx hb hK hP 2 0 rfl rfl (show i < 100 by omega) (by decide) dX2_counts_24 ?_
      refine lv_iload hx hb dX2_counts_25 (lv_at hl 3 rfl) ?_
      refine lv_icmp_lt (tgt := 46) hx hb dX2_counts_27 (by decide) (fun c27 => ?_) (fun c27 => ?_)
      · refine lv_iconst (v := (nI 0)) hx hb dX2_counts_46 (by decide) ?_
        refine xx_zret () hx hb hr hlocks rfl hS hK hP hD dX2_counts_47 ?_
        first | exact xb_f (fun h => hq2 ⟨i, hi, rfl, h.1⟩) | exact xb_f (fun h => c16 h.2.1) | exact xb_f (fun h => h.2.2.1 c27) | exact xb_f (fun h => h.2.2.2 c39) | exact xb_t ⟨hb2, c16, c27, c39⟩
      · refine lv_aload_n hx hb dX2_counts_30 rfl (lv_at hl 0 rfl) ?_
        refine va_get (D := D) (ci := 2) (v := .ref (oe 5)) (C := RX2) (T := TX2) (N := 7) hx hb hts hinW hown hK hP 0 rfl rfl 4 (by decide) (hts _ tw_65) (fun _ h9 => h9) rfl dX2_counts_31 ?_
        refine lv_iload_n hx hb dX2_counts_34 rfl (lv_at hl 1 rfl) ?_
        refine xx_lald hx hb hK hP 5 2 rfl rfl (show i < 100 by omega) (by decide) dX2_counts_35 ?_
        refine lv_lload hx hb dX2_counts_36 (lv_at hl 4 rfl) ?_
        refine W.lcmp hx hb dX2_counts_38 ?_
        refine lv_if_gt (tgt := 46) hx hb dX2_counts_39 (by decide) (fun c39 => ?_) (fun c39 => ?_)
        · have c39 : tm < (et i) := (lg_cmp_gt (et i) tm).mp c39
          refine lv_iconst (v := (nI 0)) hx hb dX2_counts_46 (by decide) ?_
          refine xx_zret () hx hb hr hlocks rfl hS hK hP hD dX2_counts_47 ?_
          first | exact xb_f (fun h => hq2 ⟨i, hi, rfl, h.1⟩) | exact xb_f (fun h => c16 h.2.1) | exact xb_f (fun h => h.2.2.1 c27) | exact xb_f (fun h => h.2.2.2 c39) | exact xb_t ⟨hb2, c16, c27, c39⟩
        · have c39 : ¬ (tm < (et i)) := fun h => c39 ((lg_cmp_gt (et i) tm).mpr h)
          refine lv_iconst (v := (nI 1)) hx hb dX2_counts_42 (by decide) ?_
          refine lv_goto (tgt := 47) hx hb dX2_counts_43 (by decide) ?_
          refine xx_zret () hx hb hr hlocks rfl hS hK hP hD dX2_counts_47 ?_
          first | exact xb_f (fun h => hq2 ⟨i, hi, rfl, h.1⟩) | exact xb_f (fun h => c16 h.2.1) | exact xb_f (fun h => h.2.2.1 c27) | exact xb_f (fun h => h.2.2.2 c39) | exact xb_t ⟨hb2, c16, c27, c39⟩
  · have hP : va_P D vwCl (bE k oe ec ew el ea ed et ex) H := hP
    have hD : va_D A (bE k oe ec ew el ea ed et ex) := hD
    refine lv_if_eq (tgt := 46) hx hb dX2_counts_5 (by decide) (fun _ => ?_) (fun c => absurd c (by decide))
    refine lv_iconst (v := (nI 0)) hx hb dX2_counts_46 (by decide) ?_
    refine xx_zret () hx hb hr hlocks rfl hS hK hP hD dX2_counts_47 ?_
    first | exact xb_f (fun h => hq2 ⟨i, hi, rfl, h.1⟩) | exact xb_f (fun h => c16 h.2.1) | exact xb_f (fun h => h.2.2.1 c27) | exact xb_f (fun h => h.2.2.2 c39) | exact xb_t ⟨hb2, c16, c27, c39⟩
end
section
theorem dX2_latestOwn_0 : decode cX2_latestOwn 0 = .ok (.iconst (-1), 1) := by decide +kernel
theorem dX2_latestOwn_1 : decode cX2_latestOwn 1 = .ok (.istore 5, 2) := by decide +kernel
theorem dX2_latestOwn_3 : decode cX2_latestOwn 3 = .ok (.lconst 0, 1) := by decide +kernel
theorem dX2_latestOwn_4 : decode cX2_latestOwn 4 = .ok (.lstore 6, 2) := by decide +kernel
theorem dX2_latestOwn_6 : decode cX2_latestOwn 6 = .ok (.iconst 0, 1) := by decide +kernel
theorem dX2_latestOwn_7 : decode cX2_latestOwn 7 = .ok (.istore 8, 2) := by decide +kernel
theorem dX2_latestOwn_9 : decode cX2_latestOwn 9 = .ok (.iload 8, 2) := by decide +kernel
theorem dX2_latestOwn_11 : decode cX2_latestOwn 11 = .ok (.aload_n 0, 1) := by decide +kernel
theorem dX2_latestOwn_12 : decode cX2_latestOwn 12 = .ok (.getfield 32, 3) := by decide +kernel
theorem dX2_latestOwn_15 : decode cX2_latestOwn 15 = .ok (.if_icmp .ge 75, 3) := by decide +kernel
theorem dX2_latestOwn_18 : decode cX2_latestOwn 18 = .ok (.aload_n 0, 1) := by decide +kernel
theorem dX2_latestOwn_19 : decode cX2_latestOwn 19 = .ok (.getfield 15, 3) := by decide +kernel
theorem dX2_latestOwn_22 : decode cX2_latestOwn 22 = .ok (.iload 8, 2) := by decide +kernel
theorem dX2_latestOwn_24 : decode cX2_latestOwn 24 = .ok (.iaload, 1) := by decide +kernel
theorem dX2_latestOwn_25 : decode cX2_latestOwn 25 = .ok (.ifCond .ne 19, 3) := by decide +kernel
theorem dX2_latestOwn_28 : decode cX2_latestOwn 28 = .ok (.aload_n 0, 1) := by decide +kernel
theorem dX2_latestOwn_29 : decode cX2_latestOwn 29 = .ok (.iload 8, 2) := by decide +kernel
theorem dX2_latestOwn_31 : decode cX2_latestOwn 31 = .ok (.lload_n 1, 1) := by decide +kernel
theorem dX2_latestOwn_32 : decode cX2_latestOwn 32 = .ok (.iconst 0, 1) := by decide +kernel
theorem dX2_latestOwn_33 : decode cX2_latestOwn 33 = .ok (.lload_n 3, 1) := by decide +kernel
theorem dX2_latestOwn_34 : decode cX2_latestOwn 34 = .ok (.invokevirtual 40, 3) := by decide +kernel
theorem dX2_latestOwn_37 : decode cX2_latestOwn 37 = .ok (.ifCond .eq 7, 3) := by decide +kernel
theorem dX2_latestOwn_40 : decode cX2_latestOwn 40 = .ok (.iconst 1, 1) := by decide +kernel
theorem dX2_latestOwn_41 : decode cX2_latestOwn 41 = .ok (.goto 4, 3) := by decide +kernel
theorem dX2_latestOwn_44 : decode cX2_latestOwn 44 = .ok (.iconst 0, 1) := by decide +kernel
theorem dX2_latestOwn_45 : decode cX2_latestOwn 45 = .ok (.istore 9, 2) := by decide +kernel
theorem dX2_latestOwn_47 : decode cX2_latestOwn 47 = .ok (.iload 9, 2) := by decide +kernel
theorem dX2_latestOwn_49 : decode cX2_latestOwn 49 = .ok (.ifCond .eq 35, 3) := by decide +kernel
theorem dX2_latestOwn_52 : decode cX2_latestOwn 52 = .ok (.iload 5, 2) := by decide +kernel
theorem dX2_latestOwn_54 : decode cX2_latestOwn 54 = .ok (.iconst (-1), 1) := by decide +kernel
theorem dX2_latestOwn_55 : decode cX2_latestOwn 55 = .ok (.if_icmp .eq 16, 3) := by decide +kernel
theorem dX2_latestOwn_58 : decode cX2_latestOwn 58 = .ok (.aload_n 0, 1) := by decide +kernel
theorem dX2_latestOwn_59 : decode cX2_latestOwn 59 = .ok (.getfield 25, 3) := by decide +kernel
theorem dX2_latestOwn_62 : decode cX2_latestOwn 62 = .ok (.iload 8, 2) := by decide +kernel
theorem dX2_latestOwn_64 : decode cX2_latestOwn 64 = .ok (.laload, 1) := by decide +kernel
theorem dX2_latestOwn_65 : decode cX2_latestOwn 65 = .ok (.lload 6, 2) := by decide +kernel
theorem dX2_latestOwn_67 : decode cX2_latestOwn 67 = .ok (.lcmp, 1) := by decide +kernel
theorem dX2_latestOwn_68 : decode cX2_latestOwn 68 = .ok (.ifCond .lt 16, 3) := by decide +kernel
theorem dX2_latestOwn_71 : decode cX2_latestOwn 71 = .ok (.iload 8, 2) := by decide +kernel
theorem dX2_latestOwn_73 : decode cX2_latestOwn 73 = .ok (.istore 5, 2) := by decide +kernel
theorem dX2_latestOwn_75 : decode cX2_latestOwn 75 = .ok (.aload_n 0, 1) := by decide +kernel
theorem dX2_latestOwn_76 : decode cX2_latestOwn 76 = .ok (.getfield 25, 3) := by decide +kernel
theorem dX2_latestOwn_79 : decode cX2_latestOwn 79 = .ok (.iload 8, 2) := by decide +kernel
theorem dX2_latestOwn_81 : decode cX2_latestOwn 81 = .ok (.laload, 1) := by decide +kernel
theorem dX2_latestOwn_82 : decode cX2_latestOwn 82 = .ok (.lstore 6, 2) := by decide +kernel
theorem dX2_latestOwn_84 : decode cX2_latestOwn 84 = .ok (.iinc 8 1, 3) := by decide +kernel
theorem dX2_latestOwn_87 : decode cX2_latestOwn 87 = .ok (.goto (-78), 3) := by decide +kernel
theorem dX2_latestOwn_90 : decode cX2_latestOwn 90 = .ok (.iload 5, 2) := by decide +kernel
theorem dX2_latestOwn_92 : decode cX2_latestOwn 92 = .ok (.ireturn, 1) := by decide +kernel
theorem dX2_firstCounting_0 : decode cX2_firstCounting 0 = .ok (.iconst 0, 1) := by decide +kernel
theorem dX2_firstCounting_1 : decode cX2_firstCounting 1 = .ok (.istore 6, 2) := by decide +kernel
theorem dX2_firstCounting_3 : decode cX2_firstCounting 3 = .ok (.iload 6, 2) := by decide +kernel
theorem dX2_firstCounting_5 : decode cX2_firstCounting 5 = .ok (.aload_n 0, 1) := by decide +kernel
theorem dX2_firstCounting_6 : decode cX2_firstCounting 6 = .ok (.getfield 32, 3) := by decide +kernel
theorem dX2_firstCounting_9 : decode cX2_firstCounting 9 = .ok (.if_icmp .ge 25, 3) := by decide +kernel
theorem dX2_firstCounting_12 : decode cX2_firstCounting 12 = .ok (.aload_n 0, 1) := by decide +kernel
theorem dX2_firstCounting_13 : decode cX2_firstCounting 13 = .ok (.iload 6, 2) := by decide +kernel
theorem dX2_firstCounting_15 : decode cX2_firstCounting 15 = .ok (.lload_n 1, 1) := by decide +kernel
theorem dX2_firstCounting_16 : decode cX2_firstCounting 16 = .ok (.iload_n 3, 1) := by decide +kernel
theorem dX2_firstCounting_17 : decode cX2_firstCounting 17 = .ok (.lload 4, 2) := by decide +kernel
theorem dX2_firstCounting_19 : decode cX2_firstCounting 19 = .ok (.invokevirtual 40, 3) := by decide +kernel
theorem dX2_firstCounting_22 : decode cX2_firstCounting 22 = .ok (.ifCond .eq 6, 3) := by decide +kernel
theorem dX2_firstCounting_25 : decode cX2_firstCounting 25 = .ok (.iload 6, 2) := by decide +kernel
theorem dX2_firstCounting_27 : decode cX2_firstCounting 27 = .ok (.ireturn, 1) := by decide +kernel
theorem dX2_firstCounting_28 : decode cX2_firstCounting 28 = .ok (.iinc 6 1, 3) := by decide +kernel
theorem dX2_firstCounting_31 : decode cX2_firstCounting 31 = .ok (.goto (-28), 3) := by decide +kernel
theorem dX2_firstCounting_34 : decode cX2_firstCounting 34 = .ok (.iconst (-1), 1) := by decide +kernel
theorem dX2_firstCounting_35 : decode cX2_firstCounting 35 = .ok (.ireturn, 1) := by decide +kernel
theorem dX2_tellOneDigest_0 : decode cX2_tellOneDigest 0 = .ok (.aload_n 0, 1) := by decide +kernel
theorem dX2_tellOneDigest_1 : decode cX2_tellOneDigest 1 = .ok (.aload_n 0, 1) := by decide +kernel
theorem dX2_tellOneDigest_2 : decode cX2_tellOneDigest 2 = .ok (.lload_n 1, 1) := by decide +kernel
theorem dX2_tellOneDigest_3 : decode cX2_tellOneDigest 3 = .ok (.iload_n 3, 1) := by decide +kernel
theorem dX2_tellOneDigest_4 : decode cX2_tellOneDigest 4 = .ok (.lload 4, 2) := by decide +kernel
theorem dX2_tellOneDigest_6 : decode cX2_tellOneDigest 6 = .ok (.invokevirtual 50, 3) := by decide +kernel
theorem dX2_tellOneDigest_9 : decode cX2_tellOneDigest 9 = .ok (.invokevirtual 54, 3) := by decide +kernel
theorem dX2_tellOneDigest_12 : decode cX2_tellOneDigest 12 = .ok (.lstore 6, 2) := by decide +kernel
theorem dX2_tellOneDigest_14 : decode cX2_tellOneDigest 14 = .ok (.iconst 0, 1) := by decide +kernel
theorem dX2_tellOneDigest_15 : decode cX2_tellOneDigest 15 = .ok (.istore 8, 2) := by decide +kernel
theorem dX2_tellOneDigest_17 : decode cX2_tellOneDigest 17 = .ok (.iload 8, 2) := by decide +kernel
theorem dX2_tellOneDigest_19 : decode cX2_tellOneDigest 19 = .ok (.aload_n 0, 1) := by decide +kernel
theorem dX2_tellOneDigest_20 : decode cX2_tellOneDigest 20 = .ok (.getfield 32, 3) := by decide +kernel
theorem dX2_tellOneDigest_23 : decode cX2_tellOneDigest 23 = .ok (.if_icmp .ge 37, 3) := by decide +kernel
theorem dX2_tellOneDigest_26 : decode cX2_tellOneDigest 26 = .ok (.aload_n 0, 1) := by decide +kernel
theorem dX2_tellOneDigest_27 : decode cX2_tellOneDigest 27 = .ok (.iload 8, 2) := by decide +kernel
theorem dX2_tellOneDigest_29 : decode cX2_tellOneDigest 29 = .ok (.lload_n 1, 1) := by decide +kernel
theorem dX2_tellOneDigest_30 : decode cX2_tellOneDigest 30 = .ok (.iload_n 3, 1) := by decide +kernel
theorem dX2_tellOneDigest_31 : decode cX2_tellOneDigest 31 = .ok (.lload 4, 2) := by decide +kernel
theorem dX2_tellOneDigest_33 : decode cX2_tellOneDigest 33 = .ok (.invokevirtual 40, 3) := by decide +kernel
theorem dX2_tellOneDigest_36 : decode cX2_tellOneDigest 36 = .ok (.ifCond .eq 18, 3) := by decide +kernel
theorem dX2_tellOneDigest_39 : decode cX2_tellOneDigest 39 = .ok (.aload_n 0, 1) := by decide +kernel
theorem dX2_tellOneDigest_40 : decode cX2_tellOneDigest 40 = .ok (.getfield 22, 3) := by decide +kernel
theorem dX2_tellOneDigest_43 : decode cX2_tellOneDigest 43 = .ok (.iload 8, 2) := by decide +kernel
theorem dX2_tellOneDigest_45 : decode cX2_tellOneDigest 45 = .ok (.laload, 1) := by decide +kernel
theorem dX2_tellOneDigest_46 : decode cX2_tellOneDigest 46 = .ok (.lload 6, 2) := by decide +kernel
theorem dX2_tellOneDigest_48 : decode cX2_tellOneDigest 48 = .ok (.lcmp, 1) := by decide +kernel
theorem dX2_tellOneDigest_49 : decode cX2_tellOneDigest 49 = .ok (.ifCond .eq 5, 3) := by decide +kernel
theorem dX2_tellOneDigest_52 : decode cX2_tellOneDigest 52 = .ok (.iconst 0, 1) := by decide +kernel
theorem dX2_tellOneDigest_53 : decode cX2_tellOneDigest 53 = .ok (.ireturn, 1) := by decide +kernel
theorem dX2_tellOneDigest_54 : decode cX2_tellOneDigest 54 = .ok (.iinc 8 1, 3) := by decide +kernel
theorem dX2_tellOneDigest_57 : decode cX2_tellOneDigest 57 = .ok (.goto (-40), 3) := by decide +kernel
theorem dX2_tellOneDigest_60 : decode cX2_tellOneDigest 60 = .ok (.iconst 1, 1) := by decide +kernel
theorem dX2_tellOneDigest_61 : decode cX2_tellOneDigest 61 = .ok (.ireturn, 1) := by decide +kernel
theorem dJI_bitCount_0 : decode cJI_bitCount 0 = .ok (.iload_n 0, 1) := by decide +kernel
theorem dJI_bitCount_1 : decode cJI_bitCount 1 = .ok (.iload_n 0, 1) := by decide +kernel
theorem dJI_bitCount_2 : decode cJI_bitCount 2 = .ok (.iconst 1, 1) := by decide +kernel
theorem dJI_bitCount_3 : decode cJI_bitCount 3 = .ok (.iushr, 1) := by decide +kernel
theorem dJI_bitCount_4 : decode cJI_bitCount 4 = .ok (.ldc_w 265, 3) := by decide +kernel
theorem dJI_bitCount_7 : decode cJI_bitCount 7 = .ok (.iand, 1) := by decide +kernel
theorem dJI_bitCount_8 : decode cJI_bitCount 8 = .ok (.isub, 1) := by decide +kernel
theorem dJI_bitCount_9 : decode cJI_bitCount 9 = .ok (.istore_n 0, 1) := by decide +kernel
theorem dJI_bitCount_10 : decode cJI_bitCount 10 = .ok (.iload_n 0, 1) := by decide +kernel
theorem dJI_bitCount_11 : decode cJI_bitCount 11 = .ok (.ldc_w 266, 3) := by decide +kernel
theorem dJI_bitCount_14 : decode cJI_bitCount 14 = .ok (.iand, 1) := by decide +kernel
theorem dJI_bitCount_15 : decode cJI_bitCount 15 = .ok (.iload_n 0, 1) := by decide +kernel
theorem dJI_bitCount_16 : decode cJI_bitCount 16 = .ok (.iconst 2, 1) := by decide +kernel
theorem dJI_bitCount_17 : decode cJI_bitCount 17 = .ok (.iushr, 1) := by decide +kernel
theorem dJI_bitCount_18 : decode cJI_bitCount 18 = .ok (.ldc_w 266, 3) := by decide +kernel
theorem dJI_bitCount_21 : decode cJI_bitCount 21 = .ok (.iand, 1) := by decide +kernel
theorem dJI_bitCount_22 : decode cJI_bitCount 22 = .ok (.iadd, 1) := by decide +kernel
theorem dJI_bitCount_23 : decode cJI_bitCount 23 = .ok (.istore_n 0, 1) := by decide +kernel
theorem dJI_bitCount_24 : decode cJI_bitCount 24 = .ok (.iload_n 0, 1) := by decide +kernel
theorem dJI_bitCount_25 : decode cJI_bitCount 25 = .ok (.iload_n 0, 1) := by decide +kernel
theorem dJI_bitCount_26 : decode cJI_bitCount 26 = .ok (.iconst 4, 1) := by decide +kernel
theorem dJI_bitCount_27 : decode cJI_bitCount 27 = .ok (.iushr, 1) := by decide +kernel
theorem dJI_bitCount_28 : decode cJI_bitCount 28 = .ok (.iadd, 1) := by decide +kernel
theorem dJI_bitCount_29 : decode cJI_bitCount 29 = .ok (.ldc_w 267, 3) := by decide +kernel
theorem dJI_bitCount_32 : decode cJI_bitCount 32 = .ok (.iand, 1) := by decide +kernel
theorem dJI_bitCount_33 : decode cJI_bitCount 33 = .ok (.istore_n 0, 1) := by decide +kernel
theorem dJI_bitCount_34 : decode cJI_bitCount 34 = .ok (.iload_n 0, 1) := by decide +kernel
theorem dJI_bitCount_35 : decode cJI_bitCount 35 = .ok (.iload_n 0, 1) := by decide +kernel
theorem dJI_bitCount_36 : decode cJI_bitCount 36 = .ok (.bipush 8, 2) := by decide +kernel
theorem dJI_bitCount_38 : decode cJI_bitCount 38 = .ok (.iushr, 1) := by decide +kernel
theorem dJI_bitCount_39 : decode cJI_bitCount 39 = .ok (.iadd, 1) := by decide +kernel
theorem dJI_bitCount_40 : decode cJI_bitCount 40 = .ok (.istore_n 0, 1) := by decide +kernel
theorem dJI_bitCount_41 : decode cJI_bitCount 41 = .ok (.iload_n 0, 1) := by decide +kernel
theorem dJI_bitCount_42 : decode cJI_bitCount 42 = .ok (.iload_n 0, 1) := by decide +kernel
theorem dJI_bitCount_43 : decode cJI_bitCount 43 = .ok (.bipush 16, 2) := by decide +kernel
theorem dJI_bitCount_45 : decode cJI_bitCount 45 = .ok (.iushr, 1) := by decide +kernel
theorem dJI_bitCount_46 : decode cJI_bitCount 46 = .ok (.iadd, 1) := by decide +kernel
theorem dJI_bitCount_47 : decode cJI_bitCount 47 = .ok (.istore_n 0, 1) := by decide +kernel
theorem dJI_bitCount_48 : decode cJI_bitCount 48 = .ok (.iload_n 0, 1) := by decide +kernel
theorem dJI_bitCount_49 : decode cJI_bitCount 49 = .ok (.bipush 63, 2) := by decide +kernel
theorem dJI_bitCount_51 : decode cJI_bitCount 51 = .ok (.iand, 1) := by decide +kernel
theorem dJI_bitCount_52 : decode cJI_bitCount 52 = .ok (.ireturn, 1) := by decide +kernel
theorem dX2_countWriters_0 : decode cX2_countWriters 0 = .ok (.iconst 0, 1) := by decide +kernel
theorem dX2_countWriters_1 : decode cX2_countWriters 1 = .ok (.istore 6, 2) := by decide +kernel
theorem dX2_countWriters_3 : decode cX2_countWriters 3 = .ok (.iconst 0, 1) := by decide +kernel
theorem dX2_countWriters_4 : decode cX2_countWriters 4 = .ok (.istore 7, 2) := by decide +kernel
theorem dX2_countWriters_6 : decode cX2_countWriters 6 = .ok (.iload 7, 2) := by decide +kernel
theorem dX2_countWriters_8 : decode cX2_countWriters 8 = .ok (.aload_n 0, 1) := by decide +kernel
theorem dX2_countWriters_9 : decode cX2_countWriters 9 = .ok (.getfield 32, 3) := by decide +kernel
theorem dX2_countWriters_12 : decode cX2_countWriters 12 = .ok (.if_icmp .ge 36, 3) := by decide +kernel
theorem dX2_countWriters_15 : decode cX2_countWriters 15 = .ok (.aload_n 0, 1) := by decide +kernel
theorem dX2_countWriters_16 : decode cX2_countWriters 16 = .ok (.iload 7, 2) := by decide +kernel
theorem dX2_countWriters_18 : decode cX2_countWriters 18 = .ok (.lload_n 1, 1) := by decide +kernel
theorem dX2_countWriters_19 : decode cX2_countWriters 19 = .ok (.iload_n 3, 1) := by decide +kernel
theorem dX2_countWriters_20 : decode cX2_countWriters 20 = .ok (.lload 4, 2) := by decide +kernel
theorem dX2_countWriters_22 : decode cX2_countWriters 22 = .ok (.invokevirtual 40, 3) := by decide +kernel
theorem dX2_countWriters_25 : decode cX2_countWriters 25 = .ok (.ifCond .eq 17, 3) := by decide +kernel
theorem dX2_countWriters_28 : decode cX2_countWriters 28 = .ok (.iload 6, 2) := by decide +kernel
theorem dX2_countWriters_30 : decode cX2_countWriters 30 = .ok (.iconst 1, 1) := by decide +kernel
theorem dX2_countWriters_31 : decode cX2_countWriters 31 = .ok (.aload_n 0, 1) := by decide +kernel
theorem dX2_countWriters_32 : decode cX2_countWriters 32 = .ok (.getfield 9, 3) := by decide +kernel
theorem dX2_countWriters_35 : decode cX2_countWriters 35 = .ok (.iload 7, 2) := by decide +kernel
theorem dX2_countWriters_37 : decode cX2_countWriters 37 = .ok (.iaload, 1) := by decide +kernel
theorem dX2_countWriters_38 : decode cX2_countWriters 38 = .ok (.ishl, 1) := by decide +kernel
theorem dX2_countWriters_39 : decode cX2_countWriters 39 = .ok (.ior, 1) := by decide +kernel
theorem dX2_countWriters_40 : decode cX2_countWriters 40 = .ok (.istore 6, 2) := by decide +kernel
theorem dX2_countWriters_42 : decode cX2_countWriters 42 = .ok (.iinc 7 1, 3) := by decide +kernel
theorem dX2_countWriters_45 : decode cX2_countWriters 45 = .ok (.goto (-39), 3) := by decide +kernel
theorem dX2_countWriters_48 : decode cX2_countWriters 48 = .ok (.iload 6, 2) := by decide +kernel
theorem dX2_countWriters_50 : decode cX2_countWriters 50 = .ok (.invokestatic 44, 3) := by decide +kernel
theorem dX2_countWriters_53 : decode cX2_countWriters 53 = .ok (.ireturn, 1) := by decide +kernel
def p_E_own (oe : Nat → Nat) (ec : Nat) (ew : Nat → Nat) (el : Nat → Int32) (ea : Nat → Int64) (ed : Nat → Int64) (et : Nat → Int64) (ex : Nat → Bool) (a : Int64) (tm : Int64) : Int32 → Unit → Prop := fun r u => (r = (-1) ∧ ∀ j, j < ec → ¬ (el j = 0 ∧ (ex j = false ∧ ea j = a ∧ ¬ (el j < nI 0) ∧ ¬ (tm < et j)))) ∨ (∃ b, r = nI b ∧ b < ec ∧ (el b = 0 ∧ (ex b = false ∧ ea b = a ∧ ¬ (el b < nI 0) ∧ ¬ (tm < et b))) ∧ ∀ j, j < ec → (el j = 0 ∧ (ex j = false ∧ ea j = a ∧ ¬ (el j < nI 0) ∧ ¬ (tm < et j))) → ¬ (et b < et j) ∧ (b < j → et j < et b))
set_option maxHeartbeats 4000000 in
set_option maxRecDepth 100000 in
theorem c_E_own (l : Launch) (D : va_G) (k : Nat → ClassId) (oe : Nat → Nat) (ec : Nat) (ew : Nat → Nat) (el : Nat → Int32) (ea : Nat → Int64) (ed : Nat → Int64) (et : Nat → Int64) (ex : Nat → Bool) (a : Int64) (tm : Int64) (hec : ec ≤ 100) : xx_Ci l yX2_latestOwn (.code yX2_latestOwn cX2_latestOwn 10 (some .int) :: xall) ({ frames := 2, cells := 0, slots := 0, locals := 47 } : Room) D vwCl (xT k) [.ref (oe 0), .long a, .long tm] (bE k oe ec ew el ea ed et ex) (p_E_own oe ec ew el ea ed et ex a tm) (fun (u : Unit) => bE k oe ec ew el ea ed et ex) 0 0 := by
  intro sz
  refine xx_met (Qf := fun A => va_Qi (p_E_own oe ec ew el ea ed et ex a tm) (xx_B D vwCl (xT k) A (fun (u : Unit) => bE k oe ec ew el ea ed et ex)) A) (cc := cX2_latestOwn) (maxL := 10) (ret := (some .int)) (by decide) rfl (Nat.le_of_ble_eq_true rfl) ?_
  intro p e s m below meth c A ls hx hb hr hts hown hlocks hin hml hA hS hP hD hK hN hl
  have hl : lv_has ls 10 [(0, .ref (oe 0)), (1, .long a), (3, .long tm)] := hl
  have hown : s.vm.findClass RX2 = some m.cls := hown
  have hinW := inX2
  refine lv_iconst (v := (-1)) hx hb dX2_latestOwn_0 (by decide) ?_
  refine lv_istore (lv' := [(5, .int (-1)), (0, .ref (oe 0)), (1, .long a), (3, .long tm)]) hx hb dX2_latestOwn_1 hl (by decide) rfl (fun ls hl => ?_)
  refine lv_lconst (v := 0) hx hb dX2_latestOwn_3 (by decide) ?_
  refine lv_lstore (lv' := [(6, .long 0), (5, .int (-1)), (0, .ref (oe 0)), (1, .long a), (3, .long tm)]) hx hb dX2_latestOwn_4 hl (by decide) rfl (fun ls hl => ?_)
  refine lv_iconst (v := (nI 0)) hx hb dX2_latestOwn_6 (by decide) ?_
  refine lv_istore (lv' := [(8, .int (nI 0)), (6, .long 0), (5, .int (-1)), (0, .ref (oe 0)), (1, .long a), (3, .long tm)]) hx hb dX2_latestOwn_7 hl (by decide) rfl (fun ls hl => ?_)
  have loop9 : ∀ (dd : Nat) (i : Nat) (b5 : Int32) (t6 : Int64), ec + 1 ≤ i + dd → (i ≤ ec) → ((b5 = (-1) ∧ ∀ j, j < i → ¬ (el j = 0 ∧ (ex j = false ∧ ea j = a ∧ ¬ (el j < nI 0) ∧ ¬ (tm < et j)))) ∨ (∃ b, b5 = nI b ∧ t6 = et b ∧ b < i ∧ (el b = 0 ∧ (ex b = false ∧ ea b = a ∧ ¬ (el b < nI 0) ∧ ¬ (tm < et b))) ∧ ∀ j, j < i → (el j = 0 ∧ (ex j = false ∧ ea j = a ∧ ¬ (el j < nI 0) ∧ ¬ (tm < et j))) → ¬ (et b < et j) ∧ (b < j → et j < et b))) → ∀ (H : Heap) (locs : List Loc) (ls : Array Slot), va_P D vwCl (bE k oe ec ew el ea ed et ex) H → va_D A (bE k oe ec ew el ea ed et ex) → va_S A s.heap H locs → lv_has ls 10 [(0, .ref (oe 0)), (1, .long a), (3, .long tm), (5, .int b5), (6, .long t6), (8, .int (nI i))] → W p l e ({ frames := 2, cells := 0, slots := 0, locals := 47 } : Room) s m [.ref (oe 0), .long a, .long tm].toArray below meth c H locs 0 0 (MQ below (va_Qi (p_E_own oe ec ew el ea ed et ex a tm) (xx_B D vwCl (xT k) A (fun (u : Unit) => bE k oe ec ew el ea ed et ex)) A) [.ref (oe 0), .long a, .long tm].toArray s 0 0 A) (F0 m 9 ls []) := by
    intro dd
    induction dd with
    | zero =>
      intro i b5 t6 hm h2 h3
      exact absurd hm (by omega)
    | succ dd ih9 =>
      intro i b5 t6 hm h2 h3 H locs ls hP hD hS hl
      refine lv_iload hx hb dX2_latestOwn_9 (lv_at hl 5 rfl) ?_
      refine lv_aload_n hx hb dX2_latestOwn_11 rfl (lv_at hl 0 rfl) ?_
      refine va_get (D := D) (ci := 2) (v := .int (nI ec)) (C := RX2) (T := TX2) (N := 7) hx hb hts hinW hown hK hP 0 rfl rfl 6 (by decide) (hts _ tw_67) (fun _ h9 => h9) rfl dX2_latestOwn_12 ?_
      refine lv_icmp_ge (tgt := 90) hx hb dX2_latestOwn_15 (by decide) (fun c15 => ?_) (fun c15 => ?_)
      · have c15 : ec ≤ i := (nI_leI (by omega) (by omega)).mp c15
        refine lv_iload hx hb dX2_latestOwn_90 (lv_at hl 3 rfl) ?_
        refine xx_iret () hx hb hr hlocks hS hK hP hD dX2_latestOwn_92 ?_
        obtain rfl : i = ec := by omega
        rcases h3 with h3 | ⟨b, h31, h32, h33⟩
        · exact Or.inl h3
        · exact Or.inr ⟨b, h31, h33⟩
      · have c15 : i < ec := Nat.lt_of_not_le (fun h => c15 ((nI_leI (by omega) (by omega)).mpr h))
        refine lv_aload_n hx hb dX2_latestOwn_18 rfl (lv_at hl 0 rfl) ?_
        refine va_get (D := D) (ci := 2) (v := .ref (oe 2)) (C := RX2) (T := TX2) (N := 7) hx hb hts hinW hown hK hP 0 rfl rfl 1 (by decide) (hts _ tw_62) (fun _ h9 => h9) rfl dX2_latestOwn_19 ?_
        refine lv_iload hx hb dX2_latestOwn_22 (lv_at hl 5 rfl) ?_
        refine xx_iald hx hb hK hP 2 0 rfl rfl (show i < 100 by omega) (by decide) dX2_latestOwn_24 ?_
        refine lv_if_ne (tgt := 44) hx hb dX2_latestOwn_25 (by decide) (fun c25 => ?_) (fun c25 => ?_)
        · refine lv_iconst (v := (nI 0)) hx hb dX2_latestOwn_44 (by decide) ?_
          refine lv_istore (lv' := [(9, .int (nI 0)), (0, .ref (oe 0)), (1, .long a), (3, .long tm), (5, .int b5), (6, .long t6), (8, .int (nI i))]) hx hb dX2_latestOwn_45 hl (by decide) rfl (fun ls hl => ?_)
          refine lv_iload hx hb dX2_latestOwn_47 (lv_at hl 0 rfl) ?_
          refine lv_if_eq (tgt := 84) hx hb dX2_latestOwn_49 (by decide) (fun _ => ?_) (fun c => absurd c (by decide))
          refine lv_iinc (v := (nI (i + 1))) (lv' := [(8, .int (nI (i + 1))), (9, .int (nI 0)), (0, .ref (oe 0)), (1, .long a), (3, .long tm), (5, .int b5), (6, .long t6)]) hx hb dX2_latestOwn_84 hl (k := 6) rfl (nI_1 i) (by decide) rfl (fun ls hl => ?_)
          refine lv_goto (tgt := 9) hx hb dX2_latestOwn_87 (by decide) ?_
          exact ih9 (i + 1) b5 t6 (by omega) (by omega) (by first | exact xl_skip (O := fun j => el j = 0 ∧ (ex j = false ∧ ea j = a ∧ ¬ (el j < nI 0) ∧ ¬ (tm < et j))) (et := et) h3 (fun h => c25 h.1) | exact xl_skip (O := fun j => el j = 0 ∧ (ex j = false ∧ ea j = a ∧ ¬ (el j < nI 0) ∧ ¬ (tm < et j))) (et := et) h3 (fun h => hq34 h.2) | exact xl_new (O := fun j => el j = 0 ∧ (ex j = false ∧ ea j = a ∧ ¬ (el j < nI 0) ∧ ¬ (tm < et j))) (et := et) (by omega) h3 ⟨c25, hq34⟩ (Or.inl c55) | exact xl_new (O := fun j => el j = 0 ∧ (ex j = false ∧ ea j = a ∧ ¬ (el j < nI 0) ∧ ¬ (tm < et j))) (et := et) (by omega) h3 ⟨c25, hq34⟩ (Or.inr c68) | exact xl_old (O := fun j => el j = 0 ∧ (ex j = false ∧ ea j = a ∧ ¬ (el j < nI 0) ∧ ¬ (tm < et j))) (et := et) h3 ⟨c25, hq34⟩ c55 c68) H locs ls hP hD hS (lv_sub hl [2, 3, 4, 5, 6, 0] rfl)
        · refine lv_aload_n hx hb dX2_latestOwn_28 rfl (lv_at hl 0 rfl) ?_
          refine lv_iload hx hb dX2_latestOwn_29 (lv_at hl 5 rfl) ?_
          refine lv_lload_n hx hb dX2_latestOwn_31 rfl (lv_at hl 1 rfl) ?_
          refine lv_iconst (v := (nI 0)) hx hb dX2_latestOwn_32 (by decide) ?_
          refine lv_lload_n hx hb dX2_latestOwn_33 rfl (lv_at hl 2 rfl) ?_
          refine xx_calli ([]) [0, 1, 2, 3, 4, 5, 6] [] (va_runV (As := [.int (nI i), .long a, .int (nI 0), .long tm]) (rest := []) ⟨hx, hb, hml, hown, hts⟩ (c_E_counts l D k oe ec ew el ea ed et ex i a (nI 0) tm (by omega) (by omega) H.size) (cwV 4 hts (xx_gV tw_303 tw_305 ts_3 tw_4 tw_306) rfl rfl rfl (by decide +kernel) ⟨Nat.le_of_ble_eq_true rfl, Nat.le_of_ble_eq_true rfl⟩) (xx_preV hK hN hP hD [0, 1, 2, 3, 4, 5, 6] (by decide) rfl 2 0 rfl rfl) rfl rfl hl.1 rfl (lv_room (Nat.le_of_ble_eq_true rfl)) dX2_latestOwn_34 ⟨Nat.le_of_ble_eq_true rfl, Nat.le_of_ble_eq_true rfl⟩) hP hD hS hA rfl rfl (by decide) (by decide) (fun r34 u34 H locs hw34 hP hD hS => ?_)
          rcases hw34 with ⟨rfl, hq34⟩ | ⟨rfl, hq34⟩
          · have hP : va_P D vwCl (bE k oe ec ew el ea ed et ex) H := hP
            have hD : va_D A (bE k oe ec ew el ea ed et ex) := hD
            refine lv_if_eq (tgt := 44) hx hb dX2_latestOwn_37 (by decide) (fun c => absurd c (by decide)) (fun _ => ?_)
            refine lv_iconst (v := (nI 1)) hx hb dX2_latestOwn_40 (by decide) ?_
            refine lv_goto (tgt := 45) hx hb dX2_latestOwn_41 (by decide) ?_
            refine lv_istore (lv' := [(9, .int (nI 1)), (0, .ref (oe 0)), (1, .long a), (3, .long tm), (5, .int b5), (6, .long t6), (8, .int (nI i))]) hx hb dX2_latestOwn_45 hl (by decide) rfl (fun ls hl => ?_)
            refine lv_iload hx hb dX2_latestOwn_47 (lv_at hl 0 rfl) ?_
            refine lv_if_eq (tgt := 84) hx hb dX2_latestOwn_49 (by decide) (fun c => absurd c (by decide)) (fun _ => ?_)
            refine lv_iload hx hb dX2_latestOwn_52 (lv_at hl 4 rfl) ?_
            refine lv_iconst (v := (-1)) hx hb dX2_latestOwn_54 (by decide) ?_
            refine lv_icmp_eq (tgt := 71) hx hb dX2_latestOwn_55 (by decide) (fun c55 => ?_) (fun c55 => ?_)
            · refine lv_iload hx hb dX2_latestOwn_71 (lv_at hl 6 rfl) ?_
              refine lv_istore (lv' := [(5, .int (nI i)), (9, .int (nI 1)), (0, .ref (oe 0)), (1, .long a), (3, .long tm), (6, .long t6), (8, .int (nI i))]) hx hb dX2_latestOwn_73 hl (by decide) rfl (fun ls hl => ?_)
              refine lv_aload_n hx hb dX2_latestOwn_75 rfl (lv_at hl 2 rfl) ?_
              refine va_get (D := D) (ci := 2) (v := .ref (oe 5)) (C := RX2) (T := TX2) (N := 7) hx hb hts hinW hown hK hP 0 rfl rfl 4 (by decide) (hts _ tw_65) (fun _ h9 => h9) rfl dX2_latestOwn_76 ?_
              refine lv_iload hx hb dX2_latestOwn_79 (lv_at hl 6 rfl) ?_
              refine xx_lald hx hb hK hP 5 2 rfl rfl (show i < 100 by omega) (by decide) dX2_latestOwn_81 ?_
              refine lv_lstore (lv' := [(6, .long (et i)), (5, .int (nI i)), (9, .int (nI 1)), (0, .ref (oe 0)), (1, .long a), (3, .long tm), (8, .int (nI i))]) hx hb dX2_latestOwn_82 hl (by decide) rfl (fun ls hl => ?_)
              refine lv_iinc (v := (nI (i + 1))) (lv' := [(8, .int (nI (i + 1))), (6, .long (et i)), (5, .int (nI i)), (9, .int (nI 1)), (0, .ref (oe 0)), (1, .long a), (3, .long tm)]) hx hb dX2_latestOwn_84 hl (k := 6) rfl (nI_1 i) (by decide) rfl (fun ls hl => ?_)
              refine lv_goto (tgt := 9) hx hb dX2_latestOwn_87 (by decide) ?_
              exact ih9 (i + 1) (nI i) (et i) (by omega) (by omega) (by first | exact xl_skip (O := fun j => el j = 0 ∧ (ex j = false ∧ ea j = a ∧ ¬ (el j < nI 0) ∧ ¬ (tm < et j))) (et := et) h3 (fun h => c25 h.1) | exact xl_skip (O := fun j => el j = 0 ∧ (ex j = false ∧ ea j = a ∧ ¬ (el j < nI 0) ∧ ¬ (tm < et j))) (et := et) h3 (fun h => hq34 h.2) | exact xl_new (O := fun j => el j = 0 ∧ (ex j = false ∧ ea j = a ∧ ¬ (el j < nI 0) ∧ ¬ (tm < et j))) (et := et) (by omega) h3 ⟨c25, hq34⟩ (Or.inl c55) | exact xl_new (O := fun j => el j = 0 ∧ (ex j = false ∧ ea j = a ∧ ¬ (el j < nI 0) ∧ ¬ (tm < et j))) (et := et) (by omega) h3 ⟨c25, hq34⟩ (Or.inr c68) | exact xl_old (O := fun j => el j = 0 ∧ (ex j = false ∧ ea j = a ∧ ¬ (el j < nI 0) ∧ ¬ (tm < et j))) (et := et) h3 ⟨c25, hq34⟩ c55 c68) H locs ls hP hD hS (lv_sub hl [4, 5, 6, 2, 1, 0] rfl)
            · refine lv_aload_n hx hb dX2_latestOwn_58 rfl (lv_at hl 1 rfl) ?_
              refine va_get (D := D) (ci := 2) (v := .ref (oe 5)) (C := RX2) (T := TX2) (N := 7) hx hb hts hinW hown hK hP 0 rfl rfl 4 (by decide) (hts _ tw_65) (fun _ h9 => h9) rfl dX2_latestOwn_59 ?_
              refine lv_iload hx hb dX2_latestOwn_62 (lv_at hl 6 rfl) ?_
              refine xx_lald hx hb hK hP 5 2 rfl rfl (show i < 100 by omega) (by decide) dX2_latestOwn_64 ?_
              refine lv_lload hx hb dX2_latestOwn_65 (lv_at hl 5 rfl) ?_
              refine W.lcmp hx hb dX2_latestOwn_67 ?_
              refine lv_if_lt (tgt := 84) hx hb dX2_latestOwn_68 (by decide) (fun c68 => ?_) (fun c68 => ?_)
              · have c68 : (et i) < t6 := (lg_cmp_lt (et i) t6).mp c68
                refine lv_iinc (v := (nI (i + 1))) (lv' := [(8, .int (nI (i + 1))), (9, .int (nI 1)), (0, .ref (oe 0)), (1, .long a), (3, .long tm), (5, .int b5), (6, .long t6)]) hx hb dX2_latestOwn_84 hl (k := 6) rfl (nI_1 i) (by decide) rfl (fun ls hl => ?_)
                refine lv_goto (tgt := 9) hx hb dX2_latestOwn_87 (by decide) ?_
                exact ih9 (i + 1) b5 t6 (by omega) (by omega) (by first | exact xl_skip (O := fun j => el j = 0 ∧ (ex j = false ∧ ea j = a ∧ ¬ (el j < nI 0) ∧ ¬ (tm < et j))) (et := et) h3 (fun h => c25 h.1) | exact xl_skip (O := fun j => el j = 0 ∧ (ex j = false ∧ ea j = a ∧ ¬ (el j < nI 0) ∧ ¬ (tm < et j))) (et := et) h3 (fun h => hq34 h.2) | exact xl_new (O := fun j => el j = 0 ∧ (ex j = false ∧ ea j = a ∧ ¬ (el j < nI 0) ∧ ¬ (tm < et j))) (et := et) (by omega) h3 ⟨c25, hq34⟩ (Or.inl c55) | exact xl_new (O := fun j => el j = 0 ∧ (ex j = false ∧ ea j = a ∧ ¬ (el j < nI 0) ∧ ¬ (tm < et j))) (et := et) (by omega) h3 ⟨c25, hq34⟩ (Or.inr c68) | exact xl_old (O := fun j => el j = 0 ∧ (ex j = false ∧ ea j = a ∧ ¬ (el j < nI 0) ∧ ¬ (tm < et j))) (et := et) h3 ⟨c25, hq34⟩ c55 c68) H locs ls hP hD hS (lv_sub hl [2, 3, 4, 5, 6, 0] rfl)
              · have c68 : ¬ ((et i) < t6) := fun h => c68 ((lg_cmp_lt (et i) t6).mpr h)
                refine lv_iload hx hb dX2_latestOwn_71 (lv_at hl 6 rfl) ?_
                refine lv_istore (lv' := [(5, .int (nI i)), (9, .int (nI 1)), (0, .ref (oe 0)), (1, .long a), (3, .long tm), (6, .long t6), (8, .int (nI i))]) hx hb dX2_latestOwn_73 hl (by decide) rfl (fun ls hl => ?_)
                refine lv_aload_n hx hb dX2_latestOwn_75 rfl (lv_at hl 2 rfl) ?_
                refine va_get (D := D) (ci := 2) (v := .ref (oe 5)) (C := RX2) (T := TX2) (N := 7) hx hb hts hinW hown hK hP 0 rfl rfl 4 (by decide) (hts _ tw_65) (fun _ h9 => h9) rfl dX2_latestOwn_76 ?_
                refine lv_iload hx hb dX2_latestOwn_79 (lv_at hl 6 rfl) ?_
                refine xx_lald hx hb hK hP 5 2 rfl rfl (show i < 100 by omega) (by decide) dX2_latestOwn_81 ?_
                refine lv_lstore (lv' := [(6, .long (et i)), (5, .int (nI i)), (9, .int (nI 1)), (0, .ref (oe 0)), (1, .long a), (3, .long tm), (8, .int (nI i))]) hx hb dX2_latestOwn_82 hl (by decide) rfl (fun ls hl => ?_)
                refine lv_iinc (v := (nI (i + 1))) (lv' := [(8, .int (nI (i + 1))), (6, .long (et i)), (5, .int (nI i)), (9, .int (nI 1)), (0, .ref (oe 0)), (1, .long a), (3, .long tm)]) hx hb dX2_latestOwn_84 hl (k := 6) rfl (nI_1 i) (by decide) rfl (fun ls hl => ?_)
                refine lv_goto (tgt := 9) hx hb dX2_latestOwn_87 (by decide) ?_
                exact ih9 (i + 1) (nI i) (et i) (by omega) (by omega) (by first | exact xl_skip (O := fun j => el j = 0 ∧ (ex j = false ∧ ea j = a ∧ ¬ (el j < nI 0) ∧ ¬ (tm < et j))) (et := et) h3 (fun h => c25 h.1) | exact xl_skip (O := fun j => el j = 0 ∧ (ex j = false ∧ ea j = a ∧ ¬ (el j < nI 0) ∧ ¬ (tm < et j))) (et := et) h3 (fun h => hq34 h.2) | exact xl_new (O := fun j => el j = 0 ∧ (ex j = false ∧ ea j = a ∧ ¬ (el j < nI 0) ∧ ¬ (tm < et j))) (et := et) (by omega) h3 ⟨c25, hq34⟩ (Or.inl c55) | exact xl_new (O := fun j => el j = 0 ∧ (ex j = false ∧ ea j = a ∧ ¬ (el j < nI 0) ∧ ¬ (tm < et j))) (et := et) (by omega) h3 ⟨c25, hq34⟩ (Or.inr c68) | exact xl_old (O := fun j => el j = 0 ∧ (ex j = false ∧ ea j = a ∧ ¬ (el j < nI 0) ∧ ¬ (tm < et j))) (et := et) h3 ⟨c25, hq34⟩ c55 c68) H locs ls hP hD hS (lv_sub hl [4, 5, 6, 2, 1, 0] rfl)
          · have hP : va_P D vwCl (bE k oe ec ew el ea ed et ex) H := hP
            have hD : va_D A (bE k oe ec ew el ea ed et ex) := hD
            refine lv_if_eq (tgt := 44) hx hb dX2_latestOwn_37 (by decide) (fun _ => ?_) (fun c => absurd c (by decide))
            refine lv_iconst (v := (nI 0)) hx hb dX2_latestOwn_44 (by decide) ?_
            refine lv_istore (lv' := [(9, .int (nI 0)), (0, .ref (oe 0)), (1, .long a), (3, .long tm), (5, .int b5), (6, .long t6), (8, .int (nI i))]) hx hb dX2_latestOwn_45 hl (by decide) rfl (fun ls hl => ?_)
            refine lv_iload hx hb dX2_latestOwn_47 (lv_at hl 0 rfl) ?_
            refine lv_if_eq (tgt := 84) hx hb dX2_latestOwn_49 (by decide) (fun _ => ?_) (fun c => absurd c (by decide))
            refine lv_iinc (v := (nI (i + 1))) (lv' := [(8, .int (nI (i + 1))), (9, .int (nI 0)), (0, .ref (oe 0)), (1, .long a), (3, .long tm), (5, .int b5), (6, .long t6)]) hx hb dX2_latestOwn_84 hl (k := 6) rfl (nI_1 i) (by decide) rfl (fun ls hl => ?_)
            refine lv_goto (tgt := 9) hx hb dX2_latestOwn_87 (by decide) ?_
            exact ih9 (i + 1) b5 t6 (by omega) (by omega) (by first | exact xl_skip (O := fun j => el j = 0 ∧ (ex j = false ∧ ea j = a ∧ ¬ (el j < nI 0) ∧ ¬ (tm < et j))) (et := et) h3 (fun h => c25 h.1) | exact xl_skip (O := fun j => el j = 0 ∧ (ex j = false ∧ ea j = a ∧ ¬ (el j < nI 0) ∧ ¬ (tm < et j))) (et := et) h3 (fun h => hq34 h.2) | exact xl_new (O := fun j => el j = 0 ∧ (ex j = false ∧ ea j = a ∧ ¬ (el j < nI 0) ∧ ¬ (tm < et j))) (et := et) (by omega) h3 ⟨c25, hq34⟩ (Or.inl c55) | exact xl_new (O := fun j => el j = 0 ∧ (ex j = false ∧ ea j = a ∧ ¬ (el j < nI 0) ∧ ¬ (tm < et j))) (et := et) (by omega) h3 ⟨c25, hq34⟩ (Or.inr c68) | exact xl_old (O := fun j => el j = 0 ∧ (ex j = false ∧ ea j = a ∧ ¬ (el j < nI 0) ∧ ¬ (tm < et j))) (et := et) h3 ⟨c25, hq34⟩ c55 c68) H locs ls hP hD hS (lv_sub hl [2, 3, 4, 5, 6, 0] rfl)
  exact loop9 (ec + 1) 0 (-1) 0 (by omega) (by omega) (by exact Or.inl ⟨rfl, fun j z => absurd z (by omega)⟩) s.heap _ ls hP hD hS (lv_sub hl [3, 4, 5, 2, 1, 0] rfl)
def p_E_first (oe : Nat → Nat) (ec : Nat) (ew : Nat → Nat) (el : Nat → Int32) (ea : Nat → Int64) (ed : Nat → Int64) (et : Nat → Int64) (ex : Nat → Bool) (a : Int64) (lv : Int32) (tm : Int64) : Int32 → Unit → Prop := fun r u => (r = (-1) ∧ ∀ j, j < ec → ¬ (ex j = false ∧ ea j = a ∧ ¬ (el j < lv) ∧ ¬ (tm < et j))) ∨ (∃ i, i < ec ∧ r = nI i ∧ (ex i = false ∧ ea i = a ∧ ¬ (el i < lv) ∧ ¬ (tm < et i)) ∧ ∀ j, j < i → ¬ (ex j = false ∧ ea j = a ∧ ¬ (el j < lv) ∧ ¬ (tm < et j)))
set_option maxHeartbeats 4000000 in
set_option maxRecDepth 100000 in
theorem c_E_first (l : Launch) (D : va_G) (k : Nat → ClassId) (oe : Nat → Nat) (ec : Nat) (ew : Nat → Nat) (el : Nat → Int32) (ea : Nat → Int64) (ed : Nat → Int64) (et : Nat → Int64) (ex : Nat → Bool) (a : Int64) (lv : Int32) (tm : Int64) (hec : ec ≤ 100) : xx_Ci l yX2_firstCounting (.code yX2_firstCounting cX2_firstCounting 7 (some .int) :: xall) ({ frames := 2, cells := 0, slots := 0, locals := 47 } : Room) D vwCl (xT k) [.ref (oe 0), .long a, .int lv, .long tm] (bE k oe ec ew el ea ed et ex) (p_E_first oe ec ew el ea ed et ex a lv tm) (fun (u : Unit) => bE k oe ec ew el ea ed et ex) 0 0 := by
  intro sz
  refine xx_met (Qf := fun A => va_Qi (p_E_first oe ec ew el ea ed et ex a lv tm) (xx_B D vwCl (xT k) A (fun (u : Unit) => bE k oe ec ew el ea ed et ex)) A) (cc := cX2_firstCounting) (maxL := 7) (ret := (some .int)) (by decide) rfl (Nat.le_of_ble_eq_true rfl) ?_
  intro p e s m below meth c A ls hx hb hr hts hown hlocks hin hml hA hS hP hD hK hN hl
  have hl : lv_has ls 7 [(0, .ref (oe 0)), (1, .long a), (3, .int lv), (4, .long tm)] := hl
  have hown : s.vm.findClass RX2 = some m.cls := hown
  have hinW := inX2
  refine lv_iconst (v := (nI 0)) hx hb dX2_firstCounting_0 (by decide) ?_
  refine lv_istore (lv' := [(6, .int (nI 0)), (0, .ref (oe 0)), (1, .long a), (3, .int lv), (4, .long tm)]) hx hb dX2_firstCounting_1 hl (by decide) rfl (fun ls hl => ?_)
  have loop3 : ∀ (dd : Nat) (i : Nat), ec + 1 ≤ i + dd → (i ≤ ec) → (∀ j, j < i → ¬ (ex j = false ∧ ea j = a ∧ ¬ (el j < lv) ∧ ¬ (tm < et j))) → ∀ (H : Heap) (locs : List Loc) (ls : Array Slot), va_P D vwCl (bE k oe ec ew el ea ed et ex) H → va_D A (bE k oe ec ew el ea ed et ex) → va_S A s.heap H locs → lv_has ls 7 [(0, .ref (oe 0)), (1, .long a), (3, .int lv), (4, .long tm), (6, .int (nI i))] → W p l e ({ frames := 2, cells := 0, slots := 0, locals := 47 } : Room) s m [.ref (oe 0), .long a, .int lv, .long tm].toArray below meth c H locs 0 0 (MQ below (va_Qi (p_E_first oe ec ew el ea ed et ex a lv tm) (xx_B D vwCl (xT k) A (fun (u : Unit) => bE k oe ec ew el ea ed et ex)) A) [.ref (oe 0), .long a, .int lv, .long tm].toArray s 0 0 A) (F0 m 3 ls []) := by
    intro dd
    induction dd with
    | zero =>
      intro i hm h2 h3
      exact absurd hm (by omega)
    | succ dd ih3 =>
      intro i hm h2 h3 H locs ls hP hD hS hl
      refine lv_iload hx hb dX2_firstCounting_3 (lv_at hl 4 rfl) ?_
      refine lv_aload_n hx hb dX2_firstCounting_5 rfl (lv_at hl 0 rfl) ?_
      refine va_get (D := D) (ci := 2) (v := .int (nI ec)) (C := RX2) (T := TX2) (N := 7) hx hb hts hinW hown hK hP 0 rfl rfl 6 (by decide) (hts _ tw_67) (fun _ h9 => h9) rfl dX2_firstCounting_6 ?_
      refine lv_icmp_ge (tgt := 34) hx hb dX2_firstCounting_9 (by decide) (fun c9 => ?_) (fun c9 => ?_)
      · have c9 : ec ≤ i := (nI_leI (by omega) (by omega)).mp c9
        refine lv_iconst (v := (-1)) hx hb dX2_firstCounting_34 (by decide) ?_
        refine xx_iret () hx hb hr hlocks hS hK hP hD dX2_firstCounting_35 ?_
        exact Or.inl ⟨rfl, fun j z => h3 j (by omega)⟩
      · have c9 : i < ec := Nat.lt_of_not_le (fun h => c9 ((nI_leI (by omega) (by omega)).mpr h))
        refine lv_aload_n hx hb dX2_firstCounting_12 rfl (lv_at hl 0 rfl) ?_
        refine lv_iload hx hb dX2_firstCounting_13 (lv_at hl 4 rfl) ?_
        refine lv_lload_n hx hb dX2_firstCounting_15 rfl (lv_at hl 1 rfl) ?_
        refine lv_iload_n hx hb dX2_firstCounting_16 rfl (lv_at hl 2 rfl) ?_
        refine lv_lload hx hb dX2_firstCounting_17 (lv_at hl 3 rfl) ?_
        refine xx_calli ([]) [0, 1, 2, 3, 4, 5, 6] [] (va_runV (As := [.int (nI i), .long a, .int lv, .long tm]) (rest := []) ⟨hx, hb, hml, hown, hts⟩ (c_E_counts l D k oe ec ew el ea ed et ex i a lv tm (by omega) (by omega) H.size) (cwV 4 hts (xx_gV tw_303 tw_305 ts_3 tw_4 tw_306) rfl rfl rfl (by decide +kernel) ⟨Nat.le_of_ble_eq_true rfl, Nat.le_of_ble_eq_true rfl⟩) (xx_preV hK hN hP hD [0, 1, 2, 3, 4, 5, 6] (by decide) rfl 2 0 rfl rfl) rfl rfl hl.1 rfl (lv_room (Nat.le_of_ble_eq_true rfl)) dX2_firstCounting_19 ⟨Nat.le_of_ble_eq_true rfl, Nat.le_of_ble_eq_true rfl⟩) hP hD hS hA rfl rfl (by decide) (by decide) (fun r19 u19 H locs hw19 hP hD hS => ?_)
        rcases hw19 with ⟨rfl, hq19⟩ | ⟨rfl, hq19⟩
        · have hP : va_P D vwCl (bE k oe ec ew el ea ed et ex) H := hP
          have hD : va_D A (bE k oe ec ew el ea ed et ex) := hD
          refine lv_if_eq (tgt := 28) hx hb dX2_firstCounting_22 (by decide) (fun c => absurd c (by decide)) (fun _ => ?_)
          refine lv_iload hx hb dX2_firstCounting_25 (lv_at hl 4 rfl) ?_
          refine xx_iret () hx hb hr hlocks hS hK hP hD dX2_firstCounting_27 ?_
          exact Or.inr ⟨i, c9, rfl, hq19, h3⟩
        · have hP : va_P D vwCl (bE k oe ec ew el ea ed et ex) H := hP
          have hD : va_D A (bE k oe ec ew el ea ed et ex) := hD
          refine lv_if_eq (tgt := 28) hx hb dX2_firstCounting_22 (by decide) (fun _ => ?_) (fun c => absurd c (by decide))
          refine lv_iinc (v := (nI (i + 1))) (lv' := [(6, .int (nI (i + 1))), (0, .ref (oe 0)), (1, .long a), (3, .int lv), (4, .long tm)]) hx hb dX2_firstCounting_28 hl (k := 4) rfl (nI_1 i) (by decide) rfl (fun ls hl => ?_)
          refine lv_goto (tgt := 3) hx hb dX2_firstCounting_31 (by decide) ?_
          exact ih3 (i + 1) (by omega) (by omega) (by intro j z1 z3; rcases Nat.lt_or_ge j i with z | z; exact h3 j z z3; obtain rfl : j = i := (by omega); exact hq19 z3) H locs ls hP hD hS (lv_sub hl [1, 2, 3, 4, 0] rfl)
  exact loop3 (ec + 1) 0 (by omega) (by omega) (by intro j z1; exact absurd z1 (by omega)) s.heap _ ls hP hD hS (lv_sub hl [1, 2, 3, 4, 0] rfl)
def p_E_one (oe : Nat → Nat) (ec : Nat) (ew : Nat → Nat) (el : Nat → Int32) (ea : Nat → Int64) (ed : Nat → Int64) (et : Nat → Int64) (ex : Nat → Bool) (a : Int64) (lv : Int32) (tm : Int64) : Int32 → Unit → Prop := fun r u => xb r (∀ i, i < ec → (ex i = false ∧ ea i = a ∧ ¬ (el i < lv) ∧ ¬ (tm < et i)) → ∀ j, j < ec → (ex j = false ∧ ea j = a ∧ ¬ (el j < lv) ∧ ¬ (tm < et j)) → ed i = ed j)
set_option maxHeartbeats 4000000 in
set_option maxRecDepth 100000 in
theorem c_E_one (l : Launch) (D : va_G) (k : Nat → ClassId) (oe : Nat → Nat) (ec : Nat) (ew : Nat → Nat) (el : Nat → Int32) (ea : Nat → Int64) (ed : Nat → Int64) (et : Nat → Int64) (ex : Nat → Bool) (a : Int64) (lv : Int32) (tm : Int64) (hec : ec ≤ 100) : xx_Ci l yX2_tellOneDigest (.code yX2_tellOneDigest cX2_tellOneDigest 9 (some .boolean) :: xall) ({ frames := 3, cells := 0, slots := 0, locals := 73 } : Room) D vwCl (xT k) [.ref (oe 0), .long a, .int lv, .long tm] (bE k oe ec ew el ea ed et ex) (p_E_one oe ec ew el ea ed et ex a lv tm) (fun (u : Unit) => bE k oe ec ew el ea ed et ex) 0 0 := by
  intro sz
  refine xx_met (Qf := fun A => va_Qi (p_E_one oe ec ew el ea ed et ex a lv tm) (xx_B D vwCl (xT k) A (fun (u : Unit) => bE k oe ec ew el ea ed et ex)) A) (cc := cX2_tellOneDigest) (maxL := 9) (ret := (some .boolean)) (by decide) rfl (Nat.le_of_ble_eq_true rfl) ?_
  intro p e s m below meth c A ls hx hb hr hts hown hlocks hin hml hA hS hP hD hK hN hl
  have hl : lv_has ls 9 [(0, .ref (oe 0)), (1, .long a), (3, .int lv), (4, .long tm)] := hl
  have hown : s.vm.findClass RX2 = some m.cls := hown
  have hinW := inX2
  refine lv_aload_n hx hb dX2_tellOneDigest_0 rfl (lv_at hl 0 rfl) ?_
  refine lv_aload_n hx hb dX2_tellOneDigest_1 rfl (lv_at hl 0 rfl) ?_
  refine lv_lload_n hx hb dX2_tellOneDigest_2 rfl (lv_at hl 1 rfl) ?_
  refine lv_iload_n hx hb dX2_tellOneDigest_3 rfl (lv_at hl 2 rfl) ?_
  refine lv_lload hx hb dX2_tellOneDigest_4 (lv_at hl 3 rfl) ?_
  refine xx_calli ([]) [0, 1, 2, 3, 4, 5, 6] [] (va_runV (As := [.long a, .int lv, .long tm]) (rest := [.ref (oe 0)]) ⟨hx, hb, hml, hown, hts⟩ (c_E_first l D k oe ec ew el ea ed et ex a lv tm (by omega) s.heap.size) (cwV 3 hts (xx_gV tw_337 tw_338 tw_339 tw_4 tw_340) rfl rfl rfl (by decide +kernel) ⟨Nat.le_of_ble_eq_true rfl, Nat.le_of_ble_eq_true rfl⟩) (xx_preV hK hN hP hD [0, 1, 2, 3, 4, 5, 6] (by decide) rfl 2 0 rfl rfl) rfl rfl hl.1 rfl (lv_room (Nat.le_of_ble_eq_true rfl)) dX2_tellOneDigest_6 ⟨Nat.le_of_ble_eq_true rfl, Nat.le_of_ble_eq_true rfl⟩) hP hD hS hA rfl rfl (by decide) (by decide) (fun r6 u6 H locs hw6 hP hD hS => ?_)
  rcases hw6 with ⟨rfl, hq6⟩ | ⟨i6, hi6, rfl, hq6, hf6⟩
  · have hP : va_P D vwCl (bE k oe ec ew el ea ed et ex) H := hP
    have hD : va_D A (bE k oe ec ew el ea ed et ex) := hD
    refine xx_calll ([]) [0, 1, 2, 3, 4, 5, 6] [] (va_runV (As := [.int (-1)]) (rest := []) ⟨hx, hb, hml, hown, hts⟩ (c_E_digest l D k oe ec ew el ea ed et ex (-1) (by omega) H.size) (cwV 1 hts (xx_gV tw_341 tw_312 tw_313 tw_4 tw_314) rfl rfl rfl (by decide +kernel) ⟨Nat.le_of_ble_eq_true rfl, Nat.le_of_ble_eq_true rfl⟩) (xx_preV hK hN hP hD [0, 1, 2, 3, 4, 5, 6] (by decide) rfl 2 0 rfl rfl) rfl rfl hl.1 rfl (lv_room (Nat.le_of_ble_eq_true rfl)) dX2_tellOneDigest_9 ⟨Nat.le_of_ble_eq_true rfl, Nat.le_of_ble_eq_true rfl⟩) hP hD hS hA rfl rfl (by decide) (by decide) (fun r9 u9 H locs hw9 hP hD hS => ?_)
    rcases hw9 with ⟨j9, hj9, hx9, rfl⟩ | ⟨hq9, rfl⟩
    · exact absurd hx9 (xx_m1 (by omega))
    · have hP : va_P D vwCl (bE k oe ec ew el ea ed et ex) H := hP
      have hD : va_D A (bE k oe ec ew el ea ed et ex) := hD
      refine lv_lstore (lv' := [(6, .long 0), (0, .ref (oe 0)), (1, .long a), (3, .int lv), (4, .long tm)]) hx hb dX2_tellOneDigest_12 hl (by decide) rfl (fun ls hl => ?_)
      refine lv_iconst (v := (nI 0)) hx hb dX2_tellOneDigest_14 (by decide) ?_
      refine lv_istore (lv' := [(8, .int (nI 0)), (6, .long 0), (0, .ref (oe 0)), (1, .long a), (3, .int lv), (4, .long tm)]) hx hb dX2_tellOneDigest_15 hl (by decide) rfl (fun ls hl => ?_)
      have loop17 : ∀ (dd : Nat) (i : Nat), ec + 1 ≤ i + dd → (i ≤ ec) → (∀ j, j < i → (ex j = false ∧ ea j = a ∧ ¬ (el j < lv) ∧ ¬ (tm < et j)) → ed j = 0) → ∀ (H : Heap) (locs : List Loc) (ls : Array Slot), va_P D vwCl (bE k oe ec ew el ea ed et ex) H → va_D A (bE k oe ec ew el ea ed et ex) → va_S A s.heap H locs → lv_has ls 9 [(0, .ref (oe 0)), (1, .long a), (3, .int lv), (4, .long tm), (6, .long 0), (8, .int (nI i))] → W p l e ({ frames := 3, cells := 0, slots := 0, locals := 73 } : Room) s m [.ref (oe 0), .long a, .int lv, .long tm].toArray below meth c H locs 0 0 (MQ below (va_Qi (p_E_one oe ec ew el ea ed et ex a lv tm) (xx_B D vwCl (xT k) A (fun (u : Unit) => bE k oe ec ew el ea ed et ex)) A) [.ref (oe 0), .long a, .int lv, .long tm].toArray s 0 0 A) (F0 m 17 ls []) := by
        intro dd
        induction dd with
        | zero =>
          intro i hm h2 h3
          exact absurd hm (by omega)
        | succ dd ih17 =>
          intro i hm h2 h3 H locs ls hP hD hS hl
          refine lv_iload hx hb dX2_tellOneDigest_17 (lv_at hl 5 rfl) ?_
          refine lv_aload_n hx hb dX2_tellOneDigest_19 rfl (lv_at hl 0 rfl) ?_
          refine va_get (D := D) (ci := 2) (v := .int (nI ec)) (C := RX2) (T := TX2) (N := 7) hx hb hts hinW hown hK hP 0 rfl rfl 6 (by decide) (hts _ tw_67) (fun _ h9 => h9) rfl dX2_tellOneDigest_20 ?_
          refine lv_icmp_ge (tgt := 60) hx hb dX2_tellOneDigest_23 (by decide) (fun c23 => ?_) (fun c23 => ?_)
          · have c23 : ec ≤ i := (nI_leI (by omega) (by omega)).mp c23
            refine lv_iconst (v := (nI 1)) hx hb dX2_tellOneDigest_60 (by decide) ?_
            refine xx_zret () hx hb hr hlocks rfl hS hK hP hD dX2_tellOneDigest_61 ?_
            exact xb_t (fun i1 z1 z2 j1 z3 z4 => (h3 i1 (by omega) z2).trans (h3 j1 (by omega) z4).symm)
          · have c23 : i < ec := Nat.lt_of_not_le (fun h => c23 ((nI_leI (by omega) (by omega)).mpr h))
            refine lv_aload_n hx hb dX2_tellOneDigest_26 rfl (lv_at hl 0 rfl) ?_
            refine lv_iload hx hb dX2_tellOneDigest_27 (lv_at hl 5 rfl) ?_
            refine lv_lload_n hx hb dX2_tellOneDigest_29 rfl (lv_at hl 1 rfl) ?_
            refine lv_iload_n hx hb dX2_tellOneDigest_30 rfl (lv_at hl 2 rfl) ?_
            refine lv_lload hx hb dX2_tellOneDigest_31 (lv_at hl 3 rfl) ?_
            refine xx_calli ([]) [0, 1, 2, 3, 4, 5, 6] [] (va_runV (As := [.int (nI i), .long a, .int lv, .long tm]) (rest := []) ⟨hx, hb, hml, hown, hts⟩ (c_E_counts l D k oe ec ew el ea ed et ex i a lv tm (by omega) (by omega) H.size) (cwV 4 hts (xx_gV tw_303 tw_305 ts_3 tw_4 tw_306) rfl rfl rfl (by decide +kernel) ⟨Nat.le_of_ble_eq_true rfl, Nat.le_of_ble_eq_true rfl⟩) (xx_preV hK hN hP hD [0, 1, 2, 3, 4, 5, 6] (by decide) rfl 2 0 rfl rfl) rfl rfl hl.1 rfl (lv_room (Nat.le_of_ble_eq_true rfl)) dX2_tellOneDigest_33 ⟨Nat.le_of_ble_eq_true rfl, Nat.le_of_ble_eq_true rfl⟩) hP hD hS hA rfl rfl (by decide) (by decide) (fun r33 u33 H locs hw33 hP hD hS => ?_)
            rcases hw33 with ⟨rfl, hq33⟩ | ⟨rfl, hq33⟩
            · have hP : va_P D vwCl (bE k oe ec ew el ea ed et ex) H := hP
              have hD : va_D A (bE k oe ec ew el ea ed et ex) := hD
              refine lv_if_eq (tgt := 54) hx hb dX2_tellOneDigest_36 (by decide) (fun c => absurd c (by decide)) (fun _ => ?_)
              refine lv_aload_n hx hb dX2_tellOneDigest_39 rfl (lv_at hl 0 rfl) ?_
              refine va_get (D := D) (ci := 2) (v := .ref (oe 4)) (C := RX2) (T := TX2) (N := 7) hx hb hts hinW hown hK hP 0 rfl rfl 3 (by decide) (hts _ tw_64) (fun _ h9 => h9) rfl dX2_tellOneDigest_40 ?_
              refine lv_iload hx hb dX2_tellOneDigest_43 (lv_at hl 5 rfl) ?_
              refine xx_lald hx hb hK hP 4 2 rfl rfl (show i < 100 by omega) (by decide) dX2_tellOneDigest_45 ?_
              refine lv_lload hx hb dX2_tellOneDigest_46 (lv_at hl 4 rfl) ?_
              refine W.lcmp hx hb dX2_tellOneDigest_48 ?_
              refine lv_if_eq (tgt := 54) hx hb dX2_tellOneDigest_49 (by decide) (fun c49 => ?_) (fun c49 => ?_)
              · have c49 : (ed i) = 0 := (lg_cmp_eq (ed i) 0).mp c49
                refine lv_iinc (v := (nI (i + 1))) (lv' := [(8, .int (nI (i + 1))), (0, .ref (oe 0)), (1, .long a), (3, .int lv), (4, .long tm), (6, .long 0)]) hx hb dX2_tellOneDigest_54 hl (k := 5) rfl (nI_1 i) (by decide) rfl (fun ls hl => ?_)
                refine lv_goto (tgt := 17) hx hb dX2_tellOneDigest_57 (by decide) ?_
                exact ih17 (i + 1) (by omega) (by omega) (by intro j z1 z3; rcases Nat.lt_or_ge j i with z | z; exact h3 j z z3; obtain rfl : j = i := (by omega); first | exact c49 | exact absurd z3 hq33) H locs ls hP hD hS (lv_sub hl [1, 2, 3, 4, 5, 0] rfl)
              · have c49 : ¬ ((ed i) = 0) := fun h => c49 ((lg_cmp_eq (ed i) 0).mpr h)
                refine lv_iconst (v := (nI 0)) hx hb dX2_tellOneDigest_52 (by decide) ?_
                refine xx_zret () hx hb hr hlocks rfl hS hK hP hD dX2_tellOneDigest_53 ?_
                first | exact xb_f (fun h => c49 (h i (by omega) hq33 i6 hi6 hq6)) | exact absurd hq33 (hq6 i (by omega))
            · have hP : va_P D vwCl (bE k oe ec ew el ea ed et ex) H := hP
              have hD : va_D A (bE k oe ec ew el ea ed et ex) := hD
              refine lv_if_eq (tgt := 54) hx hb dX2_tellOneDigest_36 (by decide) (fun _ => ?_) (fun c => absurd c (by decide))
              refine lv_iinc (v := (nI (i + 1))) (lv' := [(8, .int (nI (i + 1))), (0, .ref (oe 0)), (1, .long a), (3, .int lv), (4, .long tm), (6, .long 0)]) hx hb dX2_tellOneDigest_54 hl (k := 5) rfl (nI_1 i) (by decide) rfl (fun ls hl => ?_)
              refine lv_goto (tgt := 17) hx hb dX2_tellOneDigest_57 (by decide) ?_
              exact ih17 (i + 1) (by omega) (by omega) (by intro j z1 z3; rcases Nat.lt_or_ge j i with z | z; exact h3 j z z3; obtain rfl : j = i := (by omega); first | exact c49 | exact absurd z3 hq33) H locs ls hP hD hS (lv_sub hl [1, 2, 3, 4, 5, 0] rfl)
      exact loop17 (ec + 1) 0 (by omega) (by omega) (by intro j z1; exact absurd z1 (by omega)) H locs ls hP hD hS (lv_sub hl [2, 3, 4, 5, 1, 0] rfl)
  · have hP : va_P D vwCl (bE k oe ec ew el ea ed et ex) H := hP
    have hD : va_D A (bE k oe ec ew el ea ed et ex) := hD
    refine xx_calll ([]) [0, 1, 2, 3, 4, 5, 6] [] (va_runV (As := [.int (nI i6)]) (rest := []) ⟨hx, hb, hml, hown, hts⟩ (c_E_digest l D k oe ec ew el ea ed et ex (nI i6) (by omega) H.size) (cwV 1 hts (xx_gV tw_341 tw_312 tw_313 tw_4 tw_314) rfl rfl rfl (by decide +kernel) ⟨Nat.le_of_ble_eq_true rfl, Nat.le_of_ble_eq_true rfl⟩) (xx_preV hK hN hP hD [0, 1, 2, 3, 4, 5, 6] (by decide) rfl 2 0 rfl rfl) rfl rfl hl.1 rfl (lv_room (Nat.le_of_ble_eq_true rfl)) dX2_tellOneDigest_9 ⟨Nat.le_of_ble_eq_true rfl, Nat.le_of_ble_eq_true rfl⟩) hP hD hS hA rfl rfl (by decide) (by decide) (fun r9 u9 H locs hw9 hP hD hS => ?_)
    rcases hw9 with ⟨j9, hj9, hx9, rfl⟩ | ⟨hq9, rfl⟩
    · have hx9 : i6 = j9 := (nI_eq (by omega) (by omega)).mp hx9
      subst hx9
      have hP : va_P D vwCl (bE k oe ec ew el ea ed et ex) H := hP
      have hD : va_D A (bE k oe ec ew el ea ed et ex) := hD
      refine lv_lstore (lv' := [(6, .long (ed i6)), (0, .ref (oe 0)), (1, .long a), (3, .int lv), (4, .long tm)]) hx hb dX2_tellOneDigest_12 hl (by decide) rfl (fun ls hl => ?_)
      refine lv_iconst (v := (nI 0)) hx hb dX2_tellOneDigest_14 (by decide) ?_
      refine lv_istore (lv' := [(8, .int (nI 0)), (6, .long (ed i6)), (0, .ref (oe 0)), (1, .long a), (3, .int lv), (4, .long tm)]) hx hb dX2_tellOneDigest_15 hl (by decide) rfl (fun ls hl => ?_)
      have loop17 : ∀ (dd : Nat) (i : Nat), ec + 1 ≤ i + dd → (i ≤ ec) → (∀ j, j < i → (ex j = false ∧ ea j = a ∧ ¬ (el j < lv) ∧ ¬ (tm < et j)) → ed j = (ed i6)) → ∀ (H : Heap) (locs : List Loc) (ls : Array Slot), va_P D vwCl (bE k oe ec ew el ea ed et ex) H → va_D A (bE k oe ec ew el ea ed et ex) → va_S A s.heap H locs → lv_has ls 9 [(0, .ref (oe 0)), (1, .long a), (3, .int lv), (4, .long tm), (6, .long (ed i6)), (8, .int (nI i))] → W p l e ({ frames := 3, cells := 0, slots := 0, locals := 73 } : Room) s m [.ref (oe 0), .long a, .int lv, .long tm].toArray below meth c H locs 0 0 (MQ below (va_Qi (p_E_one oe ec ew el ea ed et ex a lv tm) (xx_B D vwCl (xT k) A (fun (u : Unit) => bE k oe ec ew el ea ed et ex)) A) [.ref (oe 0), .long a, .int lv, .long tm].toArray s 0 0 A) (F0 m 17 ls []) := by
        intro dd
        induction dd with
        | zero =>
          intro i hm h2 h3
          exact absurd hm (by omega)
        | succ dd ih17 =>
          intro i hm h2 h3 H locs ls hP hD hS hl
          refine lv_iload hx hb dX2_tellOneDigest_17 (lv_at hl 5 rfl) ?_
          refine lv_aload_n hx hb dX2_tellOneDigest_19 rfl (lv_at hl 0 rfl) ?_
          refine va_get (D := D) (ci := 2) (v := .int (nI ec)) (C := RX2) (T := TX2) (N := 7) hx hb hts hinW hown hK hP 0 rfl rfl 6 (by decide) (hts _ tw_67) (fun _ h9 => h9) rfl dX2_tellOneDigest_20 ?_
          refine lv_icmp_ge (tgt := 60) hx hb dX2_tellOneDigest_23 (by decide) (fun c23 => ?_) (fun c23 => ?_)
          · have c23 : ec ≤ i := (nI_leI (by omega) (by omega)).mp c23
            refine lv_iconst (v := (nI 1)) hx hb dX2_tellOneDigest_60 (by decide) ?_
            refine xx_zret () hx hb hr hlocks rfl hS hK hP hD dX2_tellOneDigest_61 ?_
            exact xb_t (fun i1 z1 z2 j1 z3 z4 => (h3 i1 (by omega) z2).trans (h3 j1 (by omega) z4).symm)
          · have c23 : i < ec := Nat.lt_of_not_le (fun h => c23 ((nI_leI (by omega) (by omega)).mpr h))
            refine lv_aload_n hx hb dX2_tellOneDigest_26 rfl (lv_at hl 0 rfl) ?_
            refine lv_iload hx hb dX2_tellOneDigest_27 (lv_at hl 5 rfl) ?_
            refine lv_lload_n hx hb dX2_tellOneDigest_29 rfl (lv_at hl 1 rfl) ?_
            refine lv_iload_n hx hb dX2_tellOneDigest_30 rfl (lv_at hl 2 rfl) ?_
            refine lv_lload hx hb dX2_tellOneDigest_31 (lv_at hl 3 rfl) ?_
            refine xx_calli ([]) [0, 1, 2, 3, 4, 5, 6] [] (va_runV (As := [.int (nI i), .long a, .int lv, .long tm]) (rest := []) ⟨hx, hb, hml, hown, hts⟩ (c_E_counts l D k oe ec ew el ea ed et ex i a lv tm (by omega) (by omega) H.size) (cwV 4 hts (xx_gV tw_303 tw_305 ts_3 tw_4 tw_306) rfl rfl rfl (by decide +kernel) ⟨Nat.le_of_ble_eq_true rfl, Nat.le_of_ble_eq_true rfl⟩) (xx_preV hK hN hP hD [0, 1, 2, 3, 4, 5, 6] (by decide) rfl 2 0 rfl rfl) rfl rfl hl.1 rfl (lv_room (Nat.le_of_ble_eq_true rfl)) dX2_tellOneDigest_33 ⟨Nat.le_of_ble_eq_true rfl, Nat.le_of_ble_eq_true rfl⟩) hP hD hS hA rfl rfl (by decide) (by decide) (fun r33 u33 H locs hw33 hP hD hS => ?_)
            rcases hw33 with ⟨rfl, hq33⟩ | ⟨rfl, hq33⟩
            · have hP : va_P D vwCl (bE k oe ec ew el ea ed et ex) H := hP
              have hD : va_D A (bE k oe ec ew el ea ed et ex) := hD
              refine lv_if_eq (tgt := 54) hx hb dX2_tellOneDigest_36 (by decide) (fun c => absurd c (by decide)) (fun _ => ?_)
              refine lv_aload_n hx hb dX2_tellOneDigest_39 rfl (lv_at hl 0 rfl) ?_
              refine va_get (D := D) (ci := 2) (v := .ref (oe 4)) (C := RX2) (T := TX2) (N := 7) hx hb hts hinW hown hK hP 0 rfl rfl 3 (by decide) (hts _ tw_64) (fun _ h9 => h9) rfl dX2_tellOneDigest_40 ?_
              refine lv_iload hx hb dX2_tellOneDigest_43 (lv_at hl 5 rfl) ?_
              refine xx_lald hx hb hK hP 4 2 rfl rfl (show i < 100 by omega) (by decide) dX2_tellOneDigest_45 ?_
              refine lv_lload hx hb dX2_tellOneDigest_46 (lv_at hl 4 rfl) ?_
              refine W.lcmp hx hb dX2_tellOneDigest_48 ?_
              refine lv_if_eq (tgt := 54) hx hb dX2_tellOneDigest_49 (by decide) (fun c49 => ?_) (fun c49 => ?_)
              · have c49 : (ed i) = (ed i6) := (lg_cmp_eq (ed i) (ed i6)).mp c49
                refine lv_iinc (v := (nI (i + 1))) (lv' := [(8, .int (nI (i + 1))), (0, .ref (oe 0)), (1, .long a), (3, .int lv), (4, .long tm), (6, .long (ed i6))]) hx hb dX2_tellOneDigest_54 hl (k := 5) rfl (nI_1 i) (by decide) rfl (fun ls hl => ?_)
                refine lv_goto (tgt := 17) hx hb dX2_tellOneDigest_57 (by decide) ?_
                exact ih17 (i + 1) (by omega) (by omega) (by intro j z1 z3; rcases Nat.lt_or_ge j i with z | z; exact h3 j z z3; obtain rfl : j = i := (by omega); first | exact c49 | exact absurd z3 hq33) H locs ls hP hD hS (lv_sub hl [1, 2, 3, 4, 5, 0] rfl)
              · have c49 : ¬ ((ed i) = (ed i6)) := fun h => c49 ((lg_cmp_eq (ed i) (ed i6)).mpr h)
                refine lv_iconst (v := (nI 0)) hx hb dX2_tellOneDigest_52 (by decide) ?_
                refine xx_zret () hx hb hr hlocks rfl hS hK hP hD dX2_tellOneDigest_53 ?_
                first | exact xb_f (fun h => c49 (h i (by omega) hq33 i6 hi6 hq6)) | exact absurd hq33 (hq6 i (by omega))
            · have hP : va_P D vwCl (bE k oe ec ew el ea ed et ex) H := hP
              have hD : va_D A (bE k oe ec ew el ea ed et ex) := hD
              refine lv_if_eq (tgt := 54) hx hb dX2_tellOneDigest_36 (by decide) (fun _ => ?_) (fun c => absurd c (by decide))
              refine lv_iinc (v := (nI (i + 1))) (lv' := [(8, .int (nI (i + 1))), (0, .ref (oe 0)), (1, .long a), (3, .int lv), (4, .long tm), (6, .long (ed i6))]) hx hb dX2_tellOneDigest_54 hl (k := 5) rfl (nI_1 i) (by decide) rfl (fun ls hl => ?_)
              refine lv_goto (tgt := 17) hx hb dX2_tellOneDigest_57 (by decide) ?_
              exact ih17 (i + 1) (by omega) (by omega) (by intro j z1 z3; rcases Nat.lt_or_ge j i with z | z; exact h3 j z z3; obtain rfl : j = i := (by omega); first | exact c49 | exact absurd z3 hq33) H locs ls hP hD hS (lv_sub hl [1, 2, 3, 4, 5, 0] rfl)
      exact loop17 (ec + 1) 0 (by omega) (by omega) (by intro j z1; exact absurd z1 (by omega)) H locs ls hP hD hS (lv_sub hl [2, 3, 4, 5, 1, 0] rfl)
    · exact absurd ⟨i6, (by omega), rfl⟩ hq9
def p_bitCount (x : Int32) : Int32 → Unit → Prop := fun r u => r = xs_pop x
set_option maxHeartbeats 4000000 in
set_option maxRecDepth 100000 in
theorem c_bitCount (l : Launch) (D : va_G) (k : Nat → ClassId) (x : Int32) : xx_Ci l yJI_bitCount (.code yJI_bitCount cJI_bitCount 1 (some .int) :: xall) ({ frames := 0, cells := 0, slots := 0, locals := 0 } : Room) D vwCl (xT k) [.int x] ([]) (p_bitCount x) (fun (u : Unit) => []) 0 0 := by
  intro sz
  refine xx_met (Qf := fun A => va_Qi (p_bitCount x) (xx_B D vwCl (xT k) A (fun (u : Unit) => [])) A) (cc := cJI_bitCount) (maxL := 1) (ret := (some .int)) (by decide) rfl (Nat.le_of_ble_eq_true rfl) ?_
  intro p e s m below meth c A ls hx hb hr hts hown hlocks hin hml hA hS hP hD hK hN hl
  have hl : lv_has ls 1 [(0, .int x)] := hl
  have hown : s.vm.findClass RJI = some m.cls := hown
  refine lv_iload_n hx hb dJI_bitCount_0 rfl (lv_at hl 0 rfl) ?_
  refine lv_iload_n hx hb dJI_bitCount_1 rfl (lv_at hl 0 rfl) ?_
  refine lv_iconst (v := (nI 1)) hx hb dJI_bitCount_2 (by decide) ?_
  refine lv_iushr (v := (x.toUInt32 >>> ((nI 1).toUInt32 &&& Int32.toUInt32 31)).toInt32) hx hb dJI_bitCount_3 rfl ?_
  refine lv_ldcw (v := (nI 1431655765)) hx hb hown (hts _ tw_326) dJI_bitCount_4 ?_
  refine lv_iand hx hb dJI_bitCount_7 ?_
  refine lv_isub hx hb dJI_bitCount_8 ?_
  refine xx_topi (y := xs_pop1 x) rfl ?_
  refine lv_topi (fun x1 ex1 => ?_)
  refine lv_istore_n (lv' := [(0, .int x1)]) hx hb dJI_bitCount_9 rfl hl (by decide) rfl (fun ls hl => ?_)
  refine lv_iload_n hx hb dJI_bitCount_10 rfl (lv_at hl 0 rfl) ?_
  refine lv_ldcw (v := (nI 858993459)) hx hb hown (hts _ tw_327) dJI_bitCount_11 ?_
  refine lv_iand hx hb dJI_bitCount_14 ?_
  refine lv_iload_n hx hb dJI_bitCount_15 rfl (lv_at hl 0 rfl) ?_
  refine lv_iconst (v := (nI 2)) hx hb dJI_bitCount_16 (by decide) ?_
  refine lv_iushr (v := (x1.toUInt32 >>> ((nI 2).toUInt32 &&& Int32.toUInt32 31)).toInt32) hx hb dJI_bitCount_17 rfl ?_
  refine lv_ldcw (v := (nI 858993459)) hx hb hown (hts _ tw_327) dJI_bitCount_18 ?_
  refine lv_iand hx hb dJI_bitCount_21 ?_
  refine lv_iadd hx hb dJI_bitCount_22 ?_
  refine xx_topi (y := xs_pop2 x1) rfl ?_
  refine lv_topi (fun x2 ex2 => ?_)
  refine lv_istore_n (lv' := [(0, .int x2)]) hx hb dJI_bitCount_23 rfl hl (by decide) rfl (fun ls hl => ?_)
  refine lv_iload_n hx hb dJI_bitCount_24 rfl (lv_at hl 0 rfl) ?_
  refine lv_iload_n hx hb dJI_bitCount_25 rfl (lv_at hl 0 rfl) ?_
  refine lv_iconst (v := (nI 4)) hx hb dJI_bitCount_26 (by decide) ?_
  refine lv_iushr (v := (x2.toUInt32 >>> ((nI 4).toUInt32 &&& Int32.toUInt32 31)).toInt32) hx hb dJI_bitCount_27 rfl ?_
  refine lv_iadd hx hb dJI_bitCount_28 ?_
  refine lv_ldcw (v := (nI 252645135)) hx hb hown (hts _ tw_328) dJI_bitCount_29 ?_
  refine lv_iand hx hb dJI_bitCount_32 ?_
  refine xx_topi (y := xs_pop3 x2) rfl ?_
  refine lv_topi (fun x3 ex3 => ?_)
  refine lv_istore_n (lv' := [(0, .int x3)]) hx hb dJI_bitCount_33 rfl hl (by decide) rfl (fun ls hl => ?_)
  refine lv_iload_n hx hb dJI_bitCount_34 rfl (lv_at hl 0 rfl) ?_
  refine lv_iload_n hx hb dJI_bitCount_35 rfl (lv_at hl 0 rfl) ?_
  refine lv_bipush (v := (nI 8)) hx hb dJI_bitCount_36 (by decide) ?_
  refine lv_iushr (v := (x3.toUInt32 >>> ((nI 8).toUInt32 &&& Int32.toUInt32 31)).toInt32) hx hb dJI_bitCount_38 rfl ?_
  refine lv_iadd hx hb dJI_bitCount_39 ?_
  refine xx_topi (y := xs_pop4 x3) rfl ?_
  refine lv_topi (fun x4 ex4 => ?_)
  refine lv_istore_n (lv' := [(0, .int x4)]) hx hb dJI_bitCount_40 rfl hl (by decide) rfl (fun ls hl => ?_)
  refine lv_iload_n hx hb dJI_bitCount_41 rfl (lv_at hl 0 rfl) ?_
  refine lv_iload_n hx hb dJI_bitCount_42 rfl (lv_at hl 0 rfl) ?_
  refine lv_bipush (v := (nI 16)) hx hb dJI_bitCount_43 (by decide) ?_
  refine lv_iushr (v := (x4.toUInt32 >>> ((nI 16).toUInt32 &&& Int32.toUInt32 31)).toInt32) hx hb dJI_bitCount_45 rfl ?_
  refine lv_iadd hx hb dJI_bitCount_46 ?_
  refine xx_topi (y := xs_pop5 x4) rfl ?_
  refine lv_topi (fun x5 ex5 => ?_)
  refine lv_istore_n (lv' := [(0, .int x5)]) hx hb dJI_bitCount_47 rfl hl (by decide) rfl (fun ls hl => ?_)
  refine lv_iload_n hx hb dJI_bitCount_48 rfl (lv_at hl 0 rfl) ?_
  refine lv_bipush (v := (nI 63)) hx hb dJI_bitCount_49 (by decide) ?_
  refine lv_iand hx hb dJI_bitCount_51 ?_
  refine xx_iret () hx hb hr hlocks hS hK hP hD dJI_bitCount_52 ?_
  subst ex5 ex4 ex3 ex2 ex1
  exact rfl
def p_E_count (oe : Nat → Nat) (ec : Nat) (ew : Nat → Nat) (el : Nat → Int32) (ea : Nat → Int64) (ed : Nat → Int64) (et : Nat → Int64) (ex : Nat → Bool) (a : Int64) (lv : Int32) (tm : Int64) : Int32 → Unit → Prop := fun r u => r = xs_pop (xs_seen (fun j => decide (ex j = false ∧ ea j = a ∧ ¬ (el j < lv) ∧ ¬ (tm < et j))) ew ec)
set_option maxHeartbeats 4000000 in
set_option maxRecDepth 100000 in
theorem c_E_count (l : Launch) (D : va_G) (k : Nat → ClassId) (oe : Nat → Nat) (ec : Nat) (ew : Nat → Nat) (el : Nat → Int32) (ea : Nat → Int64) (ed : Nat → Int64) (et : Nat → Int64) (ex : Nat → Bool) (a : Int64) (lv : Int32) (tm : Int64) (hec : ec ≤ 100) (hew : ∀ i, ew i < 12) : xx_Ci l yX2_countWriters (.code yX2_countWriters cX2_countWriters 8 (some .int) :: xall) ({ frames := 2, cells := 0, slots := 0, locals := 47 } : Room) D vwCl (xT k) [.ref (oe 0), .long a, .int lv, .long tm] (bE k oe ec ew el ea ed et ex) (p_E_count oe ec ew el ea ed et ex a lv tm) (fun (u : Unit) => bE k oe ec ew el ea ed et ex) 0 0 := by
  intro sz
  refine xx_met (Qf := fun A => va_Qi (p_E_count oe ec ew el ea ed et ex a lv tm) (xx_B D vwCl (xT k) A (fun (u : Unit) => bE k oe ec ew el ea ed et ex)) A) (cc := cX2_countWriters) (maxL := 8) (ret := (some .int)) (by decide) rfl (Nat.le_of_ble_eq_true rfl) ?_
  intro p e s m below meth c A ls hx hb hr hts hown hlocks hin hml hA hS hP hD hK hN hl
  have hl : lv_has ls 8 [(0, .ref (oe 0)), (1, .long a), (3, .int lv), (4, .long tm)] := hl
  have hown : s.vm.findClass RX2 = some m.cls := hown
  have hinW := inX2
  refine lv_iconst (v := (nI 0)) hx hb dX2_countWriters_0 (by decide) ?_
  refine lv_istore (lv' := [(6, .int (nI 0)), (0, .ref (oe 0)), (1, .long a), (3, .int lv), (4, .long tm)]) hx hb dX2_countWriters_1 hl (by decide) rfl (fun ls hl => ?_)
  refine lv_iconst (v := (nI 0)) hx hb dX2_countWriters_3 (by decide) ?_
  refine lv_istore (lv' := [(7, .int (nI 0)), (6, .int (nI 0)), (0, .ref (oe 0)), (1, .long a), (3, .int lv), (4, .long tm)]) hx hb dX2_countWriters_4 hl (by decide) rfl (fun ls hl => ?_)
  have loop6 : ∀ (dd : Nat) (i : Nat) (v : Int32), ec + 1 ≤ i + dd → (i ≤ ec) → (v = xs_seen (fun j => decide (ex j = false ∧ ea j = a ∧ ¬ (el j < lv) ∧ ¬ (tm < et j))) ew i) → ∀ (H : Heap) (locs : List Loc) (ls : Array Slot), va_P D vwCl (bE k oe ec ew el ea ed et ex) H → va_D A (bE k oe ec ew el ea ed et ex) → va_S A s.heap H locs → lv_has ls 8 [(0, .ref (oe 0)), (1, .long a), (3, .int lv), (4, .long tm), (6, .int v), (7, .int (nI i))] → W p l e ({ frames := 2, cells := 0, slots := 0, locals := 47 } : Room) s m [.ref (oe 0), .long a, .int lv, .long tm].toArray below meth c H locs 0 0 (MQ below (va_Qi (p_E_count oe ec ew el ea ed et ex a lv tm) (xx_B D vwCl (xT k) A (fun (u : Unit) => bE k oe ec ew el ea ed et ex)) A) [.ref (oe 0), .long a, .int lv, .long tm].toArray s 0 0 A) (F0 m 6 ls []) := by
    intro dd
    induction dd with
    | zero =>
      intro i v hm h2 h3
      exact absurd hm (by omega)
    | succ dd ih6 =>
      intro i v hm h2 h3 H locs ls hP hD hS hl
      refine lv_iload hx hb dX2_countWriters_6 (lv_at hl 5 rfl) ?_
      refine lv_aload_n hx hb dX2_countWriters_8 rfl (lv_at hl 0 rfl) ?_
      refine va_get (D := D) (ci := 2) (v := .int (nI ec)) (C := RX2) (T := TX2) (N := 7) hx hb hts hinW hown hK hP 0 rfl rfl 6 (by decide) (hts _ tw_67) (fun _ h9 => h9) rfl dX2_countWriters_9 ?_
      refine lv_icmp_ge (tgt := 48) hx hb dX2_countWriters_12 (by decide) (fun c12 => ?_) (fun c12 => ?_)
      · have c12 : ec ≤ i := (nI_leI (by omega) (by omega)).mp c12
        refine lv_iload hx hb dX2_countWriters_48 (lv_at hl 4 rfl) ?_
        refine xx_calli (bE k oe ec ew el ea ed et ex) [] [0, 1, 2, 3, 4, 5, 6] (va_runS (As := [.int v]) (rest := []) ⟨hx, hb, hml, hown, hts⟩ (c_bitCount l D k v H.size) (va_cwS 1 hts (xx_gS tw_323 tw_324 tw_9 tw_325) rfl rfl rfl (by decide +kernel) ⟨Nat.le_of_ble_eq_true rfl, Nat.le_of_ble_eq_true rfl⟩) (xx_preS hK hN hP hD [] (by decide) rfl) rfl rfl hl.1 rfl (lv_room (Nat.le_of_ble_eq_true rfl)) dX2_countWriters_50 ⟨Nat.le_of_ble_eq_true rfl, Nat.le_of_ble_eq_true rfl⟩) hP hD hS hA rfl rfl (by decide) (by decide) (fun r50 u50 H locs hw50 hP hD hS => ?_)
        obtain rfl := hw50
        have hP : va_P D vwCl (bE k oe ec ew el ea ed et ex) H := hP
        have hD : va_D A (bE k oe ec ew el ea ed et ex) := hD
        refine xx_iret () hx hb hr hlocks hS hK hP hD dX2_countWriters_53 ?_
        obtain rfl : i = ec := by omega
        rw [h3]; rfl
      · have c12 : i < ec := Nat.lt_of_not_le (fun h => c12 ((nI_leI (by omega) (by omega)).mpr h))
        refine lv_aload_n hx hb dX2_countWriters_15 rfl (lv_at hl 0 rfl) ?_
        refine lv_iload hx hb dX2_countWriters_16 (lv_at hl 5 rfl) ?_
        refine lv_lload_n hx hb dX2_countWriters_18 rfl (lv_at hl 1 rfl) ?_
        refine lv_iload_n hx hb dX2_countWriters_19 rfl (lv_at hl 2 rfl) ?_
        refine lv_lload hx hb dX2_countWriters_20 (lv_at hl 3 rfl) ?_
        refine xx_calli ([]) [0, 1, 2, 3, 4, 5, 6] [] (va_runV (As := [.int (nI i), .long a, .int lv, .long tm]) (rest := []) ⟨hx, hb, hml, hown, hts⟩ (c_E_counts l D k oe ec ew el ea ed et ex i a lv tm (by omega) (by omega) H.size) (cwV 4 hts (xx_gV tw_303 tw_305 ts_3 tw_4 tw_306) rfl rfl rfl (by decide +kernel) ⟨Nat.le_of_ble_eq_true rfl, Nat.le_of_ble_eq_true rfl⟩) (xx_preV hK hN hP hD [0, 1, 2, 3, 4, 5, 6] (by decide) rfl 2 0 rfl rfl) rfl rfl hl.1 rfl (lv_room (Nat.le_of_ble_eq_true rfl)) dX2_countWriters_22 ⟨Nat.le_of_ble_eq_true rfl, Nat.le_of_ble_eq_true rfl⟩) hP hD hS hA rfl rfl (by decide) (by decide) (fun r22 u22 H locs hw22 hP hD hS => ?_)
        rcases hw22 with ⟨rfl, hq22⟩ | ⟨rfl, hq22⟩
        · have hP : va_P D vwCl (bE k oe ec ew el ea ed et ex) H := hP
          have hD : va_D A (bE k oe ec ew el ea ed et ex) := hD
          refine lv_if_eq (tgt := 42) hx hb dX2_countWriters_25 (by decide) (fun c => absurd c (by decide)) (fun _ => ?_)
          refine lv_iload hx hb dX2_countWriters_28 (lv_at hl 4 rfl) ?_
          refine lv_iconst (v := (nI 1)) hx hb dX2_countWriters_30 (by decide) ?_
          refine lv_aload_n hx hb dX2_countWriters_31 rfl (lv_at hl 0 rfl) ?_
          refine va_get (D := D) (ci := 2) (v := .ref (oe 1)) (C := RX2) (T := TX2) (N := 7) hx hb hts hinW hown hK hP 0 rfl rfl 0 (by decide) (hts _ tw_61) (fun _ h9 => h9) rfl dX2_countWriters_32 ?_
          refine lv_iload hx hb dX2_countWriters_35 (lv_at hl 5 rfl) ?_
          refine xx_iald hx hb hK hP 1 0 rfl rfl (show i < 100 by omega) (by decide) dX2_countWriters_37 ?_
          refine lv_ishl hx hb dX2_countWriters_38 ?_
          refine lv_ior hx hb dX2_countWriters_39 ?_
          refine lv_istore (lv' := [(6, .int (v ||| ((nI 1) <<< ((nI (ew i)) &&& 31)))), (0, .ref (oe 0)), (1, .long a), (3, .int lv), (4, .long tm), (7, .int (nI i))]) hx hb dX2_countWriters_40 hl (by decide) rfl (fun ls hl => ?_)
          refine lv_iinc (v := (nI (i + 1))) (lv' := [(7, .int (nI (i + 1))), (6, .int (v ||| ((nI 1) <<< ((nI (ew i)) &&& 31)))), (0, .ref (oe 0)), (1, .long a), (3, .int lv), (4, .long tm)]) hx hb dX2_countWriters_42 hl (k := 5) rfl (nI_1 i) (by decide) rfl (fun ls hl => ?_)
          refine lv_goto (tgt := 6) hx hb dX2_countWriters_45 (by decide) ?_
          exact ih6 (i + 1) (v ||| ((nI 1) <<< ((nI (ew i)) &&& 31))) (by omega) (by omega) (by subst h3; first | exact (xs_seen_yes (decide_eq_true hq22)).symm | exact (xs_seen_no (decide_eq_false hq22)).symm) H locs ls hP hD hS (lv_sub hl [2, 3, 4, 5, 1, 0] rfl)
        · have hP : va_P D vwCl (bE k oe ec ew el ea ed et ex) H := hP
          have hD : va_D A (bE k oe ec ew el ea ed et ex) := hD
          refine lv_if_eq (tgt := 42) hx hb dX2_countWriters_25 (by decide) (fun _ => ?_) (fun c => absurd c (by decide))
          refine lv_iinc (v := (nI (i + 1))) (lv' := [(7, .int (nI (i + 1))), (0, .ref (oe 0)), (1, .long a), (3, .int lv), (4, .long tm), (6, .int v)]) hx hb dX2_countWriters_42 hl (k := 5) rfl (nI_1 i) (by decide) rfl (fun ls hl => ?_)
          refine lv_goto (tgt := 6) hx hb dX2_countWriters_45 (by decide) ?_
          exact ih6 (i + 1) v (by omega) (by omega) (by subst h3; first | exact (xs_seen_yes (decide_eq_true hq22)).symm | exact (xs_seen_no (decide_eq_false hq22)).symm) H locs ls hP hD hS (lv_sub hl [1, 2, 3, 4, 5, 0] rfl)
  exact loop6 (ec + 1) 0 (nI 0) (by omega) (by omega) (by rfl) s.heap _ ls hP hD hS (lv_sub hl [2, 3, 4, 5, 1, 0] rfl)
end
section
theorem dX1_add_0 : decode cX1_add 0 = .ok (.aload_n 0, 1) := by decide +kernel
theorem dX1_add_1 : decode cX1_add 1 = .ok (.getfield 22, 3) := by decide +kernel
theorem dX1_add_4 : decode cX1_add 4 = .ok (.bipush 50, 2) := by decide +kernel
theorem dX1_add_6 : decode cX1_add 6 = .ok (.if_icmp .lt 4, 3) := by decide +kernel
theorem dX1_add_9 : decode cX1_add 9 = .ok (.return_, 1) := by decide +kernel
theorem dX1_add_10 : decode cX1_add 10 = .ok (.aload_n 0, 1) := by decide +kernel
theorem dX1_add_11 : decode cX1_add 11 = .ok (.getfield 9, 3) := by decide +kernel
theorem dX1_add_14 : decode cX1_add 14 = .ok (.aload_n 0, 1) := by decide +kernel
theorem dX1_add_15 : decode cX1_add 15 = .ok (.getfield 22, 3) := by decide +kernel
theorem dX1_add_18 : decode cX1_add 18 = .ok (.lload_n 1, 1) := by decide +kernel
theorem dX1_add_19 : decode cX1_add 19 = .ok (.lastore, 1) := by decide +kernel
theorem dX1_add_20 : decode cX1_add 20 = .ok (.aload_n 0, 1) := by decide +kernel
theorem dX1_add_21 : decode cX1_add 21 = .ok (.getfield 15, 3) := by decide +kernel
theorem dX1_add_24 : decode cX1_add 24 = .ok (.aload_n 0, 1) := by decide +kernel
theorem dX1_add_25 : decode cX1_add 25 = .ok (.getfield 22, 3) := by decide +kernel
theorem dX1_add_28 : decode cX1_add 28 = .ok (.iload_n 3, 1) := by decide +kernel
theorem dX1_add_29 : decode cX1_add 29 = .ok (.iastore, 1) := by decide +kernel
theorem dX1_add_30 : decode cX1_add 30 = .ok (.aload_n 0, 1) := by decide +kernel
theorem dX1_add_31 : decode cX1_add 31 = .ok (.getfield 19, 3) := by decide +kernel
theorem dX1_add_34 : decode cX1_add 34 = .ok (.aload_n 0, 1) := by decide +kernel
theorem dX1_add_35 : decode cX1_add 35 = .ok (.getfield 22, 3) := by decide +kernel
theorem dX1_add_38 : decode cX1_add 38 = .ok (.iload 4, 2) := by decide +kernel
theorem dX1_add_40 : decode cX1_add 40 = .ok (.iastore, 1) := by decide +kernel
theorem dX1_add_41 : decode cX1_add 41 = .ok (.aload_n 0, 1) := by decide +kernel
theorem dX1_add_42 : decode cX1_add 42 = .ok (.dup, 1) := by decide +kernel
theorem dX1_add_43 : decode cX1_add 43 = .ok (.getfield 22, 3) := by decide +kernel
theorem dX1_add_46 : decode cX1_add 46 = .ok (.iconst 1, 1) := by decide +kernel
theorem dX1_add_47 : decode cX1_add 47 = .ok (.iadd, 1) := by decide +kernel
theorem dX1_add_48 : decode cX1_add 48 = .ok (.putfield 22, 3) := by decide +kernel
theorem dX1_add_51 : decode cX1_add 51 = .ok (.return_, 1) := by decide +kernel
theorem dX1_has_0 : decode cX1_has 0 = .ok (.iconst 0, 1) := by decide +kernel
theorem dX1_has_1 : decode cX1_has 1 = .ok (.istore_n 3, 1) := by decide +kernel
theorem dX1_has_2 : decode cX1_has 2 = .ok (.iload_n 3, 1) := by decide +kernel
theorem dX1_has_3 : decode cX1_has 3 = .ok (.aload_n 0, 1) := by decide +kernel
theorem dX1_has_4 : decode cX1_has 4 = .ok (.getfield 22, 3) := by decide +kernel
theorem dX1_has_7 : decode cX1_has 7 = .ok (.if_icmp .ge 22, 3) := by decide +kernel
theorem dX1_has_10 : decode cX1_has 10 = .ok (.aload_n 0, 1) := by decide +kernel
theorem dX1_has_11 : decode cX1_has 11 = .ok (.getfield 9, 3) := by decide +kernel
theorem dX1_has_14 : decode cX1_has 14 = .ok (.iload_n 3, 1) := by decide +kernel
theorem dX1_has_15 : decode cX1_has 15 = .ok (.laload, 1) := by decide +kernel
theorem dX1_has_16 : decode cX1_has 16 = .ok (.lload_n 1, 1) := by decide +kernel
theorem dX1_has_17 : decode cX1_has 17 = .ok (.lcmp, 1) := by decide +kernel
theorem dX1_has_18 : decode cX1_has 18 = .ok (.ifCond .ne 5, 3) := by decide +kernel
theorem dX1_has_21 : decode cX1_has 21 = .ok (.iconst 1, 1) := by decide +kernel
theorem dX1_has_22 : decode cX1_has 22 = .ok (.ireturn, 1) := by decide +kernel
theorem dX1_has_23 : decode cX1_has 23 = .ok (.iinc 3 1, 3) := by decide +kernel
theorem dX1_has_26 : decode cX1_has 26 = .ok (.goto (-24), 3) := by decide +kernel
theorem dX1_has_29 : decode cX1_has 29 = .ok (.iconst 0, 1) := by decide +kernel
theorem dX1_has_30 : decode cX1_has 30 = .ok (.ireturn, 1) := by decide +kernel
theorem dX1_numberAt_0 : decode cX1_numberAt 0 = .ok (.iload_n 1, 1) := by decide +kernel
theorem dX1_numberAt_1 : decode cX1_numberAt 1 = .ok (.ifCond .lt 11, 3) := by decide +kernel
theorem dX1_numberAt_4 : decode cX1_numberAt 4 = .ok (.iload_n 1, 1) := by decide +kernel
theorem dX1_numberAt_5 : decode cX1_numberAt 5 = .ok (.aload_n 0, 1) := by decide +kernel
theorem dX1_numberAt_6 : decode cX1_numberAt 6 = .ok (.getfield 22, 3) := by decide +kernel
theorem dX1_numberAt_9 : decode cX1_numberAt 9 = .ok (.if_icmp .lt 5, 3) := by decide +kernel
theorem dX1_numberAt_12 : decode cX1_numberAt 12 = .ok (.iconst (-1), 1) := by decide +kernel
theorem dX1_numberAt_13 : decode cX1_numberAt 13 = .ok (.ireturn, 1) := by decide +kernel
theorem dX1_numberAt_14 : decode cX1_numberAt 14 = .ok (.iload_n 2, 1) := by decide +kernel
theorem dX1_numberAt_15 : decode cX1_numberAt 15 = .ok (.lookupswitch 39 #[(0, 25), (1, 32)], 25) := by decide +kernel
theorem dX1_numberAt_40 : decode cX1_numberAt 40 = .ok (.aload_n 0, 1) := by decide +kernel
theorem dX1_numberAt_41 : decode cX1_numberAt 41 = .ok (.getfield 15, 3) := by decide +kernel
theorem dX1_numberAt_44 : decode cX1_numberAt 44 = .ok (.iload_n 1, 1) := by decide +kernel
theorem dX1_numberAt_45 : decode cX1_numberAt 45 = .ok (.iaload, 1) := by decide +kernel
theorem dX1_numberAt_46 : decode cX1_numberAt 46 = .ok (.ireturn, 1) := by decide +kernel
theorem dX1_numberAt_47 : decode cX1_numberAt 47 = .ok (.aload_n 0, 1) := by decide +kernel
theorem dX1_numberAt_48 : decode cX1_numberAt 48 = .ok (.getfield 19, 3) := by decide +kernel
theorem dX1_numberAt_51 : decode cX1_numberAt 51 = .ok (.iload_n 1, 1) := by decide +kernel
theorem dX1_numberAt_52 : decode cX1_numberAt 52 = .ok (.iaload, 1) := by decide +kernel
theorem dX1_numberAt_53 : decode cX1_numberAt 53 = .ok (.ireturn, 1) := by decide +kernel
theorem dX1_numberAt_54 : decode cX1_numberAt 54 = .ok (.iconst (-1), 1) := by decide +kernel
theorem dX1_numberAt_55 : decode cX1_numberAt 55 = .ok (.ireturn, 1) := by decide +kernel
def p_C_add (oc : Nat → Nat) (cc : Nat) (ca : Nat → Int64) (cl : Nat → Int32) (ch : Nat → Int32) (a : Int64) (x : Int32) (y : Int32) : (Nat × (Nat → Int64) × (Nat → Int32) × (Nat → Int32)) → Prop := fun u => (50 ≤ cc ∧ u = (cc, ca, cl, ch)) ∨ (cc < 50 ∧ u = (cc + 1, vp_updL ca cc a, upd cl cc x, upd ch cc y))
set_option maxHeartbeats 4000000 in
set_option maxRecDepth 100000 in
theorem c_C_add (l : Launch) (D : va_G) (k : Nat → ClassId) (oc : Nat → Nat) (cc : Nat) (ca : Nat → Int64) (cl : Nat → Int32) (ch : Nat → Int32) (a : Int64) (x : Int32) (y : Int32) (hcc : cc ≤ 50) : xx_Cv l yX1_add (.code yX1_add cX1_add 5 none :: xall) ({ frames := 0, cells := 0, slots := 0, locals := 0 } : Room) D vwCl (xT k) [.ref (oc 0), .long a, .int x, .int y] (bC k oc cc ca cl ch) (p_C_add oc cc ca cl ch a x y) (fun (u : Nat × (Nat → Int64) × (Nat → Int32) × (Nat → Int32)) => bC k oc u.1 u.2.1 u.2.2.1 u.2.2.2) 0 0 := by
  intro sz
  refine xx_met (Qf := fun A => va_Qv (p_C_add oc cc ca cl ch a x y) (xx_B D vwCl (xT k) A (fun (u : Nat × (Nat → Int64) × (Nat → Int32) × (Nat → Int32)) => bC k oc u.1 u.2.1 u.2.2.1 u.2.2.2)) A) (cc := cX1_add) (maxL := 5) (ret := none) (by decide) rfl (Nat.le_of_ble_eq_true rfl) ?_
  intro p e s m below meth c A ls hx hb hr hts hown hlocks hin hml hA hS hP hD hK hN hl
  have hl : lv_has ls 5 [(0, .ref (oc 0)), (1, .long a), (3, .int x), (4, .int y)] := hl
  have hown : s.vm.findClass RX1 = some m.cls := hown
  have hinW := inX1
  refine lv_aload_n hx hb dX1_add_0 rfl (lv_at hl 0 rfl) ?_
  refine va_get (D := D) (ci := 1) (v := .int (nI cc)) (C := RX1) (T := TX1) (N := 4) hx hb hts hinW hown hK hP 0 rfl rfl 3 (by decide) (hts _ tw_92) (fun _ h9 => h9) rfl dX1_add_1 ?_
  refine lv_bipush (v := (nI 50)) hx hb dX1_add_4 (by decide) ?_
  refine lv_icmp_lt (tgt := 10) hx hb dX1_add_6 (by decide) (fun c6 => ?_) (fun c6 => ?_)
  · have c6 : cc < 50 := (nI_ltI (by omega) (by omega)).mp c6
    refine lv_aload_n hx hb dX1_add_10 rfl (lv_at hl 0 rfl) ?_
    refine va_get (D := D) (ci := 1) (v := .ref (oc 1)) (C := RX1) (T := TX1) (N := 4) hx hb hts hinW hown hK hP 0 rfl rfl 0 (by decide) (hts _ tw_89) (fun _ h9 => h9) rfl dX1_add_11 ?_
    refine lv_aload_n hx hb dX1_add_14 rfl (lv_at hl 0 rfl) ?_
    refine va_get (D := D) (ci := 1) (v := .int (nI cc)) (C := RX1) (T := TX1) (N := 4) hx hb hts hinW hown hK hP 0 rfl rfl 3 (by decide) (hts _ tw_92) (fun _ h9 => h9) rfl dX1_add_15 ?_
    refine lv_lload_n hx hb dX1_add_18 rfl (lv_at hl 1 rfl) ?_
    refine xx_last (g := (vp_updL ca cc a)) hx hb hK hP hD hS 1 2 rfl rfl (show cc < 50 by omega) (by decide) rfl dX1_add_19 (fun H locs hP hD hS => ?_)
    have hP : va_P D vwCl (bC k oc cc (vp_updL ca cc a) cl ch) H := hP
    have hD : va_D A (bC k oc cc (vp_updL ca cc a) cl ch) := hD
    refine lv_aload_n hx hb dX1_add_20 rfl (lv_at hl 0 rfl) ?_
    refine va_get (D := D) (ci := 1) (v := .ref (oc 2)) (C := RX1) (T := TX1) (N := 4) hx hb hts hinW hown hK hP 0 rfl rfl 1 (by decide) (hts _ tw_90) (fun _ h9 => h9) rfl dX1_add_21 ?_
    refine lv_aload_n hx hb dX1_add_24 rfl (lv_at hl 0 rfl) ?_
    refine va_get (D := D) (ci := 1) (v := .int (nI cc)) (C := RX1) (T := TX1) (N := 4) hx hb hts hinW hown hK hP 0 rfl rfl 3 (by decide) (hts _ tw_92) (fun _ h9 => h9) rfl dX1_add_25 ?_
    refine lv_iload_n hx hb dX1_add_28 rfl (lv_at hl 2 rfl) ?_
    refine xx_iast (g := (upd cl cc x)) hx hb hK hP hD hS 2 0 rfl rfl (show cc < 50 by omega) (by decide) rfl dX1_add_29 (fun H locs hP hD hS => ?_)
    have hP : va_P D vwCl (bC k oc cc (vp_updL ca cc a) (upd cl cc x) ch) H := hP
    have hD : va_D A (bC k oc cc (vp_updL ca cc a) (upd cl cc x) ch) := hD
    refine lv_aload_n hx hb dX1_add_30 rfl (lv_at hl 0 rfl) ?_
    refine va_get (D := D) (ci := 1) (v := .ref (oc 3)) (C := RX1) (T := TX1) (N := 4) hx hb hts hinW hown hK hP 0 rfl rfl 2 (by decide) (hts _ tw_91) (fun _ h9 => h9) rfl dX1_add_31 ?_
    refine lv_aload_n hx hb dX1_add_34 rfl (lv_at hl 0 rfl) ?_
    refine va_get (D := D) (ci := 1) (v := .int (nI cc)) (C := RX1) (T := TX1) (N := 4) hx hb hts hinW hown hK hP 0 rfl rfl 3 (by decide) (hts _ tw_92) (fun _ h9 => h9) rfl dX1_add_35 ?_
    refine lv_iload hx hb dX1_add_38 (lv_at hl 3 rfl) ?_
    refine xx_iast (g := (upd ch cc y)) hx hb hK hP hD hS 3 0 rfl rfl (show cc < 50 by omega) (by decide) rfl dX1_add_40 (fun H locs hP hD hS => ?_)
    have hP : va_P D vwCl (bC k oc cc (vp_updL ca cc a) (upd cl cc x) (upd ch cc y)) H := hP
    have hD : va_D A (bC k oc cc (vp_updL ca cc a) (upd cl cc x) (upd ch cc y)) := hD
    refine lv_aload_n hx hb dX1_add_41 rfl (lv_at hl 0 rfl) ?_
    refine lv_dup hx hb dX1_add_42 rfl ?_
    refine va_get (D := D) (ci := 1) (v := .int (nI cc)) (C := RX1) (T := TX1) (N := 4) hx hb hts hinW hown hK hP 0 rfl rfl 3 (by decide) (hts _ tw_92) (fun _ h9 => h9) rfl dX1_add_43 ?_
    refine lv_iconst (v := (nI 1)) hx hb dX1_add_46 (by decide) ?_
    refine lv_iadd hx hb dX1_add_47 ?_
    refine xx_topi (nI_add cc 1) ?_
    refine va_put (D := D) (ci := 1) (v := .int (nI (cc + 1))) (ty := .int) (C := RX1) (T := TX1) (N := 4) hx hb hts hinW tyX1 tyX1_ok nmX1 hown hK hP hD hS 0 rfl rfl 3 (by decide) (hts _ tw_92) (fun _ h9 => h9) rfl (by decide +kernel) rfl rfl (Nat.le_of_ble_eq_true rfl) dX1_add_48 (fun H locs hP hD hS => ?_)
    have hP : va_P D vwCl (bC k oc (cc + 1) (vp_updL ca cc a) (upd cl cc x) (upd ch cc y)) H := hP
    have hD : va_D A (bC k oc (cc + 1) (vp_updL ca cc a) (upd cl cc x) (upd ch cc y)) := hD
    refine xx_vret (cc + 1, (vp_updL ca cc a), (upd cl cc x), (upd ch cc y)) hx hb hr hlocks hS hK hP hD dX1_add_51 ?_
    exact Or.inr ⟨c6, rfl⟩
  · have c6 : 50 ≤ cc := Nat.le_of_not_lt (fun h => c6 ((nI_ltI (by omega) (by omega)).mpr h))
    refine xx_vret (cc, ca, cl, ch) hx hb hr hlocks hS hK hP hD dX1_add_9 ?_
    exact Or.inl ⟨c6, rfl⟩
def p_C_has (oc : Nat → Nat) (cc : Nat) (ca : Nat → Int64) (cl : Nat → Int32) (ch : Nat → Int32) (a : Int64) : Int32 → Unit → Prop := fun r u => xb r (∃ i, i < cc ∧ ca i = a)
set_option maxHeartbeats 4000000 in
set_option maxRecDepth 100000 in
theorem c_C_has (l : Launch) (D : va_G) (k : Nat → ClassId) (oc : Nat → Nat) (cc : Nat) (ca : Nat → Int64) (cl : Nat → Int32) (ch : Nat → Int32) (a : Int64) (hcc : cc ≤ 50) : xx_Ci l yX1_has (.code yX1_has cX1_has 4 (some .boolean) :: xall) ({ frames := 0, cells := 0, slots := 0, locals := 0 } : Room) D vwCl (xT k) [.ref (oc 0), .long a] (bC k oc cc ca cl ch) (p_C_has oc cc ca cl ch a) (fun (u : Unit) => bC k oc cc ca cl ch) 0 0 := by
  intro sz
  refine xx_met (Qf := fun A => va_Qi (p_C_has oc cc ca cl ch a) (xx_B D vwCl (xT k) A (fun (u : Unit) => bC k oc cc ca cl ch)) A) (cc := cX1_has) (maxL := 4) (ret := (some .boolean)) (by decide) rfl (Nat.le_of_ble_eq_true rfl) ?_
  intro p e s m below meth c A ls hx hb hr hts hown hlocks hin hml hA hS hP hD hK hN hl
  have hl : lv_has ls 4 [(0, .ref (oc 0)), (1, .long a)] := hl
  have hown : s.vm.findClass RX1 = some m.cls := hown
  have hinW := inX1
  refine lv_iconst (v := (nI 0)) hx hb dX1_has_0 (by decide) ?_
  refine lv_istore_n (lv' := [(3, .int (nI 0)), (0, .ref (oc 0)), (1, .long a)]) hx hb dX1_has_1 rfl hl (by decide) rfl (fun ls hl => ?_)
  have loop2 : ∀ (dd : Nat) (i : Nat), cc + 1 ≤ i + dd → (i ≤ cc) → (∀ j, j < i → ¬ ca j = a) → ∀ (H : Heap) (locs : List Loc) (ls : Array Slot), va_P D vwCl (bC k oc cc ca cl ch) H → va_D A (bC k oc cc ca cl ch) → va_S A s.heap H locs → lv_has ls 4 [(0, .ref (oc 0)), (1, .long a), (3, .int (nI i))] → W p l e ({ frames := 0, cells := 0, slots := 0, locals := 0 } : Room) s m [.ref (oc 0), .long a].toArray below meth c H locs 0 0 (MQ below (va_Qi (p_C_has oc cc ca cl ch a) (xx_B D vwCl (xT k) A (fun (u : Unit) => bC k oc cc ca cl ch)) A) [.ref (oc 0), .long a].toArray s 0 0 A) (F0 m 2 ls []) := by
    intro dd
    induction dd with
    | zero =>
      intro i hm h2 h3
      exact absurd hm (by omega)
    | succ dd ih2 =>
      intro i hm h2 h3 H locs ls hP hD hS hl
      refine lv_iload_n hx hb dX1_has_2 rfl (lv_at hl 2 rfl) ?_
      refine lv_aload_n hx hb dX1_has_3 rfl (lv_at hl 0 rfl) ?_
      refine va_get (D := D) (ci := 1) (v := .int (nI cc)) (C := RX1) (T := TX1) (N := 4) hx hb hts hinW hown hK hP 0 rfl rfl 3 (by decide) (hts _ tw_92) (fun _ h9 => h9) rfl dX1_has_4 ?_
      refine lv_icmp_ge (tgt := 29) hx hb dX1_has_7 (by decide) (fun c7 => ?_) (fun c7 => ?_)
      · have c7 : cc ≤ i := (nI_leI (by omega) (by omega)).mp c7
        refine lv_iconst (v := (nI 0)) hx hb dX1_has_29 (by decide) ?_
        refine xx_zret () hx hb hr hlocks rfl hS hK hP hD dX1_has_30 ?_
        exact xb_f (fun ⟨j, z1, z3⟩ => h3 j (by omega) z3)
      · have c7 : i < cc := Nat.lt_of_not_le (fun h => c7 ((nI_leI (by omega) (by omega)).mpr h))
        refine lv_aload_n hx hb dX1_has_10 rfl (lv_at hl 0 rfl) ?_
        refine va_get (D := D) (ci := 1) (v := .ref (oc 1)) (C := RX1) (T := TX1) (N := 4) hx hb hts hinW hown hK hP 0 rfl rfl 0 (by decide) (hts _ tw_89) (fun _ h9 => h9) rfl dX1_has_11 ?_
        refine lv_iload_n hx hb dX1_has_14 rfl (lv_at hl 2 rfl) ?_
        refine xx_lald hx hb hK hP 1 2 rfl rfl (show i < 50 by omega) (by decide) dX1_has_15 ?_
        refine lv_lload_n hx hb dX1_has_16 rfl (lv_at hl 1 rfl) ?_
        refine W.lcmp hx hb dX1_has_17 ?_
        refine lv_if_ne (tgt := 23) hx hb dX1_has_18 (by decide) (fun c18 => ?_) (fun c18 => ?_)
        · have c18 : ¬ ((ca i) = a) := fun h => c18 ((lg_cmp_eq (ca i) a).mpr h)
          refine lv_iinc (v := (nI (i + 1))) (lv' := [(3, .int (nI (i + 1))), (0, .ref (oc 0)), (1, .long a)]) hx hb dX1_has_23 hl (k := 2) rfl (nI_1 i) (by decide) rfl (fun ls hl => ?_)
          refine lv_goto (tgt := 2) hx hb dX1_has_26 (by decide) ?_
          exact ih2 (i + 1) (by omega) (by omega) (by intro j z1 z3; rcases Nat.lt_or_ge j i with z | z; exact h3 j z z3; obtain rfl : j = i := (by omega); exact c18 z3) H locs ls hP hD hS (lv_sub hl [1, 2, 0] rfl)
        · have c18 : (ca i) = a := (lg_cmp_eq (ca i) a).mp c18
          refine lv_iconst (v := (nI 1)) hx hb dX1_has_21 (by decide) ?_
          refine xx_zret () hx hb hr hlocks rfl hS hK hP hD dX1_has_22 ?_
          exact xb_t ⟨i, c7, c18⟩
  exact loop2 (cc + 1) 0 (by omega) (by omega) (by intro j z1; exact absurd z1 (by omega)) s.heap _ ls hP hD hS (lv_sub hl [1, 2, 0] rfl)
def p_C_at (oc : Nat → Nat) (cc : Nat) (ca : Nat → Int64) (cl : Nat → Int32) (ch : Nat → Int32) (x : Int32) (y : Int32) : Int32 → Unit → Prop := fun r u => (r = (-1) ∧ ¬ (ixN cc x ∧ (y = 0 ∨ y = 1))) ∨ (∃ j, j < cc ∧ x = nI j ∧ ((y = 0 ∧ r = cl j) ∨ (y = 1 ∧ r = ch j)))
set_option maxHeartbeats 4000000 in
set_option maxRecDepth 100000 in
theorem c_C_at (l : Launch) (D : va_G) (k : Nat → ClassId) (oc : Nat → Nat) (cc : Nat) (ca : Nat → Int64) (cl : Nat → Int32) (ch : Nat → Int32) (x : Int32) (y : Int32) (hcc : cc ≤ 50) : xx_Ci l yX1_numberAt (.code yX1_numberAt cX1_numberAt 3 (some .int) :: xall) ({ frames := 0, cells := 0, slots := 0, locals := 0 } : Room) D vwCl (xT k) [.ref (oc 0), .int x, .int y] (bC k oc cc ca cl ch) (p_C_at oc cc ca cl ch x y) (fun (u : Unit) => bC k oc cc ca cl ch) 0 0 := by
  intro sz
  refine xx_met (Qf := fun A => va_Qi (p_C_at oc cc ca cl ch x y) (xx_B D vwCl (xT k) A (fun (u : Unit) => bC k oc cc ca cl ch)) A) (cc := cX1_numberAt) (maxL := 3) (ret := (some .int)) (by decide) rfl (Nat.le_of_ble_eq_true rfl) ?_
  intro p e s m below meth c A ls hx hb hr hts hown hlocks hin hml hA hS hP hD hK hN hl
  have hl : lv_has ls 3 [(0, .ref (oc 0)), (1, .int x), (2, .int y)] := hl
  have hown : s.vm.findClass RX1 = some m.cls := hown
  have hinW := inX1
  refine lv_iload_n hx hb dX1_numberAt_0 rfl (lv_at hl 1 rfl) ?_
  refine lv_if_lt (tgt := 12) hx hb dX1_numberAt_1 (by decide) (fun c1 => ?_) (fun c1 => ?_)
  · refine lv_iconst (v := (-1)) hx hb dX1_numberAt_12 (by decide) ?_
    refine xx_iret () hx hb hr hlocks hS hK hP hD dX1_numberAt_13 ?_
    first | exact Or.inl ⟨rfl, fun h => xx_nix (by omega) (Or.inl c1) h.1⟩ | exact Or.inl ⟨rfl, fun h => xx_nix (by omega) (Or.inr (xx_nle c9)) h.1⟩
  · refine lv_iload_n hx hb dX1_numberAt_4 rfl (lv_at hl 1 rfl) ?_
    refine lv_aload_n hx hb dX1_numberAt_5 rfl (lv_at hl 0 rfl) ?_
    refine va_get (D := D) (ci := 1) (v := .int (nI cc)) (C := RX1) (T := TX1) (N := 4) hx hb hts hinW hown hK hP 0 rfl rfl 3 (by decide) (hts _ tw_92) (fun _ h9 => h9) rfl dX1_numberAt_6 ?_
    refine lv_icmp_lt (tgt := 14) hx hb dX1_numberAt_9 (by decide) (fun c9 => ?_) (fun c9 => ?_)
    · obtain ⟨j, hj, hxj⟩ := xx_ix (n := cc) (by omega) c1 (fun h => absurd c9 (xx_nlt h))
      subst hxj
      refine lv_iload_n hx hb dX1_numberAt_14 rfl (lv_at hl 2 rfl) ?_
      by_cases s0 : y = 0
      · refine lv_lookup (off := 25) (tgt := 40) hx hb dX1_numberAt_15 (by decide) (by rw [s0]; rfl) (by decide) ?_
        refine lv_aload_n hx hb dX1_numberAt_40 rfl (lv_at hl 0 rfl) ?_
        refine va_get (D := D) (ci := 1) (v := .ref (oc 2)) (C := RX1) (T := TX1) (N := 4) hx hb hts hinW hown hK hP 0 rfl rfl 1 (by decide) (hts _ tw_90) (fun _ h9 => h9) rfl dX1_numberAt_41 ?_
        refine lv_iload_n hx hb dX1_numberAt_44 rfl (lv_at hl 1 rfl) ?_
        refine xx_iald hx hb hK hP 2 0 rfl rfl (show j < 50 by omega) (by decide) dX1_numberAt_45 ?_
        refine xx_iret () hx hb hr hlocks hS hK hP hD dX1_numberAt_46 ?_
        exact Or.inr ⟨j, hj, rfl, Or.inl ⟨s0, rfl⟩⟩
      ·
        by_cases s1 : y = 1
        · refine lv_lookup (off := 32) (tgt := 47) hx hb dX1_numberAt_15 (by decide) ((lv_osw s0 rfl).trans (by rw [s1]; rfl)) (by decide) ?_
          refine lv_aload_n hx hb dX1_numberAt_47 rfl (lv_at hl 0 rfl) ?_
          refine va_get (D := D) (ci := 1) (v := .ref (oc 3)) (C := RX1) (T := TX1) (N := 4) hx hb hts hinW hown hK hP 0 rfl rfl 2 (by decide) (hts _ tw_91) (fun _ h9 => h9) rfl dX1_numberAt_48 ?_
          refine lv_iload_n hx hb dX1_numberAt_51 rfl (lv_at hl 1 rfl) ?_
          refine xx_iald hx hb hK hP 3 0 rfl rfl (show j < 50 by omega) (by decide) dX1_numberAt_52 ?_
          refine xx_iret () hx hb hr hlocks hS hK hP hD dX1_numberAt_53 ?_
          exact Or.inr ⟨j, hj, rfl, Or.inr ⟨s1, rfl⟩⟩
        ·
          refine lv_lookup (off := 39) (tgt := 54) hx hb dX1_numberAt_15 (by decide) ((lv_osw s0 rfl).trans ((lv_osw s1 rfl).trans (rfl))) (by decide) ?_
          refine lv_iconst (v := (-1)) hx hb dX1_numberAt_54 (by decide) ?_
          refine xx_iret () hx hb hr hlocks hS hK hP hD dX1_numberAt_55 ?_
          exact Or.inl ⟨rfl, fun h => h.2.elim s0 s1⟩
    · refine lv_iconst (v := (-1)) hx hb dX1_numberAt_12 (by decide) ?_
      refine xx_iret () hx hb hr hlocks hS hK hP hD dX1_numberAt_13 ?_
      first | exact Or.inl ⟨rfl, fun h => xx_nix (by omega) (Or.inl c1) h.1⟩ | exact Or.inl ⟨rfl, fun h => xx_nix (by omega) (Or.inr (xx_nle c9)) h.1⟩
end
section
theorem dX3_add_0 : decode cX3_add 0 = .ok (.aload_n 0, 1) := by decide +kernel
theorem dX3_add_1 : decode cX3_add 1 = .ok (.getfield 24, 3) := by decide +kernel
theorem dX3_add_4 : decode cX3_add 4 = .ok (.bipush 20, 2) := by decide +kernel
theorem dX3_add_6 : decode cX3_add 6 = .ok (.if_icmp .ge 17, 3) := by decide +kernel
theorem dX3_add_9 : decode cX3_add 9 = .ok (.iload_n 1, 1) := by decide +kernel
theorem dX3_add_10 : decode cX3_add 10 = .ok (.invokestatic 28, 3) := by decide +kernel
theorem dX3_add_13 : decode cX3_add 13 = .ok (.ifCond .eq 10, 3) := by decide +kernel
theorem dX3_add_16 : decode cX3_add 16 = .ok (.iload_n 2, 1) := by decide +kernel
theorem dX3_add_17 : decode cX3_add 17 = .ok (.invokestatic 28, 3) := by decide +kernel
theorem dX3_add_20 : decode cX3_add 20 = .ok (.ifCond .ne 5, 3) := by decide +kernel
theorem dX3_add_23 : decode cX3_add 23 = .ok (.iconst (-1), 1) := by decide +kernel
theorem dX3_add_24 : decode cX3_add 24 = .ok (.ireturn, 1) := by decide +kernel
theorem dX3_add_25 : decode cX3_add 25 = .ok (.iload_n 3, 1) := by decide +kernel
theorem dX3_add_26 : decode cX3_add 26 = .ok (.invokestatic 32, 3) := by decide +kernel
theorem dX3_add_29 : decode cX3_add 29 = .ok (.ifCond .eq 15, 3) := by decide +kernel
theorem dX3_add_32 : decode cX3_add 32 = .ok (.iload 4, 2) := by decide +kernel
theorem dX3_add_34 : decode cX3_add 34 = .ok (.iconst 1, 1) := by decide +kernel
theorem dX3_add_35 : decode cX3_add 35 = .ok (.if_icmp .lt 9, 3) := by decide +kernel
theorem dX3_add_38 : decode cX3_add 38 = .ok (.iload 4, 2) := by decide +kernel
theorem dX3_add_40 : decode cX3_add 40 = .ok (.iconst 5, 1) := by decide +kernel
theorem dX3_add_41 : decode cX3_add 41 = .ok (.if_icmp .le 5, 3) := by decide +kernel
theorem dX3_add_44 : decode cX3_add 44 = .ok (.iconst (-1), 1) := by decide +kernel
theorem dX3_add_45 : decode cX3_add 45 = .ok (.ireturn, 1) := by decide +kernel
theorem dX3_add_46 : decode cX3_add 46 = .ok (.aload_n 0, 1) := by decide +kernel
theorem dX3_add_47 : decode cX3_add 47 = .ok (.getfield 24, 3) := by decide +kernel
theorem dX3_add_50 : decode cX3_add 50 = .ok (.istore 5, 2) := by decide +kernel
theorem dX3_add_52 : decode cX3_add 52 = .ok (.aload_n 0, 1) := by decide +kernel
theorem dX3_add_53 : decode cX3_add 53 = .ok (.getfield 9, 3) := by decide +kernel
theorem dX3_add_56 : decode cX3_add 56 = .ok (.iload 5, 2) := by decide +kernel
theorem dX3_add_58 : decode cX3_add 58 = .ok (.iload_n 1, 1) := by decide +kernel
theorem dX3_add_59 : decode cX3_add 59 = .ok (.iastore, 1) := by decide +kernel
theorem dX3_add_60 : decode cX3_add 60 = .ok (.aload_n 0, 1) := by decide +kernel
theorem dX3_add_61 : decode cX3_add 61 = .ok (.getfield 15, 3) := by decide +kernel
theorem dX3_add_64 : decode cX3_add 64 = .ok (.iload 5, 2) := by decide +kernel
theorem dX3_add_66 : decode cX3_add 66 = .ok (.iload_n 2, 1) := by decide +kernel
theorem dX3_add_67 : decode cX3_add 67 = .ok (.iastore, 1) := by decide +kernel
theorem dX3_add_68 : decode cX3_add 68 = .ok (.aload_n 0, 1) := by decide +kernel
theorem dX3_add_69 : decode cX3_add 69 = .ok (.getfield 18, 3) := by decide +kernel
theorem dX3_add_72 : decode cX3_add 72 = .ok (.iload 5, 2) := by decide +kernel
theorem dX3_add_74 : decode cX3_add 74 = .ok (.iload_n 3, 1) := by decide +kernel
theorem dX3_add_75 : decode cX3_add 75 = .ok (.iastore, 1) := by decide +kernel
theorem dX3_add_76 : decode cX3_add 76 = .ok (.aload_n 0, 1) := by decide +kernel
theorem dX3_add_77 : decode cX3_add 77 = .ok (.getfield 21, 3) := by decide +kernel
theorem dX3_add_80 : decode cX3_add 80 = .ok (.iload 5, 2) := by decide +kernel
theorem dX3_add_82 : decode cX3_add 82 = .ok (.iload 4, 2) := by decide +kernel
theorem dX3_add_84 : decode cX3_add 84 = .ok (.iastore, 1) := by decide +kernel
theorem dX3_add_85 : decode cX3_add 85 = .ok (.aload_n 0, 1) := by decide +kernel
theorem dX3_add_86 : decode cX3_add 86 = .ok (.dup, 1) := by decide +kernel
theorem dX3_add_87 : decode cX3_add 87 = .ok (.getfield 24, 3) := by decide +kernel
theorem dX3_add_90 : decode cX3_add 90 = .ok (.iconst 1, 1) := by decide +kernel
theorem dX3_add_91 : decode cX3_add 91 = .ok (.iadd, 1) := by decide +kernel
theorem dX3_add_92 : decode cX3_add 92 = .ok (.putfield 24, 3) := by decide +kernel
theorem dX3_add_95 : decode cX3_add 95 = .ok (.iload 5, 2) := by decide +kernel
theorem dX3_add_97 : decode cX3_add 97 = .ok (.ireturn, 1) := by decide +kernel
theorem dX3_has_0 : decode cX3_has 0 = .ok (.iload_n 1, 1) := by decide +kernel
theorem dX3_has_1 : decode cX3_has 1 = .ok (.ifCond .lt 15, 3) := by decide +kernel
theorem dX3_has_4 : decode cX3_has 4 = .ok (.iload_n 1, 1) := by decide +kernel
theorem dX3_has_5 : decode cX3_has 5 = .ok (.aload_n 0, 1) := by decide +kernel
theorem dX3_has_6 : decode cX3_has 6 = .ok (.getfield 24, 3) := by decide +kernel
theorem dX3_has_9 : decode cX3_has 9 = .ok (.if_icmp .ge 7, 3) := by decide +kernel
theorem dX3_has_12 : decode cX3_has 12 = .ok (.iconst 1, 1) := by decide +kernel
theorem dX3_has_13 : decode cX3_has 13 = .ok (.goto 4, 3) := by decide +kernel
theorem dX3_has_16 : decode cX3_has 16 = .ok (.iconst 0, 1) := by decide +kernel
theorem dX3_has_17 : decode cX3_has 17 = .ok (.ireturn, 1) := by decide +kernel
theorem dX3_levelOf_0 : decode cX3_levelOf 0 = .ok (.aload_n 0, 1) := by decide +kernel
theorem dX3_levelOf_1 : decode cX3_levelOf 1 = .ok (.iload_n 1, 1) := by decide +kernel
theorem dX3_levelOf_2 : decode cX3_levelOf 2 = .ok (.invokevirtual 39, 3) := by decide +kernel
theorem dX3_levelOf_5 : decode cX3_levelOf 5 = .ok (.ifCond .eq 12, 3) := by decide +kernel
theorem dX3_levelOf_8 : decode cX3_levelOf 8 = .ok (.aload_n 0, 1) := by decide +kernel
theorem dX3_levelOf_9 : decode cX3_levelOf 9 = .ok (.getfield 18, 3) := by decide +kernel
theorem dX3_levelOf_12 : decode cX3_levelOf 12 = .ok (.iload_n 1, 1) := by decide +kernel
theorem dX3_levelOf_13 : decode cX3_levelOf 13 = .ok (.iaload, 1) := by decide +kernel
theorem dX3_levelOf_14 : decode cX3_levelOf 14 = .ok (.goto 4, 3) := by decide +kernel
theorem dX3_levelOf_17 : decode cX3_levelOf 17 = .ok (.iconst 1, 1) := by decide +kernel
theorem dX3_levelOf_18 : decode cX3_levelOf 18 = .ok (.ireturn, 1) := by decide +kernel
theorem dX3_wantedOf_0 : decode cX3_wantedOf 0 = .ok (.aload_n 0, 1) := by decide +kernel
theorem dX3_wantedOf_1 : decode cX3_wantedOf 1 = .ok (.iload_n 1, 1) := by decide +kernel
theorem dX3_wantedOf_2 : decode cX3_wantedOf 2 = .ok (.invokevirtual 39, 3) := by decide +kernel
theorem dX3_wantedOf_5 : decode cX3_wantedOf 5 = .ok (.ifCond .eq 12, 3) := by decide +kernel
theorem dX3_wantedOf_8 : decode cX3_wantedOf 8 = .ok (.aload_n 0, 1) := by decide +kernel
theorem dX3_wantedOf_9 : decode cX3_wantedOf 9 = .ok (.getfield 21, 3) := by decide +kernel
theorem dX3_wantedOf_12 : decode cX3_wantedOf 12 = .ok (.iload_n 1, 1) := by decide +kernel
theorem dX3_wantedOf_13 : decode cX3_wantedOf 13 = .ok (.iaload, 1) := by decide +kernel
theorem dX3_wantedOf_14 : decode cX3_wantedOf 14 = .ok (.goto 4, 3) := by decide +kernel
theorem dX3_wantedOf_17 : decode cX3_wantedOf 17 = .ok (.iload_n 2, 1) := by decide +kernel
theorem dX3_wantedOf_18 : decode cX3_wantedOf 18 = .ok (.ireturn, 1) := by decide +kernel
theorem dX3_rankFor_0 : decode cX3_rankFor 0 = .ok (.aload_n 0, 1) := by decide +kernel
theorem dX3_rankFor_1 : decode cX3_rankFor 1 = .ok (.iload_n 1, 1) := by decide +kernel
theorem dX3_rankFor_2 : decode cX3_rankFor 2 = .ok (.invokevirtual 39, 3) := by decide +kernel
theorem dX3_rankFor_5 : decode cX3_rankFor 5 = .ok (.ifCond .ne 5, 3) := by decide +kernel
theorem dX3_rankFor_8 : decode cX3_rankFor 8 = .ok (.iconst (-1), 1) := by decide +kernel
theorem dX3_rankFor_9 : decode cX3_rankFor 9 = .ok (.ireturn, 1) := by decide +kernel
theorem dX3_rankFor_10 : decode cX3_rankFor 10 = .ok (.aload_n 0, 1) := by decide +kernel
theorem dX3_rankFor_11 : decode cX3_rankFor 11 = .ok (.getfield 9, 3) := by decide +kernel
theorem dX3_rankFor_14 : decode cX3_rankFor 14 = .ok (.iload_n 1, 1) := by decide +kernel
theorem dX3_rankFor_15 : decode cX3_rankFor 15 = .ok (.iaload, 1) := by decide +kernel
theorem dX3_rankFor_16 : decode cX3_rankFor 16 = .ok (.iconst (-1), 1) := by decide +kernel
theorem dX3_rankFor_17 : decode cX3_rankFor 17 = .ok (.if_icmp .ne 7, 3) := by decide +kernel
theorem dX3_rankFor_20 : decode cX3_rankFor 20 = .ok (.iconst 1, 1) := by decide +kernel
theorem dX3_rankFor_21 : decode cX3_rankFor 21 = .ok (.goto 4, 3) := by decide +kernel
theorem dX3_rankFor_24 : decode cX3_rankFor 24 = .ok (.iconst 0, 1) := by decide +kernel
theorem dX3_rankFor_25 : decode cX3_rankFor 25 = .ok (.istore 4, 2) := by decide +kernel
theorem dX3_rankFor_27 : decode cX3_rankFor 27 = .ok (.aload_n 0, 1) := by decide +kernel
theorem dX3_rankFor_28 : decode cX3_rankFor 28 = .ok (.getfield 15, 3) := by decide +kernel
theorem dX3_rankFor_31 : decode cX3_rankFor 31 = .ok (.iload_n 1, 1) := by decide +kernel
theorem dX3_rankFor_32 : decode cX3_rankFor 32 = .ok (.iaload, 1) := by decide +kernel
theorem dX3_rankFor_33 : decode cX3_rankFor 33 = .ok (.iconst (-1), 1) := by decide +kernel
theorem dX3_rankFor_34 : decode cX3_rankFor 34 = .ok (.if_icmp .ne 7, 3) := by decide +kernel
theorem dX3_rankFor_37 : decode cX3_rankFor 37 = .ok (.iconst 1, 1) := by decide +kernel
theorem dX3_rankFor_38 : decode cX3_rankFor 38 = .ok (.goto 4, 3) := by decide +kernel
theorem dX3_rankFor_41 : decode cX3_rankFor 41 = .ok (.iconst 0, 1) := by decide +kernel
theorem dX3_rankFor_42 : decode cX3_rankFor 42 = .ok (.istore 5, 2) := by decide +kernel
theorem dX3_rankFor_44 : decode cX3_rankFor 44 = .ok (.iload 4, 2) := by decide +kernel
theorem dX3_rankFor_46 : decode cX3_rankFor 46 = .ok (.ifCond .ne 13, 3) := by decide +kernel
theorem dX3_rankFor_49 : decode cX3_rankFor 49 = .ok (.aload_n 0, 1) := by decide +kernel
theorem dX3_rankFor_50 : decode cX3_rankFor 50 = .ok (.getfield 9, 3) := by decide +kernel
theorem dX3_rankFor_53 : decode cX3_rankFor 53 = .ok (.iload_n 1, 1) := by decide +kernel
theorem dX3_rankFor_54 : decode cX3_rankFor 54 = .ok (.iaload, 1) := by decide +kernel
theorem dX3_rankFor_55 : decode cX3_rankFor 55 = .ok (.iload_n 2, 1) := by decide +kernel
theorem dX3_rankFor_56 : decode cX3_rankFor 56 = .ok (.if_icmp .ne 7, 3) := by decide +kernel
theorem dX3_rankFor_59 : decode cX3_rankFor 59 = .ok (.iconst 1, 1) := by decide +kernel
theorem dX3_rankFor_60 : decode cX3_rankFor 60 = .ok (.goto 4, 3) := by decide +kernel
theorem dX3_rankFor_63 : decode cX3_rankFor 63 = .ok (.iconst 0, 1) := by decide +kernel
theorem dX3_rankFor_64 : decode cX3_rankFor 64 = .ok (.istore 6, 2) := by decide +kernel
theorem dX3_rankFor_66 : decode cX3_rankFor 66 = .ok (.iload 5, 2) := by decide +kernel
theorem dX3_rankFor_68 : decode cX3_rankFor 68 = .ok (.ifCond .ne 13, 3) := by decide +kernel
theorem dX3_rankFor_71 : decode cX3_rankFor 71 = .ok (.aload_n 0, 1) := by decide +kernel
theorem dX3_rankFor_72 : decode cX3_rankFor 72 = .ok (.getfield 15, 3) := by decide +kernel
theorem dX3_rankFor_75 : decode cX3_rankFor 75 = .ok (.iload_n 1, 1) := by decide +kernel
theorem dX3_rankFor_76 : decode cX3_rankFor 76 = .ok (.iaload, 1) := by decide +kernel
theorem dX3_rankFor_77 : decode cX3_rankFor 77 = .ok (.iload_n 3, 1) := by decide +kernel
theorem dX3_rankFor_78 : decode cX3_rankFor 78 = .ok (.if_icmp .ne 7, 3) := by decide +kernel
theorem dX3_rankFor_81 : decode cX3_rankFor 81 = .ok (.iconst 1, 1) := by decide +kernel
theorem dX3_rankFor_82 : decode cX3_rankFor 82 = .ok (.goto 4, 3) := by decide +kernel
theorem dX3_rankFor_85 : decode cX3_rankFor 85 = .ok (.iconst 0, 1) := by decide +kernel
theorem dX3_rankFor_86 : decode cX3_rankFor 86 = .ok (.istore 7, 2) := by decide +kernel
theorem dX3_rankFor_88 : decode cX3_rankFor 88 = .ok (.iload 6, 2) := by decide +kernel
theorem dX3_rankFor_90 : decode cX3_rankFor 90 = .ok (.ifCond .eq 8, 3) := by decide +kernel
theorem dX3_rankFor_93 : decode cX3_rankFor 93 = .ok (.iload 7, 2) := by decide +kernel
theorem dX3_rankFor_95 : decode cX3_rankFor 95 = .ok (.ifCond .ne 5, 3) := by decide +kernel
theorem dX3_rankFor_98 : decode cX3_rankFor 98 = .ok (.iconst (-1), 1) := by decide +kernel
theorem dX3_rankFor_99 : decode cX3_rankFor 99 = .ok (.ireturn, 1) := by decide +kernel
theorem dX3_rankFor_100 : decode cX3_rankFor 100 = .ok (.iload 4, 2) := by decide +kernel
theorem dX3_rankFor_102 : decode cX3_rankFor 102 = .ok (.ifCond .eq 7, 3) := by decide +kernel
theorem dX3_rankFor_105 : decode cX3_rankFor 105 = .ok (.iconst 0, 1) := by decide +kernel
theorem dX3_rankFor_106 : decode cX3_rankFor 106 = .ok (.goto 4, 3) := by decide +kernel
theorem dX3_rankFor_109 : decode cX3_rankFor 109 = .ok (.iconst 2, 1) := by decide +kernel
theorem dX3_rankFor_110 : decode cX3_rankFor 110 = .ok (.iload 5, 2) := by decide +kernel
theorem dX3_rankFor_112 : decode cX3_rankFor 112 = .ok (.ifCond .eq 7, 3) := by decide +kernel
theorem dX3_rankFor_115 : decode cX3_rankFor 115 = .ok (.iconst 0, 1) := by decide +kernel
theorem dX3_rankFor_116 : decode cX3_rankFor 116 = .ok (.goto 4, 3) := by decide +kernel
theorem dX3_rankFor_119 : decode cX3_rankFor 119 = .ok (.iconst 1, 1) := by decide +kernel
theorem dX3_rankFor_120 : decode cX3_rankFor 120 = .ok (.iadd, 1) := by decide +kernel
theorem dX3_rankFor_121 : decode cX3_rankFor 121 = .ok (.ireturn, 1) := by decide +kernel
theorem dX3_best_0 : decode cX3_best 0 = .ok (.iconst (-1), 1) := by decide +kernel
theorem dX3_best_1 : decode cX3_best 1 = .ok (.istore_n 3, 1) := by decide +kernel
theorem dX3_best_2 : decode cX3_best 2 = .ok (.iconst 0, 1) := by decide +kernel
theorem dX3_best_3 : decode cX3_best 3 = .ok (.istore 4, 2) := by decide +kernel
theorem dX3_best_5 : decode cX3_best 5 = .ok (.iconst 0, 1) := by decide +kernel
theorem dX3_best_6 : decode cX3_best 6 = .ok (.istore 5, 2) := by decide +kernel
theorem dX3_best_8 : decode cX3_best 8 = .ok (.iload 5, 2) := by decide +kernel
theorem dX3_best_10 : decode cX3_best 10 = .ok (.aload_n 0, 1) := by decide +kernel
theorem dX3_best_11 : decode cX3_best 11 = .ok (.getfield 24, 3) := by decide +kernel
theorem dX3_best_14 : decode cX3_best 14 = .ok (.if_icmp .ge 39, 3) := by decide +kernel
theorem dX3_best_17 : decode cX3_best 17 = .ok (.aload_n 0, 1) := by decide +kernel
theorem dX3_best_18 : decode cX3_best 18 = .ok (.iload 5, 2) := by decide +kernel
theorem dX3_best_20 : decode cX3_best 20 = .ok (.iload_n 1, 1) := by decide +kernel
theorem dX3_best_21 : decode cX3_best 21 = .ok (.iload_n 2, 1) := by decide +kernel
theorem dX3_best_22 : decode cX3_best 22 = .ok (.invokevirtual 35, 3) := by decide +kernel
theorem dX3_best_25 : decode cX3_best 25 = .ok (.istore 6, 2) := by decide +kernel
theorem dX3_best_27 : decode cX3_best 27 = .ok (.iload 6, 2) := by decide +kernel
theorem dX3_best_29 : decode cX3_best 29 = .ok (.iconst (-1), 1) := by decide +kernel
theorem dX3_best_30 : decode cX3_best 30 = .ok (.if_icmp .eq 17, 3) := by decide +kernel
theorem dX3_best_33 : decode cX3_best 33 = .ok (.iload 6, 2) := by decide +kernel
theorem dX3_best_35 : decode cX3_best 35 = .ok (.iload 4, 2) := by decide +kernel
theorem dX3_best_37 : decode cX3_best 37 = .ok (.if_icmp .lt 10, 3) := by decide +kernel
theorem dX3_best_40 : decode cX3_best 40 = .ok (.iload 5, 2) := by decide +kernel
theorem dX3_best_42 : decode cX3_best 42 = .ok (.istore_n 3, 1) := by decide +kernel
theorem dX3_best_43 : decode cX3_best 43 = .ok (.iload 6, 2) := by decide +kernel
theorem dX3_best_45 : decode cX3_best 45 = .ok (.istore 4, 2) := by decide +kernel
theorem dX3_best_47 : decode cX3_best 47 = .ok (.iinc 5 1, 3) := by decide +kernel
theorem dX3_best_50 : decode cX3_best 50 = .ok (.goto (-42), 3) := by decide +kernel
theorem dX3_best_53 : decode cX3_best 53 = .ok (.iload_n 3, 1) := by decide +kernel
theorem dX3_best_54 : decode cX3_best 54 = .ok (.ireturn, 1) := by decide +kernel
def p_U_add (ou : Nat → Nat) (uc : Nat) (ut : Nat → Int32) (ub : Nat → Int32) (ul : Nat → Int32) (uw : Nat → Int32) (t : Int32) (b : Int32) (lv : Int32) (wt : Int32) : Int32 → (Nat × (Nat → Int32) × (Nat → Int32) × (Nat → Int32) × (Nat → Int32)) → Prop := fun r u => (r = (-1) ∧ ¬ (uc < 20 ∧ (t = (-1) ∨ ixN 8 t) ∧ (b = (-1) ∨ ixN 8 b) ∧ ixN 3 lv ∧ ¬ (wt < nI 1) ∧ wt ≤ nI 5) ∧ u = (uc, ut, ub, ul, uw)) ∨ (r = nI uc ∧ (uc < 20 ∧ (t = (-1) ∨ ixN 8 t) ∧ (b = (-1) ∨ ixN 8 b) ∧ ixN 3 lv ∧ ¬ (wt < nI 1) ∧ wt ≤ nI 5) ∧ u = (uc + 1, upd ut uc t, upd ub uc b, upd ul uc lv, upd uw uc wt))
set_option maxHeartbeats 4000000 in
set_option maxRecDepth 100000 in
theorem c_U_add (l : Launch) (D : va_G) (k : Nat → ClassId) (ou : Nat → Nat) (uc : Nat) (ut : Nat → Int32) (ub : Nat → Int32) (ul : Nat → Int32) (uw : Nat → Int32) (t : Int32) (b : Int32) (lv : Int32) (wt : Int32) (huc : uc ≤ 20) : xx_Ci l yX3_add (.code yX3_add cX3_add 6 (some .int) :: xall) ({ frames := 2, cells := 0, slots := 0, locals := 40 } : Room) D vwCl (xT k) [.ref (ou 0), .int t, .int b, .int lv, .int wt] (bU k ou uc ut ub ul uw) (p_U_add ou uc ut ub ul uw t b lv wt) (fun (u : Nat × (Nat → Int32) × (Nat → Int32) × (Nat → Int32) × (Nat → Int32)) => bU k ou u.1 u.2.1 u.2.2.1 u.2.2.2.1 u.2.2.2.2) 0 0 := by
  intro sz
  refine xx_met (Qf := fun A => va_Qi (p_U_add ou uc ut ub ul uw t b lv wt) (xx_B D vwCl (xT k) A (fun (u : Nat × (Nat → Int32) × (Nat → Int32) × (Nat → Int32) × (Nat → Int32)) => bU k ou u.1 u.2.1 u.2.2.1 u.2.2.2.1 u.2.2.2.2)) A) (cc := cX3_add) (maxL := 6) (ret := (some .int)) (by decide) rfl (Nat.le_of_ble_eq_true rfl) ?_
  intro p e s m below meth c A ls hx hb hr hts hown hlocks hin hml hA hS hP hD hK hN hl
  have hl : lv_has ls 6 [(0, .ref (ou 0)), (1, .int t), (2, .int b), (3, .int lv), (4, .int wt)] := hl
  have hown : s.vm.findClass RX3 = some m.cls := hown
  have hinW := inX3
  refine lv_aload_n hx hb dX3_add_0 rfl (lv_at hl 0 rfl) ?_
  refine va_get (D := D) (ci := 3) (v := .int (nI uc)) (C := RX3) (T := TX3) (N := 5) hx hb hts hinW hown hK hP 0 rfl rfl 4 (by decide) (hts _ tw_112) (fun _ h9 => h9) rfl dX3_add_1 ?_
  refine lv_bipush (v := (nI 20)) hx hb dX3_add_4 (by decide) ?_
  refine lv_icmp_ge (tgt := 23) hx hb dX3_add_6 (by decide) (fun c6 => ?_) (fun c6 => ?_)
  · have c6 : 20 ≤ uc := (nI_leI (by omega) (by omega)).mp c6
    refine lv_iconst (v := (-1)) hx hb dX3_add_23 (by decide) ?_
    refine xx_iret (uc, ut, ub, ul, uw) hx hb hr hlocks hS hK hP hD dX3_add_24 ?_
    first | exact Or.inl ⟨rfl, fun h => absurd h.1 (by omega), rfl⟩ | exact Or.inl ⟨rfl, fun h => hq10 h.2.1, rfl⟩ | exact Or.inl ⟨rfl, fun h => hq17 h.2.2.1, rfl⟩
  · have c6 : uc < 20 := Nat.lt_of_not_le (fun h => c6 ((nI_leI (by omega) (by omega)).mpr h))
    refine lv_iload_n hx hb dX3_add_9 rfl (lv_at hl 1 rfl) ?_
    refine xx_calli (bU k ou uc ut ub ul uw) [] [0, 1, 2, 3, 4] (va_runSN (As := [.int t]) (rest := []) ⟨hx, hb, hml, hown, hts⟩ (c_isAny l D k t s.heap.size) ⟨va_cnB 1 hts (xx_gc tw_270) rfl rfl rfl (hN (RX3, 28, yX5_isPlaceOrAny, "TrustRows") (by decide +kernel)) (hts _ tw_1) (by decide +kernel) ⟨Nat.le_of_ble_eq_true rfl, Nat.le_of_ble_eq_true rfl⟩, hts _ tw_269, trivial⟩ (xx_preS hK hN hP hD [] (by decide) rfl) rfl rfl hl.1 rfl (lv_room (Nat.le_of_ble_eq_true rfl)) dX3_add_10 ⟨Nat.le_of_ble_eq_true rfl, Nat.le_of_ble_eq_true rfl⟩) hP hD hS hA rfl rfl (by decide) (by decide) (fun r10 u10 H locs hw10 hP hD hS => ?_)
    rcases hw10 with ⟨rfl, hq10⟩ | ⟨rfl, hq10⟩
    · have hP : va_P D vwCl (bU k ou uc ut ub ul uw) H := hP
      have hD : va_D A (bU k ou uc ut ub ul uw) := hD
      refine lv_if_eq (tgt := 23) hx hb dX3_add_13 (by decide) (fun c => absurd c (by decide)) (fun _ => ?_)
      refine lv_iload_n hx hb dX3_add_16 rfl (lv_at hl 2 rfl) ?_
      refine xx_calli (bU k ou uc ut ub ul uw) [] [0, 1, 2, 3, 4] (va_runSN (As := [.int b]) (rest := []) ⟨hx, hb, hml, hown, hts⟩ (c_isAny l D k b H.size) ⟨va_cnB 1 hts (xx_gc tw_270) rfl rfl rfl (hN (RX3, 28, yX5_isPlaceOrAny, "TrustRows") (by decide +kernel)) (hts _ tw_1) (by decide +kernel) ⟨Nat.le_of_ble_eq_true rfl, Nat.le_of_ble_eq_true rfl⟩, hts _ tw_269, trivial⟩ (xx_preS hK hN hP hD [] (by decide) rfl) rfl rfl hl.1 rfl (lv_room (Nat.le_of_ble_eq_true rfl)) dX3_add_17 ⟨Nat.le_of_ble_eq_true rfl, Nat.le_of_ble_eq_true rfl⟩) hP hD hS hA rfl rfl (by decide) (by decide) (fun r17 u17 H locs hw17 hP hD hS => ?_)
      rcases hw17 with ⟨rfl, hq17⟩ | ⟨rfl, hq17⟩
      · have hP : va_P D vwCl (bU k ou uc ut ub ul uw) H := hP
        have hD : va_D A (bU k ou uc ut ub ul uw) := hD
        refine lv_if_ne (tgt := 25) hx hb dX3_add_20 (by decide) (fun _ => ?_) (fun c => absurd c (by decide))
        refine lv_iload_n hx hb dX3_add_25 rfl (lv_at hl 3 rfl) ?_
        refine xx_calli (bU k ou uc ut ub ul uw) [] [0, 1, 2, 3, 4] (va_runSN (As := [.int lv]) (rest := []) ⟨hx, hb, hml, hown, hts⟩ (c_isLevel l D k lv H.size) ⟨va_cnB 1 hts (xx_gc tw_172) rfl rfl rfl (hN (RX3, 32, yX5_isLevel, "TrustRows") (by decide +kernel)) (hts _ tw_1) (by decide +kernel) ⟨Nat.le_of_ble_eq_true rfl, Nat.le_of_ble_eq_true rfl⟩, hts _ tw_171, trivial⟩ (xx_preS hK hN hP hD [] (by decide) rfl) rfl rfl hl.1 rfl (lv_room (Nat.le_of_ble_eq_true rfl)) dX3_add_26 ⟨Nat.le_of_ble_eq_true rfl, Nat.le_of_ble_eq_true rfl⟩) hP hD hS hA rfl rfl (by decide) (by decide) (fun r26 u26 H locs hw26 hP hD hS => ?_)
        rcases hw26 with ⟨rfl, hq26⟩ | ⟨rfl, hq26⟩
        · have hP : va_P D vwCl (bU k ou uc ut ub ul uw) H := hP
          have hD : va_D A (bU k ou uc ut ub ul uw) := hD
          refine lv_if_eq (tgt := 44) hx hb dX3_add_29 (by decide) (fun c => absurd c (by decide)) (fun _ => ?_)
          refine lv_iload hx hb dX3_add_32 (lv_at hl 4 rfl) ?_
          refine lv_iconst (v := (nI 1)) hx hb dX3_add_34 (by decide) ?_
          refine lv_icmp_lt (tgt := 44) hx hb dX3_add_35 (by decide) (fun c35 => ?_) (fun c35 => ?_)
          · refine lv_iconst (v := (-1)) hx hb dX3_add_44 (by decide) ?_
            refine xx_iret (uc, ut, ub, ul, uw) hx hb hr hlocks hS hK hP hD dX3_add_45 ?_
            first | exact Or.inl ⟨rfl, fun h => hq26 h.2.2.2.1, rfl⟩ | exact Or.inl ⟨rfl, fun h => h.2.2.2.2.1 c35, rfl⟩ | exact Or.inl ⟨rfl, fun h => c41 h.2.2.2.2.2, rfl⟩
          · refine lv_iload hx hb dX3_add_38 (lv_at hl 4 rfl) ?_
            refine lv_iconst (v := (nI 5)) hx hb dX3_add_40 (by decide) ?_
            refine lv_icmp_le (tgt := 46) hx hb dX3_add_41 (by decide) (fun c41 => ?_) (fun c41 => ?_)
            · refine lv_aload_n hx hb dX3_add_46 rfl (lv_at hl 0 rfl) ?_
              refine va_get (D := D) (ci := 3) (v := .int (nI uc)) (C := RX3) (T := TX3) (N := 5) hx hb hts hinW hown hK hP 0 rfl rfl 4 (by decide) (hts _ tw_112) (fun _ h9 => h9) rfl dX3_add_47 ?_
              refine lv_istore (lv' := [(5, .int (nI uc)), (0, .ref (ou 0)), (1, .int t), (2, .int b), (3, .int lv), (4, .int wt)]) hx hb dX3_add_50 hl (by decide) rfl (fun ls hl => ?_)
              refine lv_aload_n hx hb dX3_add_52 rfl (lv_at hl 1 rfl) ?_
              refine va_get (D := D) (ci := 3) (v := .ref (ou 1)) (C := RX3) (T := TX3) (N := 5) hx hb hts hinW hown hK hP 0 rfl rfl 0 (by decide) (hts _ tw_108) (fun _ h9 => h9) rfl dX3_add_53 ?_
              refine lv_iload hx hb dX3_add_56 (lv_at hl 0 rfl) ?_
              refine lv_iload_n hx hb dX3_add_58 rfl (lv_at hl 2 rfl) ?_
              refine xx_iast (g := (upd ut uc t)) hx hb hK hP hD hS 1 0 rfl rfl (show uc < 20 by omega) (by decide) rfl dX3_add_59 (fun H locs hP hD hS => ?_)
              have hP : va_P D vwCl (bU k ou uc (upd ut uc t) ub ul uw) H := hP
              have hD : va_D A (bU k ou uc (upd ut uc t) ub ul uw) := hD
              refine lv_aload_n hx hb dX3_add_60 rfl (lv_at hl 1 rfl) ?_
              refine va_get (D := D) (ci := 3) (v := .ref (ou 2)) (C := RX3) (T := TX3) (N := 5) hx hb hts hinW hown hK hP 0 rfl rfl 1 (by decide) (hts _ tw_109) (fun _ h9 => h9) rfl dX3_add_61 ?_
              refine lv_iload hx hb dX3_add_64 (lv_at hl 0 rfl) ?_
              refine lv_iload_n hx hb dX3_add_66 rfl (lv_at hl 3 rfl) ?_
              refine xx_iast (g := (upd ub uc b)) hx hb hK hP hD hS 2 0 rfl rfl (show uc < 20 by omega) (by decide) rfl dX3_add_67 (fun H locs hP hD hS => ?_)
              have hP : va_P D vwCl (bU k ou uc (upd ut uc t) (upd ub uc b) ul uw) H := hP
              have hD : va_D A (bU k ou uc (upd ut uc t) (upd ub uc b) ul uw) := hD
              refine lv_aload_n hx hb dX3_add_68 rfl (lv_at hl 1 rfl) ?_
              refine va_get (D := D) (ci := 3) (v := .ref (ou 3)) (C := RX3) (T := TX3) (N := 5) hx hb hts hinW hown hK hP 0 rfl rfl 2 (by decide) (hts _ tw_110) (fun _ h9 => h9) rfl dX3_add_69 ?_
              refine lv_iload hx hb dX3_add_72 (lv_at hl 0 rfl) ?_
              refine lv_iload_n hx hb dX3_add_74 rfl (lv_at hl 4 rfl) ?_
              refine xx_iast (g := (upd ul uc lv)) hx hb hK hP hD hS 3 0 rfl rfl (show uc < 20 by omega) (by decide) rfl dX3_add_75 (fun H locs hP hD hS => ?_)
              have hP : va_P D vwCl (bU k ou uc (upd ut uc t) (upd ub uc b) (upd ul uc lv) uw) H := hP
              have hD : va_D A (bU k ou uc (upd ut uc t) (upd ub uc b) (upd ul uc lv) uw) := hD
              refine lv_aload_n hx hb dX3_add_76 rfl (lv_at hl 1 rfl) ?_
              refine va_get (D := D) (ci := 3) (v := .ref (ou 4)) (C := RX3) (T := TX3) (N := 5) hx hb hts hinW hown hK hP 0 rfl rfl 3 (by decide) (hts _ tw_111) (fun _ h9 => h9) rfl dX3_add_77 ?_
              refine lv_iload hx hb dX3_add_80 (lv_at hl 0 rfl) ?_
              refine lv_iload hx hb dX3_add_82 (lv_at hl 5 rfl) ?_
              refine xx_iast (g := (upd uw uc wt)) hx hb hK hP hD hS 4 0 rfl rfl (show uc < 20 by omega) (by decide) rfl dX3_add_84 (fun H locs hP hD hS => ?_)
              have hP : va_P D vwCl (bU k ou uc (upd ut uc t) (upd ub uc b) (upd ul uc lv) (upd uw uc wt)) H := hP
              have hD : va_D A (bU k ou uc (upd ut uc t) (upd ub uc b) (upd ul uc lv) (upd uw uc wt)) := hD
              refine lv_aload_n hx hb dX3_add_85 rfl (lv_at hl 1 rfl) ?_
              refine lv_dup hx hb dX3_add_86 rfl ?_
              refine va_get (D := D) (ci := 3) (v := .int (nI uc)) (C := RX3) (T := TX3) (N := 5) hx hb hts hinW hown hK hP 0 rfl rfl 4 (by decide) (hts _ tw_112) (fun _ h9 => h9) rfl dX3_add_87 ?_
              refine lv_iconst (v := (nI 1)) hx hb dX3_add_90 (by decide) ?_
              refine lv_iadd hx hb dX3_add_91 ?_
              refine xx_topi (nI_add uc 1) ?_
              refine va_put (D := D) (ci := 3) (v := .int (nI (uc + 1))) (ty := .int) (C := RX3) (T := TX3) (N := 5) hx hb hts hinW tyX3 tyX3_ok nmX3 hown hK hP hD hS 0 rfl rfl 4 (by decide) (hts _ tw_112) (fun _ h9 => h9) rfl (by decide +kernel) rfl rfl (Nat.le_of_ble_eq_true rfl) dX3_add_92 (fun H locs hP hD hS => ?_)
              have hP : va_P D vwCl (bU k ou (uc + 1) (upd ut uc t) (upd ub uc b) (upd ul uc lv) (upd uw uc wt)) H := hP
              have hD : va_D A (bU k ou (uc + 1) (upd ut uc t) (upd ub uc b) (upd ul uc lv) (upd uw uc wt)) := hD
              refine lv_iload hx hb dX3_add_95 (lv_at hl 0 rfl) ?_
              refine xx_iret (uc + 1, (upd ut uc t), (upd ub uc b), (upd ul uc lv), (upd uw uc wt)) hx hb hr hlocks hS hK hP hD dX3_add_97 ?_
              exact Or.inr ⟨rfl, ⟨c6, hq10, hq17, hq26, c35, c41⟩, rfl⟩
            · refine lv_iconst (v := (-1)) hx hb dX3_add_44 (by decide) ?_
              refine xx_iret (uc, ut, ub, ul, uw) hx hb hr hlocks hS hK hP hD dX3_add_45 ?_
              first | exact Or.inl ⟨rfl, fun h => hq26 h.2.2.2.1, rfl⟩ | exact Or.inl ⟨rfl, fun h => h.2.2.2.2.1 c35, rfl⟩ | exact Or.inl ⟨rfl, fun h => c41 h.2.2.2.2.2, rfl⟩
        · have hP : va_P D vwCl (bU k ou uc ut ub ul uw) H := hP
          have hD : va_D A (bU k ou uc ut ub ul uw) := hD
          refine lv_if_eq (tgt := 44) hx hb dX3_add_29 (by decide) (fun _ => ?_) (fun c => absurd c (by decide))
          refine lv_iconst (v := (-1)) hx hb dX3_add_44 (by decide) ?_
          refine xx_iret (uc, ut, ub, ul, uw) hx hb hr hlocks hS hK hP hD dX3_add_45 ?_
          first | exact Or.inl ⟨rfl, fun h => hq26 h.2.2.2.1, rfl⟩ | exact Or.inl ⟨rfl, fun h => h.2.2.2.2.1 c35, rfl⟩ | exact Or.inl ⟨rfl, fun h => c41 h.2.2.2.2.2, rfl⟩
      · have hP : va_P D vwCl (bU k ou uc ut ub ul uw) H := hP
        have hD : va_D A (bU k ou uc ut ub ul uw) := hD
        refine lv_if_ne (tgt := 25) hx hb dX3_add_20 (by decide) (fun c => absurd c (by decide)) (fun _ => ?_)
        refine lv_iconst (v := (-1)) hx hb dX3_add_23 (by decide) ?_
        refine xx_iret (uc, ut, ub, ul, uw) hx hb hr hlocks hS hK hP hD dX3_add_24 ?_
        first | exact Or.inl ⟨rfl, fun h => absurd h.1 (by omega), rfl⟩ | exact Or.inl ⟨rfl, fun h => hq10 h.2.1, rfl⟩ | exact Or.inl ⟨rfl, fun h => hq17 h.2.2.1, rfl⟩
    · have hP : va_P D vwCl (bU k ou uc ut ub ul uw) H := hP
      have hD : va_D A (bU k ou uc ut ub ul uw) := hD
      refine lv_if_eq (tgt := 23) hx hb dX3_add_13 (by decide) (fun _ => ?_) (fun c => absurd c (by decide))
      refine lv_iconst (v := (-1)) hx hb dX3_add_23 (by decide) ?_
      refine xx_iret (uc, ut, ub, ul, uw) hx hb hr hlocks hS hK hP hD dX3_add_24 ?_
      first | exact Or.inl ⟨rfl, fun h => absurd h.1 (by omega), rfl⟩ | exact Or.inl ⟨rfl, fun h => hq10 h.2.1, rfl⟩ | exact Or.inl ⟨rfl, fun h => hq17 h.2.2.1, rfl⟩
def p_U_has (ou : Nat → Nat) (uc : Nat) (ut : Nat → Int32) (ub : Nat → Int32) (ul : Nat → Int32) (uw : Nat → Int32) (x : Int32) : Int32 → Unit → Prop := fun r u => xb r (ixN uc x)
set_option maxHeartbeats 4000000 in
set_option maxRecDepth 100000 in
theorem c_U_has (l : Launch) (D : va_G) (k : Nat → ClassId) (ou : Nat → Nat) (uc : Nat) (ut : Nat → Int32) (ub : Nat → Int32) (ul : Nat → Int32) (uw : Nat → Int32) (x : Int32) (huc : uc ≤ 20) : xx_Ci l yX3_has (.code yX3_has cX3_has 2 (some .boolean) :: xall) ({ frames := 0, cells := 0, slots := 0, locals := 0 } : Room) D vwCl (xT k) [.ref (ou 0), .int x] (bU k ou uc ut ub ul uw) (p_U_has ou uc ut ub ul uw x) (fun (u : Unit) => bU k ou uc ut ub ul uw) 0 0 := by
  intro sz
  refine xx_met (Qf := fun A => va_Qi (p_U_has ou uc ut ub ul uw x) (xx_B D vwCl (xT k) A (fun (u : Unit) => bU k ou uc ut ub ul uw)) A) (cc := cX3_has) (maxL := 2) (ret := (some .boolean)) (by decide) rfl (Nat.le_of_ble_eq_true rfl) ?_
  intro p e s m below meth c A ls hx hb hr hts hown hlocks hin hml hA hS hP hD hK hN hl
  have hl : lv_has ls 2 [(0, .ref (ou 0)), (1, .int x)] := hl
  have hown : s.vm.findClass RX3 = some m.cls := hown
  have hinW := inX3
  refine lv_iload_n hx hb dX3_has_0 rfl (lv_at hl 1 rfl) ?_
  refine lv_if_lt (tgt := 16) hx hb dX3_has_1 (by decide) (fun c1 => ?_) (fun c1 => ?_)
  · refine lv_iconst (v := (nI 0)) hx hb dX3_has_16 (by decide) ?_
    refine xx_zret () hx hb hr hlocks rfl hS hK hP hD dX3_has_17 ?_
    first | exact xb_f (xx_nix (by omega) (Or.inl c1)) | exact xb_f (xx_nix (by omega) (Or.inr c9)) | exact xb_t (xx_ix (by omega) c1 c9)
  · refine lv_iload_n hx hb dX3_has_4 rfl (lv_at hl 1 rfl) ?_
    refine lv_aload_n hx hb dX3_has_5 rfl (lv_at hl 0 rfl) ?_
    refine va_get (D := D) (ci := 3) (v := .int (nI uc)) (C := RX3) (T := TX3) (N := 5) hx hb hts hinW hown hK hP 0 rfl rfl 4 (by decide) (hts _ tw_112) (fun _ h9 => h9) rfl dX3_has_6 ?_
    refine lv_icmp_ge (tgt := 16) hx hb dX3_has_9 (by decide) (fun c9 => ?_) (fun c9 => ?_)
    · refine lv_iconst (v := (nI 0)) hx hb dX3_has_16 (by decide) ?_
      refine xx_zret () hx hb hr hlocks rfl hS hK hP hD dX3_has_17 ?_
      first | exact xb_f (xx_nix (by omega) (Or.inl c1)) | exact xb_f (xx_nix (by omega) (Or.inr c9)) | exact xb_t (xx_ix (by omega) c1 c9)
    · refine lv_iconst (v := (nI 1)) hx hb dX3_has_12 (by decide) ?_
      refine lv_goto (tgt := 17) hx hb dX3_has_13 (by decide) ?_
      refine xx_zret () hx hb hr hlocks rfl hS hK hP hD dX3_has_17 ?_
      first | exact xb_f (xx_nix (by omega) (Or.inl c1)) | exact xb_f (xx_nix (by omega) (Or.inr c9)) | exact xb_t (xx_ix (by omega) c1 c9)
def p_U_level (ou : Nat → Nat) (uc : Nat) (ut : Nat → Int32) (ub : Nat → Int32) (ul : Nat → Int32) (uw : Nat → Int32) (x : Int32) : Int32 → Unit → Prop := fun r u => (∃ j, j < uc ∧ x = nI j ∧ r = ul j) ∨ (¬ ixN uc x ∧ r = nI 1)
set_option maxHeartbeats 4000000 in
set_option maxRecDepth 100000 in
theorem c_U_level (l : Launch) (D : va_G) (k : Nat → ClassId) (ou : Nat → Nat) (uc : Nat) (ut : Nat → Int32) (ub : Nat → Int32) (ul : Nat → Int32) (uw : Nat → Int32) (x : Int32) (huc : uc ≤ 20) : xx_Ci l yX3_levelOf (.code yX3_levelOf cX3_levelOf 2 (some .int) :: xall) ({ frames := 1, cells := 0, slots := 0, locals := 21 } : Room) D vwCl (xT k) [.ref (ou 0), .int x] (bU k ou uc ut ub ul uw) (p_U_level ou uc ut ub ul uw x) (fun (u : Unit) => bU k ou uc ut ub ul uw) 0 0 := by
  intro sz
  refine xx_met (Qf := fun A => va_Qi (p_U_level ou uc ut ub ul uw x) (xx_B D vwCl (xT k) A (fun (u : Unit) => bU k ou uc ut ub ul uw)) A) (cc := cX3_levelOf) (maxL := 2) (ret := (some .int)) (by decide) rfl (Nat.le_of_ble_eq_true rfl) ?_
  intro p e s m below meth c A ls hx hb hr hts hown hlocks hin hml hA hS hP hD hK hN hl
  have hl : lv_has ls 2 [(0, .ref (ou 0)), (1, .int x)] := hl
  have hown : s.vm.findClass RX3 = some m.cls := hown
  have hinW := inX3
  refine lv_aload_n hx hb dX3_levelOf_0 rfl (lv_at hl 0 rfl) ?_
  refine lv_iload_n hx hb dX3_levelOf_1 rfl (lv_at hl 1 rfl) ?_
  refine xx_calli ([]) [0, 1, 2, 3, 4] [] (va_runV (As := [.int x]) (rest := []) ⟨hx, hb, hml, hown, hts⟩ (c_U_has l D k ou uc ut ub ul uw x (by omega) s.heap.size) (cwV 1 hts (xx_gV tw_287 tw_289 ts_2 tw_6 tw_290) rfl rfl rfl (by decide +kernel) ⟨Nat.le_of_ble_eq_true rfl, Nat.le_of_ble_eq_true rfl⟩) (xx_preV hK hN hP hD [0, 1, 2, 3, 4] (by decide) rfl 3 0 rfl rfl) rfl rfl hl.1 rfl (lv_room (Nat.le_of_ble_eq_true rfl)) dX3_levelOf_2 ⟨Nat.le_of_ble_eq_true rfl, Nat.le_of_ble_eq_true rfl⟩) hP hD hS hA rfl rfl (by decide) (by decide) (fun r2 u2 H locs hw2 hP hD hS => ?_)
  rcases hw2 with ⟨rfl, j2, hj2, hx2⟩ | ⟨rfl, hq2⟩
  · subst hx2
    have hP : va_P D vwCl (bU k ou uc ut ub ul uw) H := hP
    have hD : va_D A (bU k ou uc ut ub ul uw) := hD
    refine lv_if_eq (tgt := 17) hx hb dX3_levelOf_5 (by decide) (fun c => absurd c (by decide)) (fun _ => ?_)
    refine lv_aload_n hx hb dX3_levelOf_8 rfl (lv_at hl 0 rfl) ?_
    refine va_get (D := D) (ci := 3) (v := .ref (ou 3)) (C := RX3) (T := TX3) (N := 5) hx hb hts hinW hown hK hP 0 rfl rfl 2 (by decide) (hts _ tw_110) (fun _ h9 => h9) rfl dX3_levelOf_9 ?_
    refine lv_iload_n hx hb dX3_levelOf_12 rfl (lv_at hl 1 rfl) ?_
    refine xx_iald hx hb hK hP 3 0 rfl rfl (show j2 < 20 by omega) (by decide) dX3_levelOf_13 ?_
    refine lv_goto (tgt := 18) hx hb dX3_levelOf_14 (by decide) ?_
    refine xx_iret () hx hb hr hlocks hS hK hP hD dX3_levelOf_18 ?_
    first | exact Or.inl ⟨j2, hj2, rfl, rfl⟩ | exact Or.inr ⟨hq2, rfl⟩
  · have hP : va_P D vwCl (bU k ou uc ut ub ul uw) H := hP
    have hD : va_D A (bU k ou uc ut ub ul uw) := hD
    refine lv_if_eq (tgt := 17) hx hb dX3_levelOf_5 (by decide) (fun _ => ?_) (fun c => absurd c (by decide))
    refine lv_iconst (v := (nI 1)) hx hb dX3_levelOf_17 (by decide) ?_
    refine xx_iret () hx hb hr hlocks hS hK hP hD dX3_levelOf_18 ?_
    first | exact Or.inl ⟨j2, hj2, rfl, rfl⟩ | exact Or.inr ⟨hq2, rfl⟩
def p_U_wanted (ou : Nat → Nat) (uc : Nat) (ut : Nat → Int32) (ub : Nat → Int32) (ul : Nat → Int32) (uw : Nat → Int32) (x : Int32) (q : Int32) : Int32 → Unit → Prop := fun r u => (∃ j, j < uc ∧ x = nI j ∧ r = uw j) ∨ (¬ ixN uc x ∧ r = q)
set_option maxHeartbeats 4000000 in
set_option maxRecDepth 100000 in
theorem c_U_wanted (l : Launch) (D : va_G) (k : Nat → ClassId) (ou : Nat → Nat) (uc : Nat) (ut : Nat → Int32) (ub : Nat → Int32) (ul : Nat → Int32) (uw : Nat → Int32) (x : Int32) (q : Int32) (huc : uc ≤ 20) : xx_Ci l yX3_wantedOf (.code yX3_wantedOf cX3_wantedOf 3 (some .int) :: xall) ({ frames := 1, cells := 0, slots := 0, locals := 21 } : Room) D vwCl (xT k) [.ref (ou 0), .int x, .int q] (bU k ou uc ut ub ul uw) (p_U_wanted ou uc ut ub ul uw x q) (fun (u : Unit) => bU k ou uc ut ub ul uw) 0 0 := by
  intro sz
  refine xx_met (Qf := fun A => va_Qi (p_U_wanted ou uc ut ub ul uw x q) (xx_B D vwCl (xT k) A (fun (u : Unit) => bU k ou uc ut ub ul uw)) A) (cc := cX3_wantedOf) (maxL := 3) (ret := (some .int)) (by decide) rfl (Nat.le_of_ble_eq_true rfl) ?_
  intro p e s m below meth c A ls hx hb hr hts hown hlocks hin hml hA hS hP hD hK hN hl
  have hl : lv_has ls 3 [(0, .ref (ou 0)), (1, .int x), (2, .int q)] := hl
  have hown : s.vm.findClass RX3 = some m.cls := hown
  have hinW := inX3
  refine lv_aload_n hx hb dX3_wantedOf_0 rfl (lv_at hl 0 rfl) ?_
  refine lv_iload_n hx hb dX3_wantedOf_1 rfl (lv_at hl 1 rfl) ?_
  refine xx_calli ([]) [0, 1, 2, 3, 4] [] (va_runV (As := [.int x]) (rest := []) ⟨hx, hb, hml, hown, hts⟩ (c_U_has l D k ou uc ut ub ul uw x (by omega) s.heap.size) (cwV 1 hts (xx_gV tw_287 tw_289 ts_2 tw_6 tw_290) rfl rfl rfl (by decide +kernel) ⟨Nat.le_of_ble_eq_true rfl, Nat.le_of_ble_eq_true rfl⟩) (xx_preV hK hN hP hD [0, 1, 2, 3, 4] (by decide) rfl 3 0 rfl rfl) rfl rfl hl.1 rfl (lv_room (Nat.le_of_ble_eq_true rfl)) dX3_wantedOf_2 ⟨Nat.le_of_ble_eq_true rfl, Nat.le_of_ble_eq_true rfl⟩) hP hD hS hA rfl rfl (by decide) (by decide) (fun r2 u2 H locs hw2 hP hD hS => ?_)
  rcases hw2 with ⟨rfl, j2, hj2, hx2⟩ | ⟨rfl, hq2⟩
  · subst hx2
    have hP : va_P D vwCl (bU k ou uc ut ub ul uw) H := hP
    have hD : va_D A (bU k ou uc ut ub ul uw) := hD
    refine lv_if_eq (tgt := 17) hx hb dX3_wantedOf_5 (by decide) (fun c => absurd c (by decide)) (fun _ => ?_)
    refine lv_aload_n hx hb dX3_wantedOf_8 rfl (lv_at hl 0 rfl) ?_
    refine va_get (D := D) (ci := 3) (v := .ref (ou 4)) (C := RX3) (T := TX3) (N := 5) hx hb hts hinW hown hK hP 0 rfl rfl 3 (by decide) (hts _ tw_111) (fun _ h9 => h9) rfl dX3_wantedOf_9 ?_
    refine lv_iload_n hx hb dX3_wantedOf_12 rfl (lv_at hl 1 rfl) ?_
    refine xx_iald hx hb hK hP 4 0 rfl rfl (show j2 < 20 by omega) (by decide) dX3_wantedOf_13 ?_
    refine lv_goto (tgt := 18) hx hb dX3_wantedOf_14 (by decide) ?_
    refine xx_iret () hx hb hr hlocks hS hK hP hD dX3_wantedOf_18 ?_
    first | exact Or.inl ⟨j2, hj2, rfl, rfl⟩ | exact Or.inr ⟨hq2, rfl⟩
  · have hP : va_P D vwCl (bU k ou uc ut ub ul uw) H := hP
    have hD : va_D A (bU k ou uc ut ub ul uw) := hD
    refine lv_if_eq (tgt := 17) hx hb dX3_wantedOf_5 (by decide) (fun _ => ?_) (fun c => absurd c (by decide))
    refine lv_iload_n hx hb dX3_wantedOf_17 rfl (lv_at hl 2 rfl) ?_
    refine xx_iret () hx hb hr hlocks hS hK hP hD dX3_wantedOf_18 ?_
    first | exact Or.inl ⟨j2, hj2, rfl, rfl⟩ | exact Or.inr ⟨hq2, rfl⟩
def p_U_rank (ou : Nat → Nat) (uc : Nat) (ut : Nat → Int32) (ub : Nat → Int32) (ul : Nat → Int32) (uw : Nat → Int32) (i : Nat) (t : Int32) (b : Int32) : Int32 → Unit → Prop := fun r u => (((ut i = (-1) ∨ ut i = t) ∧ (ub i = (-1) ∨ ub i = b)) ∧ r = nI (xs_rank (ut i) (ub i))) ∨ (¬ ((ut i = (-1) ∨ ut i = t) ∧ (ub i = (-1) ∨ ub i = b)) ∧ r = (-1))
set_option maxHeartbeats 4000000 in
set_option maxRecDepth 100000 in
theorem c_U_rank (l : Launch) (D : va_G) (k : Nat → ClassId) (ou : Nat → Nat) (uc : Nat) (ut : Nat → Int32) (ub : Nat → Int32) (ul : Nat → Int32) (uw : Nat → Int32) (i : Nat) (t : Int32) (b : Int32) (huc : uc ≤ 20) (hi : i < uc) : xx_Ci l yX3_rankFor (.code yX3_rankFor cX3_rankFor 8 (some .int) :: xall) ({ frames := 1, cells := 0, slots := 0, locals := 21 } : Room) D vwCl (xT k) [.ref (ou 0), .int (nI i), .int t, .int b] (bU k ou uc ut ub ul uw) (p_U_rank ou uc ut ub ul uw i t b) (fun (u : Unit) => bU k ou uc ut ub ul uw) 0 0 := by
  intro sz
  refine xx_met (Qf := fun A => va_Qi (p_U_rank ou uc ut ub ul uw i t b) (xx_B D vwCl (xT k) A (fun (u : Unit) => bU k ou uc ut ub ul uw)) A) (cc := cX3_rankFor) (maxL := 8) (ret := (some .int)) (by decide) rfl (Nat.le_of_ble_eq_true rfl) ?_
  intro p e s m below meth c A ls hx hb hr hts hown hlocks hin hml hA hS hP hD hK hN hl
  have hl : lv_has ls 8 [(0, .ref (ou 0)), (1, .int (nI i)), (2, .int t), (3, .int b)] := hl
  have hown : s.vm.findClass RX3 = some m.cls := hown
  have hinW := inX3
  refine lv_aload_n hx hb dX3_rankFor_0 rfl (lv_at hl 0 rfl) ?_
  refine lv_iload_n hx hb dX3_rankFor_1 rfl (lv_at hl 1 rfl) ?_
  refine xx_calli ([]) [0, 1, 2, 3, 4] [] (va_runV (As := [.int (nI i)]) (rest := []) ⟨hx, hb, hml, hown, hts⟩ (c_U_has l D k ou uc ut ub ul uw (nI i) (by omega) s.heap.size) (cwV 1 hts (xx_gV tw_287 tw_289 ts_2 tw_6 tw_290) rfl rfl rfl (by decide +kernel) ⟨Nat.le_of_ble_eq_true rfl, Nat.le_of_ble_eq_true rfl⟩) (xx_preV hK hN hP hD [0, 1, 2, 3, 4] (by decide) rfl 3 0 rfl rfl) rfl rfl hl.1 rfl (lv_room (Nat.le_of_ble_eq_true rfl)) dX3_rankFor_2 ⟨Nat.le_of_ble_eq_true rfl, Nat.le_of_ble_eq_true rfl⟩) hP hD hS hA rfl rfl (by decide) (by decide) (fun r2 u2 H locs hw2 hP hD hS => ?_)
  rcases hw2 with ⟨rfl, j2, hj2, hx2⟩ | ⟨rfl, hq2⟩
  · have hx2 : i = j2 := (nI_eq (by omega) (by omega)).mp hx2
    subst hx2
    have hP : va_P D vwCl (bU k ou uc ut ub ul uw) H := hP
    have hD : va_D A (bU k ou uc ut ub ul uw) := hD
    refine lv_if_ne (tgt := 10) hx hb dX3_rankFor_5 (by decide) (fun _ => ?_) (fun c => absurd c (by decide))
    refine lv_aload_n hx hb dX3_rankFor_10 rfl (lv_at hl 0 rfl) ?_
    refine va_get (D := D) (ci := 3) (v := .ref (ou 1)) (C := RX3) (T := TX3) (N := 5) hx hb hts hinW hown hK hP 0 rfl rfl 0 (by decide) (hts _ tw_108) (fun _ h9 => h9) rfl dX3_rankFor_11 ?_
    refine lv_iload_n hx hb dX3_rankFor_14 rfl (lv_at hl 1 rfl) ?_
    refine xx_iald hx hb hK hP 1 0 rfl rfl (show i < 20 by omega) (by decide) dX3_rankFor_15 ?_
    refine lv_iconst (v := (-1)) hx hb dX3_rankFor_16 (by decide) ?_
    refine lv_icmp_ne (tgt := 24) hx hb dX3_rankFor_17 (by decide) (fun c17 => ?_) (fun c17 => ?_)
    · refine lv_iconst (v := (nI 0)) hx hb dX3_rankFor_24 (by decide) ?_
      refine lv_istore (lv' := [(4, .int (nI 0)), (0, .ref (ou 0)), (1, .int (nI i)), (2, .int t), (3, .int b)]) hx hb dX3_rankFor_25 hl (by decide) rfl (fun ls hl => ?_)
      refine lv_aload_n hx hb dX3_rankFor_27 rfl (lv_at hl 1 rfl) ?_
      refine va_get (D := D) (ci := 3) (v := .ref (ou 2)) (C := RX3) (T := TX3) (N := 5) hx hb hts hinW hown hK hP 0 rfl rfl 1 (by decide) (hts _ tw_109) (fun _ h9 => h9) rfl dX3_rankFor_28 ?_
      refine lv_iload_n hx hb dX3_rankFor_31 rfl (lv_at hl 2 rfl) ?_
      refine xx_iald hx hb hK hP 2 0 rfl rfl (show i < 20 by omega) (by decide) dX3_rankFor_32 ?_
      refine lv_iconst (v := (-1)) hx hb dX3_rankFor_33 (by decide) ?_
      refine lv_icmp_ne (tgt := 41) hx hb dX3_rankFor_34 (by decide) (fun c34 => ?_) (fun c34 => ?_)
      · refine lv_iconst (v := (nI 0)) hx hb dX3_rankFor_41 (by decide) ?_
        refine lv_istore (lv' := [(5, .int (nI 0)), (4, .int (nI 0)), (0, .ref (ou 0)), (1, .int (nI i)), (2, .int t), (3, .int b)]) hx hb dX3_rankFor_42 hl (by decide) rfl (fun ls hl => ?_)
        refine lv_iload hx hb dX3_rankFor_44 (lv_at hl 1 rfl) ?_
        refine lv_if_ne (tgt := 59) hx hb dX3_rankFor_46 (by decide) (fun c => absurd c (by decide)) (fun _ => ?_)
        refine lv_aload_n hx hb dX3_rankFor_49 rfl (lv_at hl 2 rfl) ?_
        refine va_get (D := D) (ci := 3) (v := .ref (ou 1)) (C := RX3) (T := TX3) (N := 5) hx hb hts hinW hown hK hP 0 rfl rfl 0 (by decide) (hts _ tw_108) (fun _ h9 => h9) rfl dX3_rankFor_50 ?_
        refine lv_iload_n hx hb dX3_rankFor_53 rfl (lv_at hl 3 rfl) ?_
        refine xx_iald hx hb hK hP 1 0 rfl rfl (show i < 20 by omega) (by decide) dX3_rankFor_54 ?_
        refine lv_iload_n hx hb dX3_rankFor_55 rfl (lv_at hl 4 rfl) ?_
        refine lv_icmp_ne (tgt := 63) hx hb dX3_rankFor_56 (by decide) (fun c56 => ?_) (fun c56 => ?_)
        · refine lv_iconst (v := (nI 0)) hx hb dX3_rankFor_63 (by decide) ?_
          refine lv_istore (lv' := [(6, .int (nI 0)), (5, .int (nI 0)), (4, .int (nI 0)), (0, .ref (ou 0)), (1, .int (nI i)), (2, .int t), (3, .int b)]) hx hb dX3_rankFor_64 hl (by decide) rfl (fun ls hl => ?_)
          refine lv_iload hx hb dX3_rankFor_66 (lv_at hl 1 rfl) ?_
          refine lv_if_ne (tgt := 81) hx hb dX3_rankFor_68 (by decide) (fun c => absurd c (by decide)) (fun _ => ?_)
          refine lv_aload_n hx hb dX3_rankFor_71 rfl (lv_at hl 3 rfl) ?_
          refine va_get (D := D) (ci := 3) (v := .ref (ou 2)) (C := RX3) (T := TX3) (N := 5) hx hb hts hinW hown hK hP 0 rfl rfl 1 (by decide) (hts _ tw_109) (fun _ h9 => h9) rfl dX3_rankFor_72 ?_
          refine lv_iload_n hx hb dX3_rankFor_75 rfl (lv_at hl 4 rfl) ?_
          refine xx_iald hx hb hK hP 2 0 rfl rfl (show i < 20 by omega) (by decide) dX3_rankFor_76 ?_
          refine lv_iload_n hx hb dX3_rankFor_77 rfl (lv_at hl 6 rfl) ?_
          refine lv_icmp_ne (tgt := 85) hx hb dX3_rankFor_78 (by decide) (fun c78 => ?_) (fun c78 => ?_)
          · refine lv_iconst (v := (nI 0)) hx hb dX3_rankFor_85 (by decide) ?_
            refine lv_istore (lv' := [(7, .int (nI 0)), (6, .int (nI 0)), (5, .int (nI 0)), (4, .int (nI 0)), (0, .ref (ou 0)), (1, .int (nI i)), (2, .int t), (3, .int b)]) hx hb dX3_rankFor_86 hl (by decide) rfl (fun ls hl => ?_)
            refine lv_iload hx hb dX3_rankFor_88 (lv_at hl 1 rfl) ?_
            refine lv_if_eq (tgt := 98) hx hb dX3_rankFor_90 (by decide) (fun _ => ?_) (fun c => absurd c (by decide))
            refine lv_iconst (v := (-1)) hx hb dX3_rankFor_98 (by decide) ?_
            refine xx_iret () hx hb hr hlocks hS hK hP hD dX3_rankFor_99 ?_
            first | exact Or.inr ⟨fun h => h.1.elim c17 c56, rfl⟩ | exact Or.inr ⟨fun h => h.2.elim c34 c78, rfl⟩
          · refine lv_iconst (v := (nI 1)) hx hb dX3_rankFor_81 (by decide) ?_
            refine lv_goto (tgt := 86) hx hb dX3_rankFor_82 (by decide) ?_
            refine lv_istore (lv' := [(7, .int (nI 1)), (6, .int (nI 0)), (5, .int (nI 0)), (4, .int (nI 0)), (0, .ref (ou 0)), (1, .int (nI i)), (2, .int t), (3, .int b)]) hx hb dX3_rankFor_86 hl (by decide) rfl (fun ls hl => ?_)
            refine lv_iload hx hb dX3_rankFor_88 (lv_at hl 1 rfl) ?_
            refine lv_if_eq (tgt := 98) hx hb dX3_rankFor_90 (by decide) (fun _ => ?_) (fun c => absurd c (by decide))
            refine lv_iconst (v := (-1)) hx hb dX3_rankFor_98 (by decide) ?_
            refine xx_iret () hx hb hr hlocks hS hK hP hD dX3_rankFor_99 ?_
            first | exact Or.inr ⟨fun h => h.1.elim c17 c56, rfl⟩ | exact Or.inr ⟨fun h => h.2.elim c34 c78, rfl⟩
        · refine lv_iconst (v := (nI 1)) hx hb dX3_rankFor_59 (by decide) ?_
          refine lv_goto (tgt := 64) hx hb dX3_rankFor_60 (by decide) ?_
          refine lv_istore (lv' := [(6, .int (nI 1)), (5, .int (nI 0)), (4, .int (nI 0)), (0, .ref (ou 0)), (1, .int (nI i)), (2, .int t), (3, .int b)]) hx hb dX3_rankFor_64 hl (by decide) rfl (fun ls hl => ?_)
          refine lv_iload hx hb dX3_rankFor_66 (lv_at hl 1 rfl) ?_
          refine lv_if_ne (tgt := 81) hx hb dX3_rankFor_68 (by decide) (fun c => absurd c (by decide)) (fun _ => ?_)
          refine lv_aload_n hx hb dX3_rankFor_71 rfl (lv_at hl 3 rfl) ?_
          refine va_get (D := D) (ci := 3) (v := .ref (ou 2)) (C := RX3) (T := TX3) (N := 5) hx hb hts hinW hown hK hP 0 rfl rfl 1 (by decide) (hts _ tw_109) (fun _ h9 => h9) rfl dX3_rankFor_72 ?_
          refine lv_iload_n hx hb dX3_rankFor_75 rfl (lv_at hl 4 rfl) ?_
          refine xx_iald hx hb hK hP 2 0 rfl rfl (show i < 20 by omega) (by decide) dX3_rankFor_76 ?_
          refine lv_iload_n hx hb dX3_rankFor_77 rfl (lv_at hl 6 rfl) ?_
          refine lv_icmp_ne (tgt := 85) hx hb dX3_rankFor_78 (by decide) (fun c78 => ?_) (fun c78 => ?_)
          · refine lv_iconst (v := (nI 0)) hx hb dX3_rankFor_85 (by decide) ?_
            refine lv_istore (lv' := [(7, .int (nI 0)), (6, .int (nI 1)), (5, .int (nI 0)), (4, .int (nI 0)), (0, .ref (ou 0)), (1, .int (nI i)), (2, .int t), (3, .int b)]) hx hb dX3_rankFor_86 hl (by decide) rfl (fun ls hl => ?_)
            refine lv_iload hx hb dX3_rankFor_88 (lv_at hl 1 rfl) ?_
            refine lv_if_eq (tgt := 98) hx hb dX3_rankFor_90 (by decide) (fun c => absurd c (by decide)) (fun _ => ?_)
            refine lv_iload hx hb dX3_rankFor_93 (lv_at hl 0 rfl) ?_
            refine lv_if_ne (tgt := 100) hx hb dX3_rankFor_95 (by decide) (fun c => absurd c (by decide)) (fun _ => ?_)
            refine lv_iconst (v := (-1)) hx hb dX3_rankFor_98 (by decide) ?_
            refine xx_iret () hx hb hr hlocks hS hK hP hD dX3_rankFor_99 ?_
            first | exact Or.inr ⟨fun h => h.1.elim c17 c56, rfl⟩ | exact Or.inr ⟨fun h => h.2.elim c34 c78, rfl⟩
          · refine lv_iconst (v := (nI 1)) hx hb dX3_rankFor_81 (by decide) ?_
            refine lv_goto (tgt := 86) hx hb dX3_rankFor_82 (by decide) ?_
            refine lv_istore (lv' := [(7, .int (nI 1)), (6, .int (nI 1)), (5, .int (nI 0)), (4, .int (nI 0)), (0, .ref (ou 0)), (1, .int (nI i)), (2, .int t), (3, .int b)]) hx hb dX3_rankFor_86 hl (by decide) rfl (fun ls hl => ?_)
            refine lv_iload hx hb dX3_rankFor_88 (lv_at hl 1 rfl) ?_
            refine lv_if_eq (tgt := 98) hx hb dX3_rankFor_90 (by decide) (fun c => absurd c (by decide)) (fun _ => ?_)
            refine lv_iload hx hb dX3_rankFor_93 (lv_at hl 0 rfl) ?_
            refine lv_if_ne (tgt := 100) hx hb dX3_rankFor_95 (by decide) (fun _ => ?_) (fun c => absurd c (by decide))
            refine lv_iload hx hb dX3_rankFor_100 (lv_at hl 3 rfl) ?_
            refine lv_if_eq (tgt := 109) hx hb dX3_rankFor_102 (by decide) (fun _ => ?_) (fun c => absurd c (by decide))
            refine lv_iconst (v := (nI 2)) hx hb dX3_rankFor_109 (by decide) ?_
            refine lv_iload hx hb dX3_rankFor_110 (lv_at hl 2 rfl) ?_
            refine lv_if_eq (tgt := 119) hx hb dX3_rankFor_112 (by decide) (fun _ => ?_) (fun c => absurd c (by decide))
            refine lv_iconst (v := (nI 1)) hx hb dX3_rankFor_119 (by decide) ?_
            refine lv_iadd hx hb dX3_rankFor_120 ?_
            refine xx_topi (y := (nI 3)) (by decide) ?_
            refine xx_iret () hx hb hr hlocks hS hK hP hD dX3_rankFor_121 ?_
            first | exact Or.inl ⟨⟨Or.inl c17, Or.inl c34⟩, xs_rank_aa c17 c34⟩ | exact Or.inl ⟨⟨Or.inl c17, Or.inr c78⟩, xs_rank_an c17 c34⟩ | exact Or.inl ⟨⟨Or.inr c56, Or.inl c34⟩, xs_rank_na c17 c34⟩ | exact Or.inl ⟨⟨Or.inr c56, Or.inr c78⟩, xs_rank_nn c17 c34⟩
      · refine lv_iconst (v := (nI 1)) hx hb dX3_rankFor_37 (by decide) ?_
        refine lv_goto (tgt := 42) hx hb dX3_rankFor_38 (by decide) ?_
        refine lv_istore (lv' := [(5, .int (nI 1)), (4, .int (nI 0)), (0, .ref (ou 0)), (1, .int (nI i)), (2, .int t), (3, .int b)]) hx hb dX3_rankFor_42 hl (by decide) rfl (fun ls hl => ?_)
        refine lv_iload hx hb dX3_rankFor_44 (lv_at hl 1 rfl) ?_
        refine lv_if_ne (tgt := 59) hx hb dX3_rankFor_46 (by decide) (fun c => absurd c (by decide)) (fun _ => ?_)
        refine lv_aload_n hx hb dX3_rankFor_49 rfl (lv_at hl 2 rfl) ?_
        refine va_get (D := D) (ci := 3) (v := .ref (ou 1)) (C := RX3) (T := TX3) (N := 5) hx hb hts hinW hown hK hP 0 rfl rfl 0 (by decide) (hts _ tw_108) (fun _ h9 => h9) rfl dX3_rankFor_50 ?_
        refine lv_iload_n hx hb dX3_rankFor_53 rfl (lv_at hl 3 rfl) ?_
        refine xx_iald hx hb hK hP 1 0 rfl rfl (show i < 20 by omega) (by decide) dX3_rankFor_54 ?_
        refine lv_iload_n hx hb dX3_rankFor_55 rfl (lv_at hl 4 rfl) ?_
        refine lv_icmp_ne (tgt := 63) hx hb dX3_rankFor_56 (by decide) (fun c56 => ?_) (fun c56 => ?_)
        · refine lv_iconst (v := (nI 0)) hx hb dX3_rankFor_63 (by decide) ?_
          refine lv_istore (lv' := [(6, .int (nI 0)), (5, .int (nI 1)), (4, .int (nI 0)), (0, .ref (ou 0)), (1, .int (nI i)), (2, .int t), (3, .int b)]) hx hb dX3_rankFor_64 hl (by decide) rfl (fun ls hl => ?_)
          refine lv_iload hx hb dX3_rankFor_66 (lv_at hl 1 rfl) ?_
          refine lv_if_ne (tgt := 81) hx hb dX3_rankFor_68 (by decide) (fun _ => ?_) (fun c => absurd c (by decide))
          refine lv_iconst (v := (nI 1)) hx hb dX3_rankFor_81 (by decide) ?_
          refine lv_goto (tgt := 86) hx hb dX3_rankFor_82 (by decide) ?_
          refine lv_istore (lv' := [(7, .int (nI 1)), (6, .int (nI 0)), (5, .int (nI 1)), (4, .int (nI 0)), (0, .ref (ou 0)), (1, .int (nI i)), (2, .int t), (3, .int b)]) hx hb dX3_rankFor_86 hl (by decide) rfl (fun ls hl => ?_)
          refine lv_iload hx hb dX3_rankFor_88 (lv_at hl 1 rfl) ?_
          refine lv_if_eq (tgt := 98) hx hb dX3_rankFor_90 (by decide) (fun _ => ?_) (fun c => absurd c (by decide))
          refine lv_iconst (v := (-1)) hx hb dX3_rankFor_98 (by decide) ?_
          refine xx_iret () hx hb hr hlocks hS hK hP hD dX3_rankFor_99 ?_
          first | exact Or.inr ⟨fun h => h.1.elim c17 c56, rfl⟩ | exact Or.inr ⟨fun h => h.2.elim c34 c78, rfl⟩
        · refine lv_iconst (v := (nI 1)) hx hb dX3_rankFor_59 (by decide) ?_
          refine lv_goto (tgt := 64) hx hb dX3_rankFor_60 (by decide) ?_
          refine lv_istore (lv' := [(6, .int (nI 1)), (5, .int (nI 1)), (4, .int (nI 0)), (0, .ref (ou 0)), (1, .int (nI i)), (2, .int t), (3, .int b)]) hx hb dX3_rankFor_64 hl (by decide) rfl (fun ls hl => ?_)
          refine lv_iload hx hb dX3_rankFor_66 (lv_at hl 1 rfl) ?_
          refine lv_if_ne (tgt := 81) hx hb dX3_rankFor_68 (by decide) (fun _ => ?_) (fun c => absurd c (by decide))
          refine lv_iconst (v := (nI 1)) hx hb dX3_rankFor_81 (by decide) ?_
          refine lv_goto (tgt := 86) hx hb dX3_rankFor_82 (by decide) ?_
          refine lv_istore (lv' := [(7, .int (nI 1)), (6, .int (nI 1)), (5, .int (nI 1)), (4, .int (nI 0)), (0, .ref (ou 0)), (1, .int (nI i)), (2, .int t), (3, .int b)]) hx hb dX3_rankFor_86 hl (by decide) rfl (fun ls hl => ?_)
          refine lv_iload hx hb dX3_rankFor_88 (lv_at hl 1 rfl) ?_
          refine lv_if_eq (tgt := 98) hx hb dX3_rankFor_90 (by decide) (fun c => absurd c (by decide)) (fun _ => ?_)
          refine lv_iload hx hb dX3_rankFor_93 (lv_at hl 0 rfl) ?_
          refine lv_if_ne (tgt := 100) hx hb dX3_rankFor_95 (by decide) (fun _ => ?_) (fun c => absurd c (by decide))
          refine lv_iload hx hb dX3_rankFor_100 (lv_at hl 3 rfl) ?_
          refine lv_if_eq (tgt := 109) hx hb dX3_rankFor_102 (by decide) (fun _ => ?_) (fun c => absurd c (by decide))
          refine lv_iconst (v := (nI 2)) hx hb dX3_rankFor_109 (by decide) ?_
          refine lv_iload hx hb dX3_rankFor_110 (lv_at hl 2 rfl) ?_
          refine lv_if_eq (tgt := 119) hx hb dX3_rankFor_112 (by decide) (fun c => absurd c (by decide)) (fun _ => ?_)
          refine lv_iconst (v := (nI 0)) hx hb dX3_rankFor_115 (by decide) ?_
          refine lv_goto (tgt := 120) hx hb dX3_rankFor_116 (by decide) ?_
          refine lv_iadd hx hb dX3_rankFor_120 ?_
          refine xx_topi (y := (nI 2)) (by decide) ?_
          refine xx_iret () hx hb hr hlocks hS hK hP hD dX3_rankFor_121 ?_
          first | exact Or.inl ⟨⟨Or.inl c17, Or.inl c34⟩, xs_rank_aa c17 c34⟩ | exact Or.inl ⟨⟨Or.inl c17, Or.inr c78⟩, xs_rank_an c17 c34⟩ | exact Or.inl ⟨⟨Or.inr c56, Or.inl c34⟩, xs_rank_na c17 c34⟩ | exact Or.inl ⟨⟨Or.inr c56, Or.inr c78⟩, xs_rank_nn c17 c34⟩
    · refine lv_iconst (v := (nI 1)) hx hb dX3_rankFor_20 (by decide) ?_
      refine lv_goto (tgt := 25) hx hb dX3_rankFor_21 (by decide) ?_
      refine lv_istore (lv' := [(4, .int (nI 1)), (0, .ref (ou 0)), (1, .int (nI i)), (2, .int t), (3, .int b)]) hx hb dX3_rankFor_25 hl (by decide) rfl (fun ls hl => ?_)
      refine lv_aload_n hx hb dX3_rankFor_27 rfl (lv_at hl 1 rfl) ?_
      refine va_get (D := D) (ci := 3) (v := .ref (ou 2)) (C := RX3) (T := TX3) (N := 5) hx hb hts hinW hown hK hP 0 rfl rfl 1 (by decide) (hts _ tw_109) (fun _ h9 => h9) rfl dX3_rankFor_28 ?_
      refine lv_iload_n hx hb dX3_rankFor_31 rfl (lv_at hl 2 rfl) ?_
      refine xx_iald hx hb hK hP 2 0 rfl rfl (show i < 20 by omega) (by decide) dX3_rankFor_32 ?_
      refine lv_iconst (v := (-1)) hx hb dX3_rankFor_33 (by decide) ?_
      refine lv_icmp_ne (tgt := 41) hx hb dX3_rankFor_34 (by decide) (fun c34 => ?_) (fun c34 => ?_)
      · refine lv_iconst (v := (nI 0)) hx hb dX3_rankFor_41 (by decide) ?_
        refine lv_istore (lv' := [(5, .int (nI 0)), (4, .int (nI 1)), (0, .ref (ou 0)), (1, .int (nI i)), (2, .int t), (3, .int b)]) hx hb dX3_rankFor_42 hl (by decide) rfl (fun ls hl => ?_)
        refine lv_iload hx hb dX3_rankFor_44 (lv_at hl 1 rfl) ?_
        refine lv_if_ne (tgt := 59) hx hb dX3_rankFor_46 (by decide) (fun _ => ?_) (fun c => absurd c (by decide))
        refine lv_iconst (v := (nI 1)) hx hb dX3_rankFor_59 (by decide) ?_
        refine lv_goto (tgt := 64) hx hb dX3_rankFor_60 (by decide) ?_
        refine lv_istore (lv' := [(6, .int (nI 1)), (5, .int (nI 0)), (4, .int (nI 1)), (0, .ref (ou 0)), (1, .int (nI i)), (2, .int t), (3, .int b)]) hx hb dX3_rankFor_64 hl (by decide) rfl (fun ls hl => ?_)
        refine lv_iload hx hb dX3_rankFor_66 (lv_at hl 1 rfl) ?_
        refine lv_if_ne (tgt := 81) hx hb dX3_rankFor_68 (by decide) (fun c => absurd c (by decide)) (fun _ => ?_)
        refine lv_aload_n hx hb dX3_rankFor_71 rfl (lv_at hl 3 rfl) ?_
        refine va_get (D := D) (ci := 3) (v := .ref (ou 2)) (C := RX3) (T := TX3) (N := 5) hx hb hts hinW hown hK hP 0 rfl rfl 1 (by decide) (hts _ tw_109) (fun _ h9 => h9) rfl dX3_rankFor_72 ?_
        refine lv_iload_n hx hb dX3_rankFor_75 rfl (lv_at hl 4 rfl) ?_
        refine xx_iald hx hb hK hP 2 0 rfl rfl (show i < 20 by omega) (by decide) dX3_rankFor_76 ?_
        refine lv_iload_n hx hb dX3_rankFor_77 rfl (lv_at hl 6 rfl) ?_
        refine lv_icmp_ne (tgt := 85) hx hb dX3_rankFor_78 (by decide) (fun c78 => ?_) (fun c78 => ?_)
        · refine lv_iconst (v := (nI 0)) hx hb dX3_rankFor_85 (by decide) ?_
          refine lv_istore (lv' := [(7, .int (nI 0)), (6, .int (nI 1)), (5, .int (nI 0)), (4, .int (nI 1)), (0, .ref (ou 0)), (1, .int (nI i)), (2, .int t), (3, .int b)]) hx hb dX3_rankFor_86 hl (by decide) rfl (fun ls hl => ?_)
          refine lv_iload hx hb dX3_rankFor_88 (lv_at hl 1 rfl) ?_
          refine lv_if_eq (tgt := 98) hx hb dX3_rankFor_90 (by decide) (fun c => absurd c (by decide)) (fun _ => ?_)
          refine lv_iload hx hb dX3_rankFor_93 (lv_at hl 0 rfl) ?_
          refine lv_if_ne (tgt := 100) hx hb dX3_rankFor_95 (by decide) (fun c => absurd c (by decide)) (fun _ => ?_)
          refine lv_iconst (v := (-1)) hx hb dX3_rankFor_98 (by decide) ?_
          refine xx_iret () hx hb hr hlocks hS hK hP hD dX3_rankFor_99 ?_
          first | exact Or.inr ⟨fun h => h.1.elim c17 c56, rfl⟩ | exact Or.inr ⟨fun h => h.2.elim c34 c78, rfl⟩
        · refine lv_iconst (v := (nI 1)) hx hb dX3_rankFor_81 (by decide) ?_
          refine lv_goto (tgt := 86) hx hb dX3_rankFor_82 (by decide) ?_
          refine lv_istore (lv' := [(7, .int (nI 1)), (6, .int (nI 1)), (5, .int (nI 0)), (4, .int (nI 1)), (0, .ref (ou 0)), (1, .int (nI i)), (2, .int t), (3, .int b)]) hx hb dX3_rankFor_86 hl (by decide) rfl (fun ls hl => ?_)
          refine lv_iload hx hb dX3_rankFor_88 (lv_at hl 1 rfl) ?_
          refine lv_if_eq (tgt := 98) hx hb dX3_rankFor_90 (by decide) (fun c => absurd c (by decide)) (fun _ => ?_)
          refine lv_iload hx hb dX3_rankFor_93 (lv_at hl 0 rfl) ?_
          refine lv_if_ne (tgt := 100) hx hb dX3_rankFor_95 (by decide) (fun _ => ?_) (fun c => absurd c (by decide))
          refine lv_iload hx hb dX3_rankFor_100 (lv_at hl 3 rfl) ?_
          refine lv_if_eq (tgt := 109) hx hb dX3_rankFor_102 (by decide) (fun c => absurd c (by decide)) (fun _ => ?_)
          refine lv_iconst (v := (nI 0)) hx hb dX3_rankFor_105 (by decide) ?_
          refine lv_goto (tgt := 110) hx hb dX3_rankFor_106 (by decide) ?_
          refine lv_iload hx hb dX3_rankFor_110 (lv_at hl 2 rfl) ?_
          refine lv_if_eq (tgt := 119) hx hb dX3_rankFor_112 (by decide) (fun _ => ?_) (fun c => absurd c (by decide))
          refine lv_iconst (v := (nI 1)) hx hb dX3_rankFor_119 (by decide) ?_
          refine lv_iadd hx hb dX3_rankFor_120 ?_
          refine xx_topi (y := (nI 1)) (by decide) ?_
          refine xx_iret () hx hb hr hlocks hS hK hP hD dX3_rankFor_121 ?_
          first | exact Or.inl ⟨⟨Or.inl c17, Or.inl c34⟩, xs_rank_aa c17 c34⟩ | exact Or.inl ⟨⟨Or.inl c17, Or.inr c78⟩, xs_rank_an c17 c34⟩ | exact Or.inl ⟨⟨Or.inr c56, Or.inl c34⟩, xs_rank_na c17 c34⟩ | exact Or.inl ⟨⟨Or.inr c56, Or.inr c78⟩, xs_rank_nn c17 c34⟩
      · refine lv_iconst (v := (nI 1)) hx hb dX3_rankFor_37 (by decide) ?_
        refine lv_goto (tgt := 42) hx hb dX3_rankFor_38 (by decide) ?_
        refine lv_istore (lv' := [(5, .int (nI 1)), (4, .int (nI 1)), (0, .ref (ou 0)), (1, .int (nI i)), (2, .int t), (3, .int b)]) hx hb dX3_rankFor_42 hl (by decide) rfl (fun ls hl => ?_)
        refine lv_iload hx hb dX3_rankFor_44 (lv_at hl 1 rfl) ?_
        refine lv_if_ne (tgt := 59) hx hb dX3_rankFor_46 (by decide) (fun _ => ?_) (fun c => absurd c (by decide))
        refine lv_iconst (v := (nI 1)) hx hb dX3_rankFor_59 (by decide) ?_
        refine lv_goto (tgt := 64) hx hb dX3_rankFor_60 (by decide) ?_
        refine lv_istore (lv' := [(6, .int (nI 1)), (5, .int (nI 1)), (4, .int (nI 1)), (0, .ref (ou 0)), (1, .int (nI i)), (2, .int t), (3, .int b)]) hx hb dX3_rankFor_64 hl (by decide) rfl (fun ls hl => ?_)
        refine lv_iload hx hb dX3_rankFor_66 (lv_at hl 1 rfl) ?_
        refine lv_if_ne (tgt := 81) hx hb dX3_rankFor_68 (by decide) (fun _ => ?_) (fun c => absurd c (by decide))
        refine lv_iconst (v := (nI 1)) hx hb dX3_rankFor_81 (by decide) ?_
        refine lv_goto (tgt := 86) hx hb dX3_rankFor_82 (by decide) ?_
        refine lv_istore (lv' := [(7, .int (nI 1)), (6, .int (nI 1)), (5, .int (nI 1)), (4, .int (nI 1)), (0, .ref (ou 0)), (1, .int (nI i)), (2, .int t), (3, .int b)]) hx hb dX3_rankFor_86 hl (by decide) rfl (fun ls hl => ?_)
        refine lv_iload hx hb dX3_rankFor_88 (lv_at hl 1 rfl) ?_
        refine lv_if_eq (tgt := 98) hx hb dX3_rankFor_90 (by decide) (fun c => absurd c (by decide)) (fun _ => ?_)
        refine lv_iload hx hb dX3_rankFor_93 (lv_at hl 0 rfl) ?_
        refine lv_if_ne (tgt := 100) hx hb dX3_rankFor_95 (by decide) (fun _ => ?_) (fun c => absurd c (by decide))
        refine lv_iload hx hb dX3_rankFor_100 (lv_at hl 3 rfl) ?_
        refine lv_if_eq (tgt := 109) hx hb dX3_rankFor_102 (by decide) (fun c => absurd c (by decide)) (fun _ => ?_)
        refine lv_iconst (v := (nI 0)) hx hb dX3_rankFor_105 (by decide) ?_
        refine lv_goto (tgt := 110) hx hb dX3_rankFor_106 (by decide) ?_
        refine lv_iload hx hb dX3_rankFor_110 (lv_at hl 2 rfl) ?_
        refine lv_if_eq (tgt := 119) hx hb dX3_rankFor_112 (by decide) (fun c => absurd c (by decide)) (fun _ => ?_)
        refine lv_iconst (v := (nI 0)) hx hb dX3_rankFor_115 (by decide) ?_
        refine lv_goto (tgt := 120) hx hb dX3_rankFor_116 (by decide) ?_
        refine lv_iadd hx hb dX3_rankFor_120 ?_
        refine xx_topi (y := (nI 0)) (by decide) ?_
        refine xx_iret () hx hb hr hlocks hS hK hP hD dX3_rankFor_121 ?_
        first | exact Or.inl ⟨⟨Or.inl c17, Or.inl c34⟩, xs_rank_aa c17 c34⟩ | exact Or.inl ⟨⟨Or.inl c17, Or.inr c78⟩, xs_rank_an c17 c34⟩ | exact Or.inl ⟨⟨Or.inr c56, Or.inl c34⟩, xs_rank_na c17 c34⟩ | exact Or.inl ⟨⟨Or.inr c56, Or.inr c78⟩, xs_rank_nn c17 c34⟩
  · have hP : va_P D vwCl (bU k ou uc ut ub ul uw) H := hP
    have hD : va_D A (bU k ou uc ut ub ul uw) := hD
    exact absurd ⟨i, hi, rfl⟩ hq2
def p_U_best (ou : Nat → Nat) (uc : Nat) (ut : Nat → Int32) (ub : Nat → Int32) (ul : Nat → Int32) (uw : Nat → Int32) (t : Int32) (b : Int32) : Int32 → Unit → Prop := fun r u => (r = (-1) ∧ ∀ j, j < uc → ¬ ((ut j = (-1) ∨ ut j = t) ∧ (ub j = (-1) ∨ ub j = b))) ∨ (∃ q, r = nI q ∧ q < uc ∧ ((ut q = (-1) ∨ ut q = t) ∧ (ub q = (-1) ∨ ub q = b)) ∧ ∀ j, j < uc → ((ut j = (-1) ∨ ut j = t) ∧ (ub j = (-1) ∨ ub j = b)) → xs_rank (ut j) (ub j) ≤ xs_rank (ut q) (ub q) ∧ (q < j → xs_rank (ut j) (ub j) < xs_rank (ut q) (ub q)))
set_option maxHeartbeats 4000000 in
set_option maxRecDepth 100000 in
theorem c_U_best (l : Launch) (D : va_G) (k : Nat → ClassId) (ou : Nat → Nat) (uc : Nat) (ut : Nat → Int32) (ub : Nat → Int32) (ul : Nat → Int32) (uw : Nat → Int32) (t : Int32) (b : Int32) (huc : uc ≤ 20) : xx_Ci l yX3_best (.code yX3_best cX3_best 7 (some .int) :: xall) ({ frames := 2, cells := 0, slots := 0, locals := 48 } : Room) D vwCl (xT k) [.ref (ou 0), .int t, .int b] (bU k ou uc ut ub ul uw) (p_U_best ou uc ut ub ul uw t b) (fun (u : Unit) => bU k ou uc ut ub ul uw) 0 0 := by
  intro sz
  refine xx_met (Qf := fun A => va_Qi (p_U_best ou uc ut ub ul uw t b) (xx_B D vwCl (xT k) A (fun (u : Unit) => bU k ou uc ut ub ul uw)) A) (cc := cX3_best) (maxL := 7) (ret := (some .int)) (by decide) rfl (Nat.le_of_ble_eq_true rfl) ?_
  intro p e s m below meth c A ls hx hb hr hts hown hlocks hin hml hA hS hP hD hK hN hl
  have hl : lv_has ls 7 [(0, .ref (ou 0)), (1, .int t), (2, .int b)] := hl
  have hown : s.vm.findClass RX3 = some m.cls := hown
  have hinW := inX3
  refine lv_iconst (v := (-1)) hx hb dX3_best_0 (by decide) ?_
  refine lv_istore_n (lv' := [(3, .int (-1)), (0, .ref (ou 0)), (1, .int t), (2, .int b)]) hx hb dX3_best_1 rfl hl (by decide) rfl (fun ls hl => ?_)
  refine lv_iconst (v := (nI 0)) hx hb dX3_best_2 (by decide) ?_
  refine lv_istore (lv' := [(4, .int (nI 0)), (3, .int (-1)), (0, .ref (ou 0)), (1, .int t), (2, .int b)]) hx hb dX3_best_3 hl (by decide) rfl (fun ls hl => ?_)
  refine lv_iconst (v := (nI 0)) hx hb dX3_best_5 (by decide) ?_
  refine lv_istore (lv' := [(5, .int (nI 0)), (4, .int (nI 0)), (3, .int (-1)), (0, .ref (ou 0)), (1, .int t), (2, .int b)]) hx hb dX3_best_6 hl (by decide) rfl (fun ls hl => ?_)
  have loop8 : ∀ (dd : Nat) (i : Nat) (mr : Nat) (b3 : Int32), uc + 1 ≤ i + dd → (i ≤ uc) → (mr ≤ 3) → ((b3 = (-1) ∧ mr = 0 ∧ ∀ j, j < i → ¬ ((ut j = (-1) ∨ ut j = t) ∧ (ub j = (-1) ∨ ub j = b))) ∨ (∃ q, b3 = nI q ∧ mr = xs_rank (ut q) (ub q) ∧ q < i ∧ ((ut q = (-1) ∨ ut q = t) ∧ (ub q = (-1) ∨ ub q = b)) ∧ ∀ j, j < i → ((ut j = (-1) ∨ ut j = t) ∧ (ub j = (-1) ∨ ub j = b)) → xs_rank (ut j) (ub j) ≤ xs_rank (ut q) (ub q) ∧ (q < j → xs_rank (ut j) (ub j) < xs_rank (ut q) (ub q)))) → ∀ (H : Heap) (locs : List Loc) (ls : Array Slot), va_P D vwCl (bU k ou uc ut ub ul uw) H → va_D A (bU k ou uc ut ub ul uw) → va_S A s.heap H locs → lv_has ls 7 [(0, .ref (ou 0)), (1, .int t), (2, .int b), (3, .int b3), (4, .int (nI mr)), (5, .int (nI i))] → W p l e ({ frames := 2, cells := 0, slots := 0, locals := 48 } : Room) s m [.ref (ou 0), .int t, .int b].toArray below meth c H locs 0 0 (MQ below (va_Qi (p_U_best ou uc ut ub ul uw t b) (xx_B D vwCl (xT k) A (fun (u : Unit) => bU k ou uc ut ub ul uw)) A) [.ref (ou 0), .int t, .int b].toArray s 0 0 A) (F0 m 8 ls []) := by
    intro dd
    induction dd with
    | zero =>
      intro i mr b3 hm h2 h4 h3
      exact absurd hm (by omega)
    | succ dd ih8 =>
      intro i mr b3 hm h2 h4 h3 H locs ls hP hD hS hl
      refine lv_iload hx hb dX3_best_8 (lv_at hl 5 rfl) ?_
      refine lv_aload_n hx hb dX3_best_10 rfl (lv_at hl 0 rfl) ?_
      refine va_get (D := D) (ci := 3) (v := .int (nI uc)) (C := RX3) (T := TX3) (N := 5) hx hb hts hinW hown hK hP 0 rfl rfl 4 (by decide) (hts _ tw_112) (fun _ h9 => h9) rfl dX3_best_11 ?_
      refine lv_icmp_ge (tgt := 53) hx hb dX3_best_14 (by decide) (fun c14 => ?_) (fun c14 => ?_)
      · have c14 : uc ≤ i := (nI_leI (by omega) (by omega)).mp c14
        refine lv_iload_n hx hb dX3_best_53 rfl (lv_at hl 3 rfl) ?_
        refine xx_iret () hx hb hr hlocks hS hK hP hD dX3_best_54 ?_
        obtain rfl : i = uc := by omega
        rcases h3 with ⟨h31, h32, h33⟩ | ⟨q, h31, h32, h33⟩
        · exact Or.inl ⟨h31, h33⟩
        · exact Or.inr ⟨q, h31, h33⟩
      · have c14 : i < uc := Nat.lt_of_not_le (fun h => c14 ((nI_leI (by omega) (by omega)).mpr h))
        refine lv_aload_n hx hb dX3_best_17 rfl (lv_at hl 0 rfl) ?_
        refine lv_iload hx hb dX3_best_18 (lv_at hl 5 rfl) ?_
        refine lv_iload_n hx hb dX3_best_20 rfl (lv_at hl 1 rfl) ?_
        refine lv_iload_n hx hb dX3_best_21 rfl (lv_at hl 2 rfl) ?_
        refine xx_calli ([]) [0, 1, 2, 3, 4] [] (va_runV (As := [.int (nI i), .int t, .int b]) (rest := []) ⟨hx, hb, hml, hown, hts⟩ (c_U_rank l D k ou uc ut ub ul uw i t b (by omega) (by omega) H.size) (cwV 3 hts (xx_gV tw_283 tw_285 ts_1 tw_6 tw_286) rfl rfl rfl (by decide +kernel) ⟨Nat.le_of_ble_eq_true rfl, Nat.le_of_ble_eq_true rfl⟩) (xx_preV hK hN hP hD [0, 1, 2, 3, 4] (by decide) rfl 3 0 rfl rfl) rfl rfl hl.1 rfl (lv_room (Nat.le_of_ble_eq_true rfl)) dX3_best_22 ⟨Nat.le_of_ble_eq_true rfl, Nat.le_of_ble_eq_true rfl⟩) hP hD hS hA rfl rfl (by decide) (by decide) (fun r22 u22 H locs hw22 hP hD hS => ?_)
        rcases hw22 with ⟨hf22, rfl⟩ | ⟨hf22, rfl⟩
        · have hk22 := xs_rank_le (ut i) (ub i)
          have hP : va_P D vwCl (bU k ou uc ut ub ul uw) H := hP
          have hD : va_D A (bU k ou uc ut ub ul uw) := hD
          refine lv_istore (lv' := [(6, .int (nI (xs_rank (ut i) (ub i)))), (0, .ref (ou 0)), (1, .int t), (2, .int b), (3, .int b3), (4, .int (nI mr)), (5, .int (nI i))]) hx hb dX3_best_25 hl (by decide) rfl (fun ls hl => ?_)
          refine lv_iload hx hb dX3_best_27 (lv_at hl 0 rfl) ?_
          refine lv_iconst (v := (-1)) hx hb dX3_best_29 (by decide) ?_
          refine lv_icmp_eq (tgt := 47) hx hb dX3_best_30 (by decide) (fun c => absurd c (xx_nm1 (by omega))) (fun _ => ?_)
          refine lv_iload hx hb dX3_best_33 (lv_at hl 0 rfl) ?_
          refine lv_iload hx hb dX3_best_35 (lv_at hl 5 rfl) ?_
          refine lv_icmp_lt (tgt := 47) hx hb dX3_best_37 (by decide) (fun c37 => ?_) (fun c37 => ?_)
          · have c37 : xs_rank (ut i) (ub i) < mr := (nI_ltI (by omega) (by omega)).mp c37
            refine lv_iinc (v := (nI (i + 1))) (lv' := [(5, .int (nI (i + 1))), (6, .int (nI (xs_rank (ut i) (ub i)))), (0, .ref (ou 0)), (1, .int t), (2, .int b), (3, .int b3), (4, .int (nI mr))]) hx hb dX3_best_47 hl (k := 6) rfl (nI_1 i) (by decide) rfl (fun ls hl => ?_)
            refine lv_goto (tgt := 8) hx hb dX3_best_50 (by decide) ?_
            exact ih8 (i + 1) mr b3 (by omega) (by omega) (by omega) (by first | exact xq_skip (O := fun j => (ut j = (-1) ∨ ut j = t) ∧ (ub j = (-1) ∨ ub j = b)) (R := fun j => xs_rank (ut j) (ub j)) h3 hf22 | exact xq_new (O := fun j => (ut j = (-1) ∨ ut j = t) ∧ (ub j = (-1) ∨ ub j = b)) (R := fun j => xs_rank (ut j) (ub j)) h3 hf22 c37 | exact xq_old (O := fun j => (ut j = (-1) ∨ ut j = t) ∧ (ub j = (-1) ∨ ub j = b)) (R := fun j => xs_rank (ut j) (ub j)) h3 hf22 c37) H locs ls hP hD hS (lv_sub hl [2, 3, 4, 5, 6, 0] rfl)
          · have c37 : mr ≤ xs_rank (ut i) (ub i) := Nat.le_of_not_lt (fun h => c37 ((nI_ltI (by omega) (by omega)).mpr h))
            refine lv_iload hx hb dX3_best_40 (lv_at hl 6 rfl) ?_
            refine lv_istore_n (lv' := [(3, .int (nI i)), (6, .int (nI (xs_rank (ut i) (ub i)))), (0, .ref (ou 0)), (1, .int t), (2, .int b), (4, .int (nI mr)), (5, .int (nI i))]) hx hb dX3_best_42 rfl hl (by decide) rfl (fun ls hl => ?_)
            refine lv_iload hx hb dX3_best_43 (lv_at hl 1 rfl) ?_
            refine lv_istore (lv' := [(4, .int (nI (xs_rank (ut i) (ub i)))), (3, .int (nI i)), (6, .int (nI (xs_rank (ut i) (ub i)))), (0, .ref (ou 0)), (1, .int t), (2, .int b), (5, .int (nI i))]) hx hb dX3_best_45 hl (by decide) rfl (fun ls hl => ?_)
            refine lv_iinc (v := (nI (i + 1))) (lv' := [(5, .int (nI (i + 1))), (4, .int (nI (xs_rank (ut i) (ub i)))), (3, .int (nI i)), (6, .int (nI (xs_rank (ut i) (ub i)))), (0, .ref (ou 0)), (1, .int t), (2, .int b)]) hx hb dX3_best_47 hl (k := 6) rfl (nI_1 i) (by decide) rfl (fun ls hl => ?_)
            refine lv_goto (tgt := 8) hx hb dX3_best_50 (by decide) ?_
            exact ih8 (i + 1) (xs_rank (ut i) (ub i)) (nI i) (by omega) (by omega) (by omega) (by first | exact xq_skip (O := fun j => (ut j = (-1) ∨ ut j = t) ∧ (ub j = (-1) ∨ ub j = b)) (R := fun j => xs_rank (ut j) (ub j)) h3 hf22 | exact xq_new (O := fun j => (ut j = (-1) ∨ ut j = t) ∧ (ub j = (-1) ∨ ub j = b)) (R := fun j => xs_rank (ut j) (ub j)) h3 hf22 c37 | exact xq_old (O := fun j => (ut j = (-1) ∨ ut j = t) ∧ (ub j = (-1) ∨ ub j = b)) (R := fun j => xs_rank (ut j) (ub j)) h3 hf22 c37) H locs ls hP hD hS (lv_sub hl [4, 5, 6, 2, 1, 0] rfl)
        · have hP : va_P D vwCl (bU k ou uc ut ub ul uw) H := hP
          have hD : va_D A (bU k ou uc ut ub ul uw) := hD
          refine lv_istore (lv' := [(6, .int (-1)), (0, .ref (ou 0)), (1, .int t), (2, .int b), (3, .int b3), (4, .int (nI mr)), (5, .int (nI i))]) hx hb dX3_best_25 hl (by decide) rfl (fun ls hl => ?_)
          refine lv_iload hx hb dX3_best_27 (lv_at hl 0 rfl) ?_
          refine lv_iconst (v := (-1)) hx hb dX3_best_29 (by decide) ?_
          refine lv_icmp_eq (tgt := 47) hx hb dX3_best_30 (by decide) (fun _ => ?_) (fun c => absurd c (by decide))
          refine lv_iinc (v := (nI (i + 1))) (lv' := [(5, .int (nI (i + 1))), (6, .int (-1)), (0, .ref (ou 0)), (1, .int t), (2, .int b), (3, .int b3), (4, .int (nI mr))]) hx hb dX3_best_47 hl (k := 6) rfl (nI_1 i) (by decide) rfl (fun ls hl => ?_)
          refine lv_goto (tgt := 8) hx hb dX3_best_50 (by decide) ?_
          exact ih8 (i + 1) mr b3 (by omega) (by omega) (by omega) (by first | exact xq_skip (O := fun j => (ut j = (-1) ∨ ut j = t) ∧ (ub j = (-1) ∨ ub j = b)) (R := fun j => xs_rank (ut j) (ub j)) h3 hf22 | exact xq_new (O := fun j => (ut j = (-1) ∨ ut j = t) ∧ (ub j = (-1) ∨ ub j = b)) (R := fun j => xs_rank (ut j) (ub j)) h3 hf22 c37 | exact xq_old (O := fun j => (ut j = (-1) ∨ ut j = t) ∧ (ub j = (-1) ∨ ub j = b)) (R := fun j => xs_rank (ut j) (ub j)) h3 hf22 c37) H locs ls hP hD hS (lv_sub hl [2, 3, 4, 5, 6, 0] rfl)
  exact loop8 (uc + 1) 0 0 (-1) (by omega) (by omega) (by omega) (by exact Or.inl ⟨rfl, rfl, fun j z => absurd z (by omega)⟩) s.heap _ ls hP hD hS (lv_sub hl [3, 4, 5, 2, 1, 0] rfl)
end
section
theorem dX0_add_0 : decode cX0_add 0 = .ok (.aload_n 0, 1) := by decide +kernel
theorem dX0_add_1 : decode cX0_add 1 = .ok (.getfield 15, 3) := by decide +kernel
theorem dX0_add_4 : decode cX0_add 4 = .ok (.sipush 200, 3) := by decide +kernel
theorem dX0_add_7 : decode cX0_add 7 = .ok (.if_icmp .lt 4, 3) := by decide +kernel
theorem dX0_add_10 : decode cX0_add 10 = .ok (.return_, 1) := by decide +kernel
theorem dX0_add_11 : decode cX0_add 11 = .ok (.aload_n 0, 1) := by decide +kernel
theorem dX0_add_12 : decode cX0_add 12 = .ok (.getfield 15, 3) := by decide +kernel
theorem dX0_add_15 : decode cX0_add 15 = .ok (.iconst 5, 1) := by decide +kernel
theorem dX0_add_16 : decode cX0_add 16 = .ok (.imul, 1) := by decide +kernel
theorem dX0_add_17 : decode cX0_add 17 = .ok (.istore 6, 2) := by decide +kernel
theorem dX0_add_19 : decode cX0_add 19 = .ok (.aload_n 0, 1) := by decide +kernel
theorem dX0_add_20 : decode cX0_add 20 = .ok (.getfield 9, 3) := by decide +kernel
theorem dX0_add_23 : decode cX0_add 23 = .ok (.iload 6, 2) := by decide +kernel
theorem dX0_add_25 : decode cX0_add 25 = .ok (.iload_n 1, 1) := by decide +kernel
theorem dX0_add_26 : decode cX0_add 26 = .ok (.iastore, 1) := by decide +kernel
theorem dX0_add_27 : decode cX0_add 27 = .ok (.aload_n 0, 1) := by decide +kernel
theorem dX0_add_28 : decode cX0_add 28 = .ok (.getfield 9, 3) := by decide +kernel
theorem dX0_add_31 : decode cX0_add 31 = .ok (.iload 6, 2) := by decide +kernel
theorem dX0_add_33 : decode cX0_add 33 = .ok (.iconst 1, 1) := by decide +kernel
theorem dX0_add_34 : decode cX0_add 34 = .ok (.iadd, 1) := by decide +kernel
theorem dX0_add_35 : decode cX0_add 35 = .ok (.iload_n 2, 1) := by decide +kernel
theorem dX0_add_36 : decode cX0_add 36 = .ok (.iastore, 1) := by decide +kernel
theorem dX0_add_37 : decode cX0_add 37 = .ok (.aload_n 0, 1) := by decide +kernel
theorem dX0_add_38 : decode cX0_add 38 = .ok (.getfield 9, 3) := by decide +kernel
theorem dX0_add_41 : decode cX0_add 41 = .ok (.iload 6, 2) := by decide +kernel
theorem dX0_add_43 : decode cX0_add 43 = .ok (.iconst 2, 1) := by decide +kernel
theorem dX0_add_44 : decode cX0_add 44 = .ok (.iadd, 1) := by decide +kernel
theorem dX0_add_45 : decode cX0_add 45 = .ok (.iload_n 3, 1) := by decide +kernel
theorem dX0_add_46 : decode cX0_add 46 = .ok (.iastore, 1) := by decide +kernel
theorem dX0_add_47 : decode cX0_add 47 = .ok (.aload_n 0, 1) := by decide +kernel
theorem dX0_add_48 : decode cX0_add 48 = .ok (.getfield 9, 3) := by decide +kernel
theorem dX0_add_51 : decode cX0_add 51 = .ok (.iload 6, 2) := by decide +kernel
theorem dX0_add_53 : decode cX0_add 53 = .ok (.iconst 3, 1) := by decide +kernel
theorem dX0_add_54 : decode cX0_add 54 = .ok (.iadd, 1) := by decide +kernel
theorem dX0_add_55 : decode cX0_add 55 = .ok (.iload 4, 2) := by decide +kernel
theorem dX0_add_57 : decode cX0_add 57 = .ok (.iastore, 1) := by decide +kernel
theorem dX0_add_58 : decode cX0_add 58 = .ok (.aload_n 0, 1) := by decide +kernel
theorem dX0_add_59 : decode cX0_add 59 = .ok (.getfield 9, 3) := by decide +kernel
theorem dX0_add_62 : decode cX0_add 62 = .ok (.iload 6, 2) := by decide +kernel
theorem dX0_add_64 : decode cX0_add 64 = .ok (.iconst 4, 1) := by decide +kernel
theorem dX0_add_65 : decode cX0_add 65 = .ok (.iadd, 1) := by decide +kernel
theorem dX0_add_66 : decode cX0_add 66 = .ok (.iload 5, 2) := by decide +kernel
theorem dX0_add_68 : decode cX0_add 68 = .ok (.iastore, 1) := by decide +kernel
theorem dX0_add_69 : decode cX0_add 69 = .ok (.aload_n 0, 1) := by decide +kernel
theorem dX0_add_70 : decode cX0_add 70 = .ok (.dup, 1) := by decide +kernel
theorem dX0_add_71 : decode cX0_add 71 = .ok (.getfield 15, 3) := by decide +kernel
theorem dX0_add_74 : decode cX0_add 74 = .ok (.iconst 1, 1) := by decide +kernel
theorem dX0_add_75 : decode cX0_add 75 = .ok (.iadd, 1) := by decide +kernel
theorem dX0_add_76 : decode cX0_add 76 = .ok (.putfield 15, 3) := by decide +kernel
theorem dX0_add_79 : decode cX0_add 79 = .ok (.return_, 1) := by decide +kernel
theorem dX0_valueAt_0 : decode cX0_valueAt 0 = .ok (.iload_n 1, 1) := by decide +kernel
theorem dX0_valueAt_1 : decode cX0_valueAt 1 = .ok (.ifCond .lt 20, 3) := by decide +kernel
theorem dX0_valueAt_4 : decode cX0_valueAt 4 = .ok (.iload_n 1, 1) := by decide +kernel
theorem dX0_valueAt_5 : decode cX0_valueAt 5 = .ok (.aload_n 0, 1) := by decide +kernel
theorem dX0_valueAt_6 : decode cX0_valueAt 6 = .ok (.getfield 15, 3) := by decide +kernel
theorem dX0_valueAt_9 : decode cX0_valueAt 9 = .ok (.if_icmp .ge 12, 3) := by decide +kernel
theorem dX0_valueAt_12 : decode cX0_valueAt 12 = .ok (.iload_n 2, 1) := by decide +kernel
theorem dX0_valueAt_13 : decode cX0_valueAt 13 = .ok (.ifCond .lt 8, 3) := by decide +kernel
theorem dX0_valueAt_16 : decode cX0_valueAt 16 = .ok (.iload_n 2, 1) := by decide +kernel
theorem dX0_valueAt_17 : decode cX0_valueAt 17 = .ok (.iconst 5, 1) := by decide +kernel
theorem dX0_valueAt_18 : decode cX0_valueAt 18 = .ok (.if_icmp .lt 5, 3) := by decide +kernel
theorem dX0_valueAt_21 : decode cX0_valueAt 21 = .ok (.iconst (-1), 1) := by decide +kernel
theorem dX0_valueAt_22 : decode cX0_valueAt 22 = .ok (.ireturn, 1) := by decide +kernel
theorem dX0_valueAt_23 : decode cX0_valueAt 23 = .ok (.aload_n 0, 1) := by decide +kernel
theorem dX0_valueAt_24 : decode cX0_valueAt 24 = .ok (.getfield 9, 3) := by decide +kernel
theorem dX0_valueAt_27 : decode cX0_valueAt 27 = .ok (.iload_n 1, 1) := by decide +kernel
theorem dX0_valueAt_28 : decode cX0_valueAt 28 = .ok (.iconst 5, 1) := by decide +kernel
theorem dX0_valueAt_29 : decode cX0_valueAt 29 = .ok (.imul, 1) := by decide +kernel
theorem dX0_valueAt_30 : decode cX0_valueAt 30 = .ok (.iload_n 2, 1) := by decide +kernel
theorem dX0_valueAt_31 : decode cX0_valueAt 31 = .ok (.iadd, 1) := by decide +kernel
theorem dX0_valueAt_32 : decode cX0_valueAt 32 = .ok (.iaload, 1) := by decide +kernel
theorem dX0_valueAt_33 : decode cX0_valueAt 33 = .ok (.ireturn, 1) := by decide +kernel
def p_A_add (oa : Nat → Nat) (ac : Nat) (as : Nat → Int32) (x0 : Int32) (x1 : Int32) (x2 : Int32) (x3 : Int32) (x4 : Int32) : (Nat × (Nat → Int32)) → Prop := fun u => (200 ≤ ac ∧ u = (ac, as)) ∨ (ac < 200 ∧ u = (ac + 1, upd (upd (upd (upd (upd as (ac * 5) x0) (ac * 5 + 1) x1) (ac * 5 + 2) x2) (ac * 5 + 3) x3) (ac * 5 + 4) x4))
set_option maxHeartbeats 4000000 in
set_option maxRecDepth 100000 in
theorem c_A_add (l : Launch) (D : va_G) (k : Nat → ClassId) (oa : Nat → Nat) (ac : Nat) (as : Nat → Int32) (x0 : Int32) (x1 : Int32) (x2 : Int32) (x3 : Int32) (x4 : Int32) (hac : ac ≤ 200) : xx_Cv l yX0_add (.code yX0_add cX0_add 7 none :: xall) ({ frames := 0, cells := 0, slots := 0, locals := 0 } : Room) D vwCl (xT k) [.ref (oa 0), .int x0, .int x1, .int x2, .int x3, .int x4] (bA k oa ac as) (p_A_add oa ac as x0 x1 x2 x3 x4) (fun (u : Nat × (Nat → Int32)) => bA k oa u.1 u.2) 0 0 := by
  intro sz
  refine xx_met (Qf := fun A => va_Qv (p_A_add oa ac as x0 x1 x2 x3 x4) (xx_B D vwCl (xT k) A (fun (u : Nat × (Nat → Int32)) => bA k oa u.1 u.2)) A) (cc := cX0_add) (maxL := 7) (ret := none) (by decide) rfl (Nat.le_of_ble_eq_true rfl) ?_
  intro p e s m below meth c A ls hx hb hr hts hown hlocks hin hml hA hS hP hD hK hN hl
  have hl : lv_has ls 7 [(0, .ref (oa 0)), (1, .int x0), (2, .int x1), (3, .int x2), (4, .int x3), (5, .int x4)] := hl
  have hown : s.vm.findClass RX0 = some m.cls := hown
  have hinW := inX0
  refine lv_aload_n hx hb dX0_add_0 rfl (lv_at hl 0 rfl) ?_
  refine va_get (D := D) (ci := 0) (v := .int (nI ac)) (C := RX0) (T := TX0) (N := 2) hx hb hts hinW hown hK hP 0 rfl rfl 1 (by decide) (hts _ tw_131) (fun _ h9 => h9) rfl dX0_add_1 ?_
  refine lv_sipush (v := (nI 200)) hx hb dX0_add_4 (by decide) ?_
  refine lv_icmp_lt (tgt := 11) hx hb dX0_add_7 (by decide) (fun c7 => ?_) (fun c7 => ?_)
  · have c7 : ac < 200 := (nI_ltI (by omega) (by omega)).mp c7
    refine lv_aload_n hx hb dX0_add_11 rfl (lv_at hl 0 rfl) ?_
    refine va_get (D := D) (ci := 0) (v := .int (nI ac)) (C := RX0) (T := TX0) (N := 2) hx hb hts hinW hown hK hP 0 rfl rfl 1 (by decide) (hts _ tw_131) (fun _ h9 => h9) rfl dX0_add_12 ?_
    refine lv_iconst (v := (nI 5)) hx hb dX0_add_15 (by decide) ?_
    refine lv_imul hx hb dX0_add_16 ?_
    refine xx_topi (pk_mul ac 5) ?_
    refine lv_istore (lv' := [(6, .int (nI (ac * 5))), (0, .ref (oa 0)), (1, .int x0), (2, .int x1), (3, .int x2), (4, .int x3), (5, .int x4)]) hx hb dX0_add_17 hl (by decide) rfl (fun ls hl => ?_)
    refine lv_aload_n hx hb dX0_add_19 rfl (lv_at hl 1 rfl) ?_
    refine va_get (D := D) (ci := 0) (v := .ref (oa 1)) (C := RX0) (T := TX0) (N := 2) hx hb hts hinW hown hK hP 0 rfl rfl 0 (by decide) (hts _ tw_130) (fun _ h9 => h9) rfl dX0_add_20 ?_
    refine lv_iload hx hb dX0_add_23 (lv_at hl 0 rfl) ?_
    refine lv_iload_n hx hb dX0_add_25 rfl (lv_at hl 2 rfl) ?_
    refine xx_iast (g := (upd as (ac * 5) x0)) hx hb hK hP hD hS 1 0 rfl rfl (show ac * 5 < 1000 by omega) (by decide) rfl dX0_add_26 (fun H locs hP hD hS => ?_)
    have hP : va_P D vwCl (bA k oa ac (upd as (ac * 5) x0)) H := hP
    have hD : va_D A (bA k oa ac (upd as (ac * 5) x0)) := hD
    refine lv_aload_n hx hb dX0_add_27 rfl (lv_at hl 1 rfl) ?_
    refine va_get (D := D) (ci := 0) (v := .ref (oa 1)) (C := RX0) (T := TX0) (N := 2) hx hb hts hinW hown hK hP 0 rfl rfl 0 (by decide) (hts _ tw_130) (fun _ h9 => h9) rfl dX0_add_28 ?_
    refine lv_iload hx hb dX0_add_31 (lv_at hl 0 rfl) ?_
    refine lv_iconst (v := (nI 1)) hx hb dX0_add_33 (by decide) ?_
    refine lv_iadd hx hb dX0_add_34 ?_
    refine xx_topi (nI_add (ac * 5) 1) ?_
    refine lv_iload_n hx hb dX0_add_35 rfl (lv_at hl 3 rfl) ?_
    refine xx_iast (g := (upd (upd as (ac * 5) x0) ((ac * 5) + 1) x1)) hx hb hK hP hD hS 1 0 rfl rfl (show (ac * 5) + 1 < 1000 by omega) (by decide) rfl dX0_add_36 (fun H locs hP hD hS => ?_)
    have hP : va_P D vwCl (bA k oa ac (upd (upd as (ac * 5) x0) ((ac * 5) + 1) x1)) H := hP
    have hD : va_D A (bA k oa ac (upd (upd as (ac * 5) x0) ((ac * 5) + 1) x1)) := hD
    refine lv_aload_n hx hb dX0_add_37 rfl (lv_at hl 1 rfl) ?_
    refine va_get (D := D) (ci := 0) (v := .ref (oa 1)) (C := RX0) (T := TX0) (N := 2) hx hb hts hinW hown hK hP 0 rfl rfl 0 (by decide) (hts _ tw_130) (fun _ h9 => h9) rfl dX0_add_38 ?_
    refine lv_iload hx hb dX0_add_41 (lv_at hl 0 rfl) ?_
    refine lv_iconst (v := (nI 2)) hx hb dX0_add_43 (by decide) ?_
    refine lv_iadd hx hb dX0_add_44 ?_
    refine xx_topi (nI_add (ac * 5) 2) ?_
    refine lv_iload_n hx hb dX0_add_45 rfl (lv_at hl 4 rfl) ?_
    refine xx_iast (g := (upd (upd (upd as (ac * 5) x0) ((ac * 5) + 1) x1) ((ac * 5) + 2) x2)) hx hb hK hP hD hS 1 0 rfl rfl (show (ac * 5) + 2 < 1000 by omega) (by decide) rfl dX0_add_46 (fun H locs hP hD hS => ?_)
    have hP : va_P D vwCl (bA k oa ac (upd (upd (upd as (ac * 5) x0) ((ac * 5) + 1) x1) ((ac * 5) + 2) x2)) H := hP
    have hD : va_D A (bA k oa ac (upd (upd (upd as (ac * 5) x0) ((ac * 5) + 1) x1) ((ac * 5) + 2) x2)) := hD
    refine lv_aload_n hx hb dX0_add_47 rfl (lv_at hl 1 rfl) ?_
    refine va_get (D := D) (ci := 0) (v := .ref (oa 1)) (C := RX0) (T := TX0) (N := 2) hx hb hts hinW hown hK hP 0 rfl rfl 0 (by decide) (hts _ tw_130) (fun _ h9 => h9) rfl dX0_add_48 ?_
    refine lv_iload hx hb dX0_add_51 (lv_at hl 0 rfl) ?_
    refine lv_iconst (v := (nI 3)) hx hb dX0_add_53 (by decide) ?_
    refine lv_iadd hx hb dX0_add_54 ?_
    refine xx_topi (nI_add (ac * 5) 3) ?_
    refine lv_iload hx hb dX0_add_55 (lv_at hl 5 rfl) ?_
    refine xx_iast (g := (upd (upd (upd (upd as (ac * 5) x0) ((ac * 5) + 1) x1) ((ac * 5) + 2) x2) ((ac * 5) + 3) x3)) hx hb hK hP hD hS 1 0 rfl rfl (show (ac * 5) + 3 < 1000 by omega) (by decide) rfl dX0_add_57 (fun H locs hP hD hS => ?_)
    have hP : va_P D vwCl (bA k oa ac (upd (upd (upd (upd as (ac * 5) x0) ((ac * 5) + 1) x1) ((ac * 5) + 2) x2) ((ac * 5) + 3) x3)) H := hP
    have hD : va_D A (bA k oa ac (upd (upd (upd (upd as (ac * 5) x0) ((ac * 5) + 1) x1) ((ac * 5) + 2) x2) ((ac * 5) + 3) x3)) := hD
    refine lv_aload_n hx hb dX0_add_58 rfl (lv_at hl 1 rfl) ?_
    refine va_get (D := D) (ci := 0) (v := .ref (oa 1)) (C := RX0) (T := TX0) (N := 2) hx hb hts hinW hown hK hP 0 rfl rfl 0 (by decide) (hts _ tw_130) (fun _ h9 => h9) rfl dX0_add_59 ?_
    refine lv_iload hx hb dX0_add_62 (lv_at hl 0 rfl) ?_
    refine lv_iconst (v := (nI 4)) hx hb dX0_add_64 (by decide) ?_
    refine lv_iadd hx hb dX0_add_65 ?_
    refine xx_topi (nI_add (ac * 5) 4) ?_
    refine lv_iload hx hb dX0_add_66 (lv_at hl 6 rfl) ?_
    refine xx_iast (g := (upd (upd (upd (upd (upd as (ac * 5) x0) ((ac * 5) + 1) x1) ((ac * 5) + 2) x2) ((ac * 5) + 3) x3) ((ac * 5) + 4) x4)) hx hb hK hP hD hS 1 0 rfl rfl (show (ac * 5) + 4 < 1000 by omega) (by decide) rfl dX0_add_68 (fun H locs hP hD hS => ?_)
    have hP : va_P D vwCl (bA k oa ac (upd (upd (upd (upd (upd as (ac * 5) x0) ((ac * 5) + 1) x1) ((ac * 5) + 2) x2) ((ac * 5) + 3) x3) ((ac * 5) + 4) x4)) H := hP
    have hD : va_D A (bA k oa ac (upd (upd (upd (upd (upd as (ac * 5) x0) ((ac * 5) + 1) x1) ((ac * 5) + 2) x2) ((ac * 5) + 3) x3) ((ac * 5) + 4) x4)) := hD
    refine lv_aload_n hx hb dX0_add_69 rfl (lv_at hl 1 rfl) ?_
    refine lv_dup hx hb dX0_add_70 rfl ?_
    refine va_get (D := D) (ci := 0) (v := .int (nI ac)) (C := RX0) (T := TX0) (N := 2) hx hb hts hinW hown hK hP 0 rfl rfl 1 (by decide) (hts _ tw_131) (fun _ h9 => h9) rfl dX0_add_71 ?_
    refine lv_iconst (v := (nI 1)) hx hb dX0_add_74 (by decide) ?_
    refine lv_iadd hx hb dX0_add_75 ?_
    refine xx_topi (nI_add ac 1) ?_
    refine va_put (D := D) (ci := 0) (v := .int (nI (ac + 1))) (ty := .int) (C := RX0) (T := TX0) (N := 2) hx hb hts hinW tyX0 tyX0_ok nmX0 hown hK hP hD hS 0 rfl rfl 1 (by decide) (hts _ tw_131) (fun _ h9 => h9) rfl (by decide +kernel) rfl rfl (Nat.le_of_ble_eq_true rfl) dX0_add_76 (fun H locs hP hD hS => ?_)
    have hP : va_P D vwCl (bA k oa (ac + 1) (upd (upd (upd (upd (upd as (ac * 5) x0) ((ac * 5) + 1) x1) ((ac * 5) + 2) x2) ((ac * 5) + 3) x3) ((ac * 5) + 4) x4)) H := hP
    have hD : va_D A (bA k oa (ac + 1) (upd (upd (upd (upd (upd as (ac * 5) x0) ((ac * 5) + 1) x1) ((ac * 5) + 2) x2) ((ac * 5) + 3) x3) ((ac * 5) + 4) x4)) := hD
    refine xx_vret (ac + 1, (upd (upd (upd (upd (upd as (ac * 5) x0) ((ac * 5) + 1) x1) ((ac * 5) + 2) x2) ((ac * 5) + 3) x3) ((ac * 5) + 4) x4)) hx hb hr hlocks hS hK hP hD dX0_add_79 ?_
    exact Or.inr ⟨c7, rfl⟩
  · have c7 : 200 ≤ ac := Nat.le_of_not_lt (fun h => c7 ((nI_ltI (by omega) (by omega)).mpr h))
    refine xx_vret (ac, as) hx hb hr hlocks hS hK hP hD dX0_add_10 ?_
    exact Or.inl ⟨c7, rfl⟩
def p_A_at (oa : Nat → Nat) (ac : Nat) (as : Nat → Int32) (x : Int32) (y : Int32) : Int32 → Unit → Prop := fun r u => (r = (-1) ∧ ¬ (ixN ac x ∧ ixN 5 y)) ∨ (∃ j i, j < ac ∧ i < 5 ∧ x = nI j ∧ y = nI i ∧ r = as (j * 5 + i))
set_option maxHeartbeats 4000000 in
set_option maxRecDepth 100000 in
theorem c_A_at (l : Launch) (D : va_G) (k : Nat → ClassId) (oa : Nat → Nat) (ac : Nat) (as : Nat → Int32) (x : Int32) (y : Int32) (hac : ac ≤ 200) : xx_Ci l yX0_valueAt (.code yX0_valueAt cX0_valueAt 3 (some .int) :: xall) ({ frames := 0, cells := 0, slots := 0, locals := 0 } : Room) D vwCl (xT k) [.ref (oa 0), .int x, .int y] (bA k oa ac as) (p_A_at oa ac as x y) (fun (u : Unit) => bA k oa ac as) 0 0 := by
  intro sz
  refine xx_met (Qf := fun A => va_Qi (p_A_at oa ac as x y) (xx_B D vwCl (xT k) A (fun (u : Unit) => bA k oa ac as)) A) (cc := cX0_valueAt) (maxL := 3) (ret := (some .int)) (by decide) rfl (Nat.le_of_ble_eq_true rfl) ?_
  intro p e s m below meth c A ls hx hb hr hts hown hlocks hin hml hA hS hP hD hK hN hl
  have hl : lv_has ls 3 [(0, .ref (oa 0)), (1, .int x), (2, .int y)] := hl
  have hown : s.vm.findClass RX0 = some m.cls := hown
  have hinW := inX0
  refine lv_iload_n hx hb dX0_valueAt_0 rfl (lv_at hl 1 rfl) ?_
  refine lv_if_lt (tgt := 21) hx hb dX0_valueAt_1 (by decide) (fun c1 => ?_) (fun c1 => ?_)
  · refine lv_iconst (v := (-1)) hx hb dX0_valueAt_21 (by decide) ?_
    refine xx_iret () hx hb hr hlocks hS hK hP hD dX0_valueAt_22 ?_
    first | exact Or.inl ⟨rfl, fun h => xx_nix (by omega) (Or.inl c1) h.1⟩ | exact Or.inl ⟨rfl, fun h => xx_nix (by decide) (Or.inl c13) h.2⟩ | exact Or.inl ⟨rfl, fun h => xx_nix (by decide) (Or.inr (xx_nle c18)) h.2⟩ | exact Or.inl ⟨rfl, fun h => xx_nix (by omega) (Or.inr c9) h.1⟩
  · refine lv_iload_n hx hb dX0_valueAt_4 rfl (lv_at hl 1 rfl) ?_
    refine lv_aload_n hx hb dX0_valueAt_5 rfl (lv_at hl 0 rfl) ?_
    refine va_get (D := D) (ci := 0) (v := .int (nI ac)) (C := RX0) (T := TX0) (N := 2) hx hb hts hinW hown hK hP 0 rfl rfl 1 (by decide) (hts _ tw_131) (fun _ h9 => h9) rfl dX0_valueAt_6 ?_
    refine lv_icmp_ge (tgt := 21) hx hb dX0_valueAt_9 (by decide) (fun c9 => ?_) (fun c9 => ?_)
    · refine lv_iconst (v := (-1)) hx hb dX0_valueAt_21 (by decide) ?_
      refine xx_iret () hx hb hr hlocks hS hK hP hD dX0_valueAt_22 ?_
      first | exact Or.inl ⟨rfl, fun h => xx_nix (by omega) (Or.inl c1) h.1⟩ | exact Or.inl ⟨rfl, fun h => xx_nix (by decide) (Or.inl c13) h.2⟩ | exact Or.inl ⟨rfl, fun h => xx_nix (by decide) (Or.inr (xx_nle c18)) h.2⟩ | exact Or.inl ⟨rfl, fun h => xx_nix (by omega) (Or.inr c9) h.1⟩
    · refine lv_iload_n hx hb dX0_valueAt_12 rfl (lv_at hl 2 rfl) ?_
      refine lv_if_lt (tgt := 21) hx hb dX0_valueAt_13 (by decide) (fun c13 => ?_) (fun c13 => ?_)
      · refine lv_iconst (v := (-1)) hx hb dX0_valueAt_21 (by decide) ?_
        refine xx_iret () hx hb hr hlocks hS hK hP hD dX0_valueAt_22 ?_
        first | exact Or.inl ⟨rfl, fun h => xx_nix (by omega) (Or.inl c1) h.1⟩ | exact Or.inl ⟨rfl, fun h => xx_nix (by decide) (Or.inl c13) h.2⟩ | exact Or.inl ⟨rfl, fun h => xx_nix (by decide) (Or.inr (xx_nle c18)) h.2⟩ | exact Or.inl ⟨rfl, fun h => xx_nix (by omega) (Or.inr c9) h.1⟩
      · refine lv_iload_n hx hb dX0_valueAt_16 rfl (lv_at hl 2 rfl) ?_
        refine lv_iconst (v := (nI 5)) hx hb dX0_valueAt_17 (by decide) ?_
        refine lv_icmp_lt (tgt := 23) hx hb dX0_valueAt_18 (by decide) (fun c18 => ?_) (fun c18 => ?_)
        · obtain ⟨j, hj, hxj⟩ := xx_ix (n := ac) (by omega) c1 c9
          subst hxj
          obtain ⟨i, hi, hxi⟩ := xx_ix2 (n := 5) (by decide) c13 c18
          subst hxi
          refine lv_aload_n hx hb dX0_valueAt_23 rfl (lv_at hl 0 rfl) ?_
          refine va_get (D := D) (ci := 0) (v := .ref (oa 1)) (C := RX0) (T := TX0) (N := 2) hx hb hts hinW hown hK hP 0 rfl rfl 0 (by decide) (hts _ tw_130) (fun _ h9 => h9) rfl dX0_valueAt_24 ?_
          refine lv_iload_n hx hb dX0_valueAt_27 rfl (lv_at hl 1 rfl) ?_
          refine lv_iconst (v := (nI 5)) hx hb dX0_valueAt_28 (by decide) ?_
          refine lv_imul hx hb dX0_valueAt_29 ?_
          refine xx_topi (pk_mul j 5) ?_
          refine lv_iload_n hx hb dX0_valueAt_30 rfl (lv_at hl 2 rfl) ?_
          refine lv_iadd hx hb dX0_valueAt_31 ?_
          refine xx_topi (nI_add (j * 5) i) ?_
          refine xx_iald hx hb hK hP 1 0 rfl rfl (show (j * 5) + i < 1000 by omega) (by decide) dX0_valueAt_32 ?_
          refine xx_iret () hx hb hr hlocks hS hK hP hD dX0_valueAt_33 ?_
          exact Or.inr ⟨j, i, hj, hi, rfl, rfl, rfl⟩
        · refine lv_iconst (v := (-1)) hx hb dX0_valueAt_21 (by decide) ?_
          refine xx_iret () hx hb hr hlocks hS hK hP hD dX0_valueAt_22 ?_
          first | exact Or.inl ⟨rfl, fun h => xx_nix (by omega) (Or.inl c1) h.1⟩ | exact Or.inl ⟨rfl, fun h => xx_nix (by decide) (Or.inl c13) h.2⟩ | exact Or.inl ⟨rfl, fun h => xx_nix (by decide) (Or.inr (xx_nle c18)) h.2⟩ | exact Or.inl ⟨rfl, fun h => xx_nix (by omega) (Or.inr c9) h.1⟩
end
section
theorem dX4_init_0 : decode cX4_init 0 = .ok (.aload_n 0, 1) := by decide +kernel
theorem dX4_init_1 : decode cX4_init 1 = .ok (.invokespecial 3, 3) := by decide +kernel
theorem dX4_init_4 : decode cX4_init 4 = .ok (.aload_n 0, 1) := by decide +kernel
theorem dX4_init_5 : decode cX4_init 5 = .ok (.bipush 12, 2) := by decide +kernel
theorem dX4_init_7 : decode cX4_init 7 = .ok (.newarray .int, 2) := by decide +kernel
theorem dX4_init_9 : decode cX4_init 9 = .ok (.putfield 9, 3) := by decide +kernel
theorem dX4_init_12 : decode cX4_init 12 = .ok (.aload_n 0, 1) := by decide +kernel
theorem dX4_init_13 : decode cX4_init 13 = .ok (.bipush 12, 2) := by decide +kernel
theorem dX4_init_15 : decode cX4_init 15 = .ok (.newarray .boolean, 2) := by decide +kernel
theorem dX4_init_17 : decode cX4_init 17 = .ok (.putfield 15, 3) := by decide +kernel
theorem dX4_init_20 : decode cX4_init 20 = .ok (.aload_n 0, 1) := by decide +kernel
theorem dX4_init_21 : decode cX4_init 21 = .ok (.bipush 12, 2) := by decide +kernel
theorem dX4_init_23 : decode cX4_init 23 = .ok (.newarray .int, 2) := by decide +kernel
theorem dX4_init_25 : decode cX4_init 25 = .ok (.putfield 19, 3) := by decide +kernel
theorem dX4_init_28 : decode cX4_init 28 = .ok (.aload_n 0, 1) := by decide +kernel
theorem dX4_init_29 : decode cX4_init 29 = .ok (.bipush 48, 2) := by decide +kernel
theorem dX4_init_31 : decode cX4_init 31 = .ok (.newarray .long, 2) := by decide +kernel
theorem dX4_init_33 : decode cX4_init 33 = .ok (.putfield 22, 3) := by decide +kernel
theorem dX4_init_36 : decode cX4_init 36 = .ok (.aload_n 0, 1) := by decide +kernel
theorem dX4_init_37 : decode cX4_init 37 = .ok (.bipush 48, 2) := by decide +kernel
theorem dX4_init_39 : decode cX4_init 39 = .ok (.newarray .long, 2) := by decide +kernel
theorem dX4_init_41 : decode cX4_init 41 = .ok (.putfield 26, 3) := by decide +kernel
theorem dX4_init_44 : decode cX4_init 44 = .ok (.aload_n 0, 1) := by decide +kernel
theorem dX4_init_45 : decode cX4_init 45 = .ok (.bipush 48, 2) := by decide +kernel
theorem dX4_init_47 : decode cX4_init 47 = .ok (.newarray .long, 2) := by decide +kernel
theorem dX4_init_49 : decode cX4_init 49 = .ok (.putfield 29, 3) := by decide +kernel
theorem dX4_init_52 : decode cX4_init 52 = .ok (.aload_n 0, 1) := by decide +kernel
theorem dX4_init_53 : decode cX4_init 53 = .ok (.iconst 0, 1) := by decide +kernel
theorem dX4_init_54 : decode cX4_init 54 = .ok (.putfield 32, 3) := by decide +kernel
theorem dX4_init_57 : decode cX4_init 57 = .ok (.return_, 1) := by decide +kernel
theorem dX2_init_0 : decode cX2_init 0 = .ok (.aload_n 0, 1) := by decide +kernel
theorem dX2_init_1 : decode cX2_init 1 = .ok (.invokespecial 3, 3) := by decide +kernel
theorem dX2_init_4 : decode cX2_init 4 = .ok (.aload_n 0, 1) := by decide +kernel
theorem dX2_init_5 : decode cX2_init 5 = .ok (.bipush 100, 2) := by decide +kernel
theorem dX2_init_7 : decode cX2_init 7 = .ok (.newarray .int, 2) := by decide +kernel
theorem dX2_init_9 : decode cX2_init 9 = .ok (.putfield 9, 3) := by decide +kernel
theorem dX2_init_12 : decode cX2_init 12 = .ok (.aload_n 0, 1) := by decide +kernel
theorem dX2_init_13 : decode cX2_init 13 = .ok (.bipush 100, 2) := by decide +kernel
theorem dX2_init_15 : decode cX2_init 15 = .ok (.newarray .int, 2) := by decide +kernel
theorem dX2_init_17 : decode cX2_init 17 = .ok (.putfield 15, 3) := by decide +kernel
theorem dX2_init_20 : decode cX2_init 20 = .ok (.aload_n 0, 1) := by decide +kernel
theorem dX2_init_21 : decode cX2_init 21 = .ok (.bipush 100, 2) := by decide +kernel
theorem dX2_init_23 : decode cX2_init 23 = .ok (.newarray .long, 2) := by decide +kernel
theorem dX2_init_25 : decode cX2_init 25 = .ok (.putfield 18, 3) := by decide +kernel
theorem dX2_init_28 : decode cX2_init 28 = .ok (.aload_n 0, 1) := by decide +kernel
theorem dX2_init_29 : decode cX2_init 29 = .ok (.bipush 100, 2) := by decide +kernel
theorem dX2_init_31 : decode cX2_init 31 = .ok (.newarray .long, 2) := by decide +kernel
theorem dX2_init_33 : decode cX2_init 33 = .ok (.putfield 22, 3) := by decide +kernel
theorem dX2_init_36 : decode cX2_init 36 = .ok (.aload_n 0, 1) := by decide +kernel
theorem dX2_init_37 : decode cX2_init 37 = .ok (.bipush 100, 2) := by decide +kernel
theorem dX2_init_39 : decode cX2_init 39 = .ok (.newarray .long, 2) := by decide +kernel
theorem dX2_init_41 : decode cX2_init 41 = .ok (.putfield 25, 3) := by decide +kernel
theorem dX2_init_44 : decode cX2_init 44 = .ok (.aload_n 0, 1) := by decide +kernel
theorem dX2_init_45 : decode cX2_init 45 = .ok (.bipush 100, 2) := by decide +kernel
theorem dX2_init_47 : decode cX2_init 47 = .ok (.newarray .boolean, 2) := by decide +kernel
theorem dX2_init_49 : decode cX2_init 49 = .ok (.putfield 28, 3) := by decide +kernel
theorem dX2_init_52 : decode cX2_init 52 = .ok (.aload_n 0, 1) := by decide +kernel
theorem dX2_init_53 : decode cX2_init 53 = .ok (.iconst 0, 1) := by decide +kernel
theorem dX2_init_54 : decode cX2_init 54 = .ok (.putfield 32, 3) := by decide +kernel
theorem dX2_init_57 : decode cX2_init 57 = .ok (.return_, 1) := by decide +kernel
theorem dX1_init_0 : decode cX1_init 0 = .ok (.aload_n 0, 1) := by decide +kernel
theorem dX1_init_1 : decode cX1_init 1 = .ok (.invokespecial 3, 3) := by decide +kernel
theorem dX1_init_4 : decode cX1_init 4 = .ok (.aload_n 0, 1) := by decide +kernel
theorem dX1_init_5 : decode cX1_init 5 = .ok (.bipush 50, 2) := by decide +kernel
theorem dX1_init_7 : decode cX1_init 7 = .ok (.newarray .long, 2) := by decide +kernel
theorem dX1_init_9 : decode cX1_init 9 = .ok (.putfield 9, 3) := by decide +kernel
theorem dX1_init_12 : decode cX1_init 12 = .ok (.aload_n 0, 1) := by decide +kernel
theorem dX1_init_13 : decode cX1_init 13 = .ok (.bipush 50, 2) := by decide +kernel
theorem dX1_init_15 : decode cX1_init 15 = .ok (.newarray .int, 2) := by decide +kernel
theorem dX1_init_17 : decode cX1_init 17 = .ok (.putfield 15, 3) := by decide +kernel
theorem dX1_init_20 : decode cX1_init 20 = .ok (.aload_n 0, 1) := by decide +kernel
theorem dX1_init_21 : decode cX1_init 21 = .ok (.bipush 50, 2) := by decide +kernel
theorem dX1_init_23 : decode cX1_init 23 = .ok (.newarray .int, 2) := by decide +kernel
theorem dX1_init_25 : decode cX1_init 25 = .ok (.putfield 19, 3) := by decide +kernel
theorem dX1_init_28 : decode cX1_init 28 = .ok (.aload_n 0, 1) := by decide +kernel
theorem dX1_init_29 : decode cX1_init 29 = .ok (.iconst 0, 1) := by decide +kernel
theorem dX1_init_30 : decode cX1_init 30 = .ok (.putfield 22, 3) := by decide +kernel
theorem dX1_init_33 : decode cX1_init 33 = .ok (.return_, 1) := by decide +kernel
theorem dX3_init_0 : decode cX3_init 0 = .ok (.aload_n 0, 1) := by decide +kernel
theorem dX3_init_1 : decode cX3_init 1 = .ok (.invokespecial 3, 3) := by decide +kernel
theorem dX3_init_4 : decode cX3_init 4 = .ok (.aload_n 0, 1) := by decide +kernel
theorem dX3_init_5 : decode cX3_init 5 = .ok (.bipush 20, 2) := by decide +kernel
theorem dX3_init_7 : decode cX3_init 7 = .ok (.newarray .int, 2) := by decide +kernel
theorem dX3_init_9 : decode cX3_init 9 = .ok (.putfield 9, 3) := by decide +kernel
theorem dX3_init_12 : decode cX3_init 12 = .ok (.aload_n 0, 1) := by decide +kernel
theorem dX3_init_13 : decode cX3_init 13 = .ok (.bipush 20, 2) := by decide +kernel
theorem dX3_init_15 : decode cX3_init 15 = .ok (.newarray .int, 2) := by decide +kernel
theorem dX3_init_17 : decode cX3_init 17 = .ok (.putfield 15, 3) := by decide +kernel
theorem dX3_init_20 : decode cX3_init 20 = .ok (.aload_n 0, 1) := by decide +kernel
theorem dX3_init_21 : decode cX3_init 21 = .ok (.bipush 20, 2) := by decide +kernel
theorem dX3_init_23 : decode cX3_init 23 = .ok (.newarray .int, 2) := by decide +kernel
theorem dX3_init_25 : decode cX3_init 25 = .ok (.putfield 18, 3) := by decide +kernel
theorem dX3_init_28 : decode cX3_init 28 = .ok (.aload_n 0, 1) := by decide +kernel
theorem dX3_init_29 : decode cX3_init 29 = .ok (.bipush 20, 2) := by decide +kernel
theorem dX3_init_31 : decode cX3_init 31 = .ok (.newarray .int, 2) := by decide +kernel
theorem dX3_init_33 : decode cX3_init 33 = .ok (.putfield 21, 3) := by decide +kernel
theorem dX3_init_36 : decode cX3_init 36 = .ok (.aload_n 0, 1) := by decide +kernel
theorem dX3_init_37 : decode cX3_init 37 = .ok (.iconst 0, 1) := by decide +kernel
theorem dX3_init_38 : decode cX3_init 38 = .ok (.putfield 24, 3) := by decide +kernel
theorem dX3_init_41 : decode cX3_init 41 = .ok (.return_, 1) := by decide +kernel
theorem dX0_init_0 : decode cX0_init 0 = .ok (.aload_n 0, 1) := by decide +kernel
theorem dX0_init_1 : decode cX0_init 1 = .ok (.invokespecial 3, 3) := by decide +kernel
theorem dX0_init_4 : decode cX0_init 4 = .ok (.aload_n 0, 1) := by decide +kernel
theorem dX0_init_5 : decode cX0_init 5 = .ok (.sipush 1000, 3) := by decide +kernel
theorem dX0_init_8 : decode cX0_init 8 = .ok (.newarray .int, 2) := by decide +kernel
theorem dX0_init_10 : decode cX0_init 10 = .ok (.putfield 9, 3) := by decide +kernel
theorem dX0_init_13 : decode cX0_init 13 = .ok (.aload_n 0, 1) := by decide +kernel
theorem dX0_init_14 : decode cX0_init 14 = .ok (.iconst 0, 1) := by decide +kernel
theorem dX0_init_15 : decode cX0_init 15 = .ok (.putfield 15, 3) := by decide +kernel
theorem dX0_init_18 : decode cX0_init 18 = .ok (.return_, 1) := by decide +kernel
def p_W_init (o0 : Nat) : (Nat → Nat) → Prop := fun u => u 0 = o0
set_option maxHeartbeats 4000000 in
set_option maxRecDepth 100000 in
theorem c_W_init (l : Launch) (D : va_G) (k : Nat → ClassId) (o0 : Nat) : xx_Cv l yX4_init (.code yX4_init cX4_init 1 none :: xall) ({ frames := 1, cells := 6, slots := 180, locals := 20 } : Room) D vwCl (xT k) [.ref o0] ([(o0, .inr (4, [.null, .null, .null, .null, .null, .null, .int (nI 0)]))]) (p_W_init o0) (fun (u : Nat → Nat) => bW k u 0 (fun _ => 0) (fun _ => false) (fun _ => 0) (fun _ => 0) (fun _ => 0) (fun _ => 0)) 6 180 := by
  intro sz
  refine xx_met (Qf := fun A => va_Qv (p_W_init o0) (xx_B D vwCl (xT k) A (fun (u : Nat → Nat) => bW k u 0 (fun _ => 0) (fun _ => false) (fun _ => 0) (fun _ => 0) (fun _ => 0) (fun _ => 0))) A) (cc := cX4_init) (maxL := 1) (ret := none) (by decide) rfl (Nat.le_of_ble_eq_true rfl) ?_
  intro p e s m below meth c A ls hx hb hr hts hown hlocks hin hml hA hS hP hD hK hN hl
  have hl : lv_has ls 1 [(0, .ref o0)] := hl
  have hown : s.vm.findClass RX4 = some m.cls := hown
  have hinW := inX4
  refine lv_aload_n hx hb dX4_init_0 rfl (lv_at hl 0 rfl) ?_
  refine W.objInit hx hb hown (hts _ tw_29) (hts _ tw_16) (hts _ tw_17) rfl (by rw [hml]; exact hl.1) rfl dX4_init_1 (Nat.le_of_ble_eq_true rfl) (Nat.le_of_ble_eq_true rfl) ?_
  refine W.eq (g2 := F0 m 4 ls []) rfl ?_
  refine lv_aload_n hx hb dX4_init_4 rfl (lv_at hl 0 rfl) ?_
  refine lv_bipush (v := (nI 12)) hx hb dX4_init_5 (by decide) ?_
  refine xx_newa (atype := .int) (a0 := (12, .inl (fun _ => 0))) (N' := 12) (ty := .int) hx hb (hts _ tw_52) rfl 0 rfl (fun _ h => h) hK hP hD hS hA (fun _ => rfl) (by decide) (by decide) (by decide) (Nat.le_of_ble_eq_true rfl) (Nat.le_of_ble_eq_true rfl) dX4_init_7 (fun q7 H hP hD hS => ?_)
  have hP : va_P D vwCl (([(o0, .inr (4, [.null, .null, .null, .null, .null, .null, .int (nI 0)]))]) ++ ([(q7, .inl (k 0, 12, .inl (fun _ => 0)))])) H := hP
  have hD : va_D A (([(o0, .inr (4, [.null, .null, .null, .null, .null, .null, .int (nI 0)]))]) ++ ([(q7, .inl (k 0, 12, .inl (fun _ => 0)))])) := hD
  refine W.widen (k := 1) (n := 12) (Nat.le_of_ble_eq_true rfl) (Nat.le_of_ble_eq_true rfl) ?_
  refine va_putF (D := D) (ci := 4) (v := .ref q7) (ty := .array (.int)) (C := RX4) (T := TX4) (N := 7) hx hb hts hinW tyX4 tyX4_ok nmX4 hown hK hP hD hS 0 rfl rfl 0 (by decide) (hts _ tw_30) (fun _ h9 => h9) rfl hin rfl (by decide +kernel) rfl rfl (Nat.le_of_ble_eq_true rfl) dX4_init_9 (fun H locs hP hD hS => ?_)
  have hP : va_P D vwCl (([(o0, .inr (4, [.ref q7, .null, .null, .null, .null, .null, .int (nI 0)]))]) ++ ([(q7, .inl (k 0, 12, .inl (fun _ => 0)))])) H := hP
  have hD : va_D A (([(o0, .inr (4, [.ref q7, .null, .null, .null, .null, .null, .int (nI 0)]))]) ++ ([(q7, .inl (k 0, 12, .inl (fun _ => 0)))])) := hD
  refine lv_aload_n hx hb dX4_init_12 rfl (lv_at hl 0 rfl) ?_
  refine lv_bipush (v := (nI 12)) hx hb dX4_init_13 (by decide) ?_
  refine xx_newa (atype := .boolean) (a0 := (12, .inl (fun _ => 0))) (N' := 12) (ty := .boolean) hx hb (hts _ tw_53) rfl 1 rfl (fun _ h => h) hK hP hD hS hA (fun _ => rfl) (by decide) (by decide) (by decide) (Nat.le_of_ble_eq_true rfl) (Nat.le_of_ble_eq_true rfl) dX4_init_15 (fun q15 H hP hD hS => ?_)
  have hP : va_P D vwCl (([(o0, .inr (4, [.ref q7, .null, .null, .null, .null, .null, .int (nI 0)]))]) ++ ([(q7, .inl (k 0, 12, .inl (fun _ => 0)))]) ++ ([(q15, .inl (k 1, 12, .inl (fun _ => 0)))])) H := hP
  have hD : va_D A (([(o0, .inr (4, [.ref q7, .null, .null, .null, .null, .null, .int (nI 0)]))]) ++ ([(q7, .inl (k 0, 12, .inl (fun _ => 0)))]) ++ ([(q15, .inl (k 1, 12, .inl (fun _ => 0)))])) := hD
  refine W.widen (k := 2) (n := 24) (Nat.le_of_ble_eq_true rfl) (Nat.le_of_ble_eq_true rfl) ?_
  refine va_putF (D := D) (ci := 4) (v := .ref q15) (ty := .array (.boolean)) (C := RX4) (T := TX4) (N := 7) hx hb hts hinW tyX4 tyX4_ok nmX4 hown hK hP hD hS 0 rfl rfl 1 (by decide) (hts _ tw_31) (fun _ h9 => h9) rfl hin rfl (by decide +kernel) rfl rfl (Nat.le_of_ble_eq_true rfl) dX4_init_17 (fun H locs hP hD hS => ?_)
  have hP : va_P D vwCl (([(o0, .inr (4, [.ref q7, .ref q15, .null, .null, .null, .null, .int (nI 0)]))]) ++ ([(q7, .inl (k 0, 12, .inl (fun _ => 0)))]) ++ ([(q15, .inl (k 1, 12, .inl (fun _ => 0)))])) H := hP
  have hD : va_D A (([(o0, .inr (4, [.ref q7, .ref q15, .null, .null, .null, .null, .int (nI 0)]))]) ++ ([(q7, .inl (k 0, 12, .inl (fun _ => 0)))]) ++ ([(q15, .inl (k 1, 12, .inl (fun _ => 0)))])) := hD
  refine lv_aload_n hx hb dX4_init_20 rfl (lv_at hl 0 rfl) ?_
  refine lv_bipush (v := (nI 12)) hx hb dX4_init_21 (by decide) ?_
  refine xx_newa (atype := .int) (a0 := (12, .inl (fun _ => 0))) (N' := 12) (ty := .int) hx hb (hts _ tw_52) rfl 0 rfl (fun _ h => h) hK hP hD hS hA (fun _ => rfl) (by decide) (by decide) (by decide) (Nat.le_of_ble_eq_true rfl) (Nat.le_of_ble_eq_true rfl) dX4_init_23 (fun q23 H hP hD hS => ?_)
  have hP : va_P D vwCl (([(o0, .inr (4, [.ref q7, .ref q15, .null, .null, .null, .null, .int (nI 0)]))]) ++ ([(q7, .inl (k 0, 12, .inl (fun _ => 0)))]) ++ ([(q15, .inl (k 1, 12, .inl (fun _ => 0)))]) ++ ([(q23, .inl (k 0, 12, .inl (fun _ => 0)))])) H := hP
  have hD : va_D A (([(o0, .inr (4, [.ref q7, .ref q15, .null, .null, .null, .null, .int (nI 0)]))]) ++ ([(q7, .inl (k 0, 12, .inl (fun _ => 0)))]) ++ ([(q15, .inl (k 1, 12, .inl (fun _ => 0)))]) ++ ([(q23, .inl (k 0, 12, .inl (fun _ => 0)))])) := hD
  refine W.widen (k := 3) (n := 36) (Nat.le_of_ble_eq_true rfl) (Nat.le_of_ble_eq_true rfl) ?_
  refine va_putF (D := D) (ci := 4) (v := .ref q23) (ty := .array (.int)) (C := RX4) (T := TX4) (N := 7) hx hb hts hinW tyX4 tyX4_ok nmX4 hown hK hP hD hS 0 rfl rfl 2 (by decide) (hts _ tw_32) (fun _ h9 => h9) rfl hin rfl (by decide +kernel) rfl rfl (Nat.le_of_ble_eq_true rfl) dX4_init_25 (fun H locs hP hD hS => ?_)
  have hP : va_P D vwCl (([(o0, .inr (4, [.ref q7, .ref q15, .ref q23, .null, .null, .null, .int (nI 0)]))]) ++ ([(q7, .inl (k 0, 12, .inl (fun _ => 0)))]) ++ ([(q15, .inl (k 1, 12, .inl (fun _ => 0)))]) ++ ([(q23, .inl (k 0, 12, .inl (fun _ => 0)))])) H := hP
  have hD : va_D A (([(o0, .inr (4, [.ref q7, .ref q15, .ref q23, .null, .null, .null, .int (nI 0)]))]) ++ ([(q7, .inl (k 0, 12, .inl (fun _ => 0)))]) ++ ([(q15, .inl (k 1, 12, .inl (fun _ => 0)))]) ++ ([(q23, .inl (k 0, 12, .inl (fun _ => 0)))])) := hD
  refine lv_aload_n hx hb dX4_init_28 rfl (lv_at hl 0 rfl) ?_
  refine lv_bipush (v := (nI 48)) hx hb dX4_init_29 (by decide) ?_
  refine xx_newa (atype := .long) (a0 := (48, .inr (.inl (fun _ => 0)))) (N' := 48) (ty := .long) hx hb (hts _ tw_54) rfl 2 rfl (fun _ h => h) hK hP hD hS hA (fun _ => rfl) (by decide) (by decide) (by decide) (Nat.le_of_ble_eq_true rfl) (Nat.le_of_ble_eq_true rfl) dX4_init_31 (fun q31 H hP hD hS => ?_)
  have hP : va_P D vwCl (([(o0, .inr (4, [.ref q7, .ref q15, .ref q23, .null, .null, .null, .int (nI 0)]))]) ++ ([(q7, .inl (k 0, 12, .inl (fun _ => 0)))]) ++ ([(q15, .inl (k 1, 12, .inl (fun _ => 0)))]) ++ ([(q23, .inl (k 0, 12, .inl (fun _ => 0)))]) ++ ([(q31, .inl (k 2, 48, .inr (.inl (fun _ => 0))))])) H := hP
  have hD : va_D A (([(o0, .inr (4, [.ref q7, .ref q15, .ref q23, .null, .null, .null, .int (nI 0)]))]) ++ ([(q7, .inl (k 0, 12, .inl (fun _ => 0)))]) ++ ([(q15, .inl (k 1, 12, .inl (fun _ => 0)))]) ++ ([(q23, .inl (k 0, 12, .inl (fun _ => 0)))]) ++ ([(q31, .inl (k 2, 48, .inr (.inl (fun _ => 0))))])) := hD
  refine W.widen (k := 4) (n := 84) (Nat.le_of_ble_eq_true rfl) (Nat.le_of_ble_eq_true rfl) ?_
  refine va_putF (D := D) (ci := 4) (v := .ref q31) (ty := .array (.long)) (C := RX4) (T := TX4) (N := 7) hx hb hts hinW tyX4 tyX4_ok nmX4 hown hK hP hD hS 0 rfl rfl 3 (by decide) (hts _ tw_33) (fun _ h9 => h9) rfl hin rfl (by decide +kernel) rfl rfl (Nat.le_of_ble_eq_true rfl) dX4_init_33 (fun H locs hP hD hS => ?_)
  have hP : va_P D vwCl (([(o0, .inr (4, [.ref q7, .ref q15, .ref q23, .ref q31, .null, .null, .int (nI 0)]))]) ++ ([(q7, .inl (k 0, 12, .inl (fun _ => 0)))]) ++ ([(q15, .inl (k 1, 12, .inl (fun _ => 0)))]) ++ ([(q23, .inl (k 0, 12, .inl (fun _ => 0)))]) ++ ([(q31, .inl (k 2, 48, .inr (.inl (fun _ => 0))))])) H := hP
  have hD : va_D A (([(o0, .inr (4, [.ref q7, .ref q15, .ref q23, .ref q31, .null, .null, .int (nI 0)]))]) ++ ([(q7, .inl (k 0, 12, .inl (fun _ => 0)))]) ++ ([(q15, .inl (k 1, 12, .inl (fun _ => 0)))]) ++ ([(q23, .inl (k 0, 12, .inl (fun _ => 0)))]) ++ ([(q31, .inl (k 2, 48, .inr (.inl (fun _ => 0))))])) := hD
  refine lv_aload_n hx hb dX4_init_36 rfl (lv_at hl 0 rfl) ?_
  refine lv_bipush (v := (nI 48)) hx hb dX4_init_37 (by decide) ?_
  refine xx_newa (atype := .long) (a0 := (48, .inr (.inl (fun _ => 0)))) (N' := 48) (ty := .long) hx hb (hts _ tw_54) rfl 2 rfl (fun _ h => h) hK hP hD hS hA (fun _ => rfl) (by decide) (by decide) (by decide) (Nat.le_of_ble_eq_true rfl) (Nat.le_of_ble_eq_true rfl) dX4_init_39 (fun q39 H hP hD hS => ?_)
  have hP : va_P D vwCl (([(o0, .inr (4, [.ref q7, .ref q15, .ref q23, .ref q31, .null, .null, .int (nI 0)]))]) ++ ([(q7, .inl (k 0, 12, .inl (fun _ => 0)))]) ++ ([(q15, .inl (k 1, 12, .inl (fun _ => 0)))]) ++ ([(q23, .inl (k 0, 12, .inl (fun _ => 0)))]) ++ ([(q31, .inl (k 2, 48, .inr (.inl (fun _ => 0))))]) ++ ([(q39, .inl (k 2, 48, .inr (.inl (fun _ => 0))))])) H := hP
  have hD : va_D A (([(o0, .inr (4, [.ref q7, .ref q15, .ref q23, .ref q31, .null, .null, .int (nI 0)]))]) ++ ([(q7, .inl (k 0, 12, .inl (fun _ => 0)))]) ++ ([(q15, .inl (k 1, 12, .inl (fun _ => 0)))]) ++ ([(q23, .inl (k 0, 12, .inl (fun _ => 0)))]) ++ ([(q31, .inl (k 2, 48, .inr (.inl (fun _ => 0))))]) ++ ([(q39, .inl (k 2, 48, .inr (.inl (fun _ => 0))))])) := hD
  refine W.widen (k := 5) (n := 132) (Nat.le_of_ble_eq_true rfl) (Nat.le_of_ble_eq_true rfl) ?_
  refine va_putF (D := D) (ci := 4) (v := .ref q39) (ty := .array (.long)) (C := RX4) (T := TX4) (N := 7) hx hb hts hinW tyX4 tyX4_ok nmX4 hown hK hP hD hS 0 rfl rfl 4 (by decide) (hts _ tw_34) (fun _ h9 => h9) rfl hin rfl (by decide +kernel) rfl rfl (Nat.le_of_ble_eq_true rfl) dX4_init_41 (fun H locs hP hD hS => ?_)
  have hP : va_P D vwCl (([(o0, .inr (4, [.ref q7, .ref q15, .ref q23, .ref q31, .ref q39, .null, .int (nI 0)]))]) ++ ([(q7, .inl (k 0, 12, .inl (fun _ => 0)))]) ++ ([(q15, .inl (k 1, 12, .inl (fun _ => 0)))]) ++ ([(q23, .inl (k 0, 12, .inl (fun _ => 0)))]) ++ ([(q31, .inl (k 2, 48, .inr (.inl (fun _ => 0))))]) ++ ([(q39, .inl (k 2, 48, .inr (.inl (fun _ => 0))))])) H := hP
  have hD : va_D A (([(o0, .inr (4, [.ref q7, .ref q15, .ref q23, .ref q31, .ref q39, .null, .int (nI 0)]))]) ++ ([(q7, .inl (k 0, 12, .inl (fun _ => 0)))]) ++ ([(q15, .inl (k 1, 12, .inl (fun _ => 0)))]) ++ ([(q23, .inl (k 0, 12, .inl (fun _ => 0)))]) ++ ([(q31, .inl (k 2, 48, .inr (.inl (fun _ => 0))))]) ++ ([(q39, .inl (k 2, 48, .inr (.inl (fun _ => 0))))])) := hD
  refine lv_aload_n hx hb dX4_init_44 rfl (lv_at hl 0 rfl) ?_
  refine lv_bipush (v := (nI 48)) hx hb dX4_init_45 (by decide) ?_
  refine xx_newa (atype := .long) (a0 := (48, .inr (.inl (fun _ => 0)))) (N' := 48) (ty := .long) hx hb (hts _ tw_54) rfl 2 rfl (fun _ h => h) hK hP hD hS hA (fun _ => rfl) (by decide) (by decide) (by decide) (Nat.le_of_ble_eq_true rfl) (Nat.le_of_ble_eq_true rfl) dX4_init_47 (fun q47 H hP hD hS => ?_)
  have hP : va_P D vwCl (([(o0, .inr (4, [.ref q7, .ref q15, .ref q23, .ref q31, .ref q39, .null, .int (nI 0)]))]) ++ ([(q7, .inl (k 0, 12, .inl (fun _ => 0)))]) ++ ([(q15, .inl (k 1, 12, .inl (fun _ => 0)))]) ++ ([(q23, .inl (k 0, 12, .inl (fun _ => 0)))]) ++ ([(q31, .inl (k 2, 48, .inr (.inl (fun _ => 0))))]) ++ ([(q39, .inl (k 2, 48, .inr (.inl (fun _ => 0))))]) ++ ([(q47, .inl (k 2, 48, .inr (.inl (fun _ => 0))))])) H := hP
  have hD : va_D A (([(o0, .inr (4, [.ref q7, .ref q15, .ref q23, .ref q31, .ref q39, .null, .int (nI 0)]))]) ++ ([(q7, .inl (k 0, 12, .inl (fun _ => 0)))]) ++ ([(q15, .inl (k 1, 12, .inl (fun _ => 0)))]) ++ ([(q23, .inl (k 0, 12, .inl (fun _ => 0)))]) ++ ([(q31, .inl (k 2, 48, .inr (.inl (fun _ => 0))))]) ++ ([(q39, .inl (k 2, 48, .inr (.inl (fun _ => 0))))]) ++ ([(q47, .inl (k 2, 48, .inr (.inl (fun _ => 0))))])) := hD
  refine W.widen (k := 6) (n := 180) (Nat.le_of_ble_eq_true rfl) (Nat.le_of_ble_eq_true rfl) ?_
  refine va_putF (D := D) (ci := 4) (v := .ref q47) (ty := .array (.long)) (C := RX4) (T := TX4) (N := 7) hx hb hts hinW tyX4 tyX4_ok nmX4 hown hK hP hD hS 0 rfl rfl 5 (by decide) (hts _ tw_35) (fun _ h9 => h9) rfl hin rfl (by decide +kernel) rfl rfl (Nat.le_of_ble_eq_true rfl) dX4_init_49 (fun H locs hP hD hS => ?_)
  have hP : va_P D vwCl (([(o0, .inr (4, [.ref q7, .ref q15, .ref q23, .ref q31, .ref q39, .ref q47, .int (nI 0)]))]) ++ ([(q7, .inl (k 0, 12, .inl (fun _ => 0)))]) ++ ([(q15, .inl (k 1, 12, .inl (fun _ => 0)))]) ++ ([(q23, .inl (k 0, 12, .inl (fun _ => 0)))]) ++ ([(q31, .inl (k 2, 48, .inr (.inl (fun _ => 0))))]) ++ ([(q39, .inl (k 2, 48, .inr (.inl (fun _ => 0))))]) ++ ([(q47, .inl (k 2, 48, .inr (.inl (fun _ => 0))))])) H := hP
  have hD : va_D A (([(o0, .inr (4, [.ref q7, .ref q15, .ref q23, .ref q31, .ref q39, .ref q47, .int (nI 0)]))]) ++ ([(q7, .inl (k 0, 12, .inl (fun _ => 0)))]) ++ ([(q15, .inl (k 1, 12, .inl (fun _ => 0)))]) ++ ([(q23, .inl (k 0, 12, .inl (fun _ => 0)))]) ++ ([(q31, .inl (k 2, 48, .inr (.inl (fun _ => 0))))]) ++ ([(q39, .inl (k 2, 48, .inr (.inl (fun _ => 0))))]) ++ ([(q47, .inl (k 2, 48, .inr (.inl (fun _ => 0))))])) := hD
  refine lv_aload_n hx hb dX4_init_52 rfl (lv_at hl 0 rfl) ?_
  refine lv_iconst (v := (nI 0)) hx hb dX4_init_53 (by decide) ?_
  refine va_put (D := D) (ci := 4) (v := .int (nI 0)) (ty := .int) (C := RX4) (T := TX4) (N := 7) hx hb hts hinW tyX4 tyX4_ok nmX4 hown hK hP hD hS 0 rfl rfl 6 (by decide) (hts _ tw_36) (fun _ h9 => h9) rfl (by decide +kernel) rfl rfl (Nat.le_of_ble_eq_true rfl) dX4_init_54 (fun H locs hP hD hS => ?_)
  have hP : va_P D vwCl (([(o0, .inr (4, [.ref q7, .ref q15, .ref q23, .ref q31, .ref q39, .ref q47, .int (nI 0)]))]) ++ ([(q7, .inl (k 0, 12, .inl (fun _ => 0)))]) ++ ([(q15, .inl (k 1, 12, .inl (fun _ => 0)))]) ++ ([(q23, .inl (k 0, 12, .inl (fun _ => 0)))]) ++ ([(q31, .inl (k 2, 48, .inr (.inl (fun _ => 0))))]) ++ ([(q39, .inl (k 2, 48, .inr (.inl (fun _ => 0))))]) ++ ([(q47, .inl (k 2, 48, .inr (.inl (fun _ => 0))))])) H := hP
  have hD : va_D A (([(o0, .inr (4, [.ref q7, .ref q15, .ref q23, .ref q31, .ref q39, .ref q47, .int (nI 0)]))]) ++ ([(q7, .inl (k 0, 12, .inl (fun _ => 0)))]) ++ ([(q15, .inl (k 1, 12, .inl (fun _ => 0)))]) ++ ([(q23, .inl (k 0, 12, .inl (fun _ => 0)))]) ++ ([(q31, .inl (k 2, 48, .inr (.inl (fun _ => 0))))]) ++ ([(q39, .inl (k 2, 48, .inr (.inl (fun _ => 0))))]) ++ ([(q47, .inl (k 2, 48, .inr (.inl (fun _ => 0))))])) := hD
  refine xx_vret (xx_at [o0, q7, q15, q23, q31, q39, q47]) hx hb hr hlocks hS hK hP hD dX4_init_57 ?_
  exact rfl
def p_E_init (o0 : Nat) : (Nat → Nat) → Prop := fun u => u 0 = o0
set_option maxHeartbeats 4000000 in
set_option maxRecDepth 100000 in
theorem c_E_init (l : Launch) (D : va_G) (k : Nat → ClassId) (o0 : Nat) : xx_Cv l yX2_init (.code yX2_init cX2_init 1 none :: xall) ({ frames := 1, cells := 6, slots := 600, locals := 20 } : Room) D vwCl (xT k) [.ref o0] ([(o0, .inr (2, [.null, .null, .null, .null, .null, .null, .int (nI 0)]))]) (p_E_init o0) (fun (u : Nat → Nat) => bE k u 0 (fun _ => 0) (fun _ => 0) (fun _ => 0) (fun _ => 0) (fun _ => 0) (fun _ => false)) 6 600 := by
  intro sz
  refine xx_met (Qf := fun A => va_Qv (p_E_init o0) (xx_B D vwCl (xT k) A (fun (u : Nat → Nat) => bE k u 0 (fun _ => 0) (fun _ => 0) (fun _ => 0) (fun _ => 0) (fun _ => 0) (fun _ => false))) A) (cc := cX2_init) (maxL := 1) (ret := none) (by decide) rfl (Nat.le_of_ble_eq_true rfl) ?_
  intro p e s m below meth c A ls hx hb hr hts hown hlocks hin hml hA hS hP hD hK hN hl
  have hl : lv_has ls 1 [(0, .ref o0)] := hl
  have hown : s.vm.findClass RX2 = some m.cls := hown
  have hinW := inX2
  refine lv_aload_n hx hb dX2_init_0 rfl (lv_at hl 0 rfl) ?_
  refine W.objInit hx hb hown (hts _ tw_60) (hts _ tw_16) (hts _ tw_17) rfl (by rw [hml]; exact hl.1) rfl dX2_init_1 (Nat.le_of_ble_eq_true rfl) (Nat.le_of_ble_eq_true rfl) ?_
  refine W.eq (g2 := F0 m 4 ls []) rfl ?_
  refine lv_aload_n hx hb dX2_init_4 rfl (lv_at hl 0 rfl) ?_
  refine lv_bipush (v := (nI 100)) hx hb dX2_init_5 (by decide) ?_
  refine xx_newa (atype := .int) (a0 := (100, .inl (fun _ => 0))) (N' := 100) (ty := .int) hx hb (hts _ tw_52) rfl 0 rfl (fun _ h => h) hK hP hD hS hA (fun _ => rfl) (by decide) (by decide) (by decide) (Nat.le_of_ble_eq_true rfl) (Nat.le_of_ble_eq_true rfl) dX2_init_7 (fun q7 H hP hD hS => ?_)
  have hP : va_P D vwCl (([(o0, .inr (2, [.null, .null, .null, .null, .null, .null, .int (nI 0)]))]) ++ ([(q7, .inl (k 0, 100, .inl (fun _ => 0)))])) H := hP
  have hD : va_D A (([(o0, .inr (2, [.null, .null, .null, .null, .null, .null, .int (nI 0)]))]) ++ ([(q7, .inl (k 0, 100, .inl (fun _ => 0)))])) := hD
  refine W.widen (k := 1) (n := 100) (Nat.le_of_ble_eq_true rfl) (Nat.le_of_ble_eq_true rfl) ?_
  refine va_putF (D := D) (ci := 2) (v := .ref q7) (ty := .array (.int)) (C := RX2) (T := TX2) (N := 7) hx hb hts hinW tyX2 tyX2_ok nmX2 hown hK hP hD hS 0 rfl rfl 0 (by decide) (hts _ tw_61) (fun _ h9 => h9) rfl hin rfl (by decide +kernel) rfl rfl (Nat.le_of_ble_eq_true rfl) dX2_init_9 (fun H locs hP hD hS => ?_)
  have hP : va_P D vwCl (([(o0, .inr (2, [.ref q7, .null, .null, .null, .null, .null, .int (nI 0)]))]) ++ ([(q7, .inl (k 0, 100, .inl (fun _ => 0)))])) H := hP
  have hD : va_D A (([(o0, .inr (2, [.ref q7, .null, .null, .null, .null, .null, .int (nI 0)]))]) ++ ([(q7, .inl (k 0, 100, .inl (fun _ => 0)))])) := hD
  refine lv_aload_n hx hb dX2_init_12 rfl (lv_at hl 0 rfl) ?_
  refine lv_bipush (v := (nI 100)) hx hb dX2_init_13 (by decide) ?_
  refine xx_newa (atype := .int) (a0 := (100, .inl (fun _ => 0))) (N' := 100) (ty := .int) hx hb (hts _ tw_52) rfl 0 rfl (fun _ h => h) hK hP hD hS hA (fun _ => rfl) (by decide) (by decide) (by decide) (Nat.le_of_ble_eq_true rfl) (Nat.le_of_ble_eq_true rfl) dX2_init_15 (fun q15 H hP hD hS => ?_)
  have hP : va_P D vwCl (([(o0, .inr (2, [.ref q7, .null, .null, .null, .null, .null, .int (nI 0)]))]) ++ ([(q7, .inl (k 0, 100, .inl (fun _ => 0)))]) ++ ([(q15, .inl (k 0, 100, .inl (fun _ => 0)))])) H := hP
  have hD : va_D A (([(o0, .inr (2, [.ref q7, .null, .null, .null, .null, .null, .int (nI 0)]))]) ++ ([(q7, .inl (k 0, 100, .inl (fun _ => 0)))]) ++ ([(q15, .inl (k 0, 100, .inl (fun _ => 0)))])) := hD
  refine W.widen (k := 2) (n := 200) (Nat.le_of_ble_eq_true rfl) (Nat.le_of_ble_eq_true rfl) ?_
  refine va_putF (D := D) (ci := 2) (v := .ref q15) (ty := .array (.int)) (C := RX2) (T := TX2) (N := 7) hx hb hts hinW tyX2 tyX2_ok nmX2 hown hK hP hD hS 0 rfl rfl 1 (by decide) (hts _ tw_62) (fun _ h9 => h9) rfl hin rfl (by decide +kernel) rfl rfl (Nat.le_of_ble_eq_true rfl) dX2_init_17 (fun H locs hP hD hS => ?_)
  have hP : va_P D vwCl (([(o0, .inr (2, [.ref q7, .ref q15, .null, .null, .null, .null, .int (nI 0)]))]) ++ ([(q7, .inl (k 0, 100, .inl (fun _ => 0)))]) ++ ([(q15, .inl (k 0, 100, .inl (fun _ => 0)))])) H := hP
  have hD : va_D A (([(o0, .inr (2, [.ref q7, .ref q15, .null, .null, .null, .null, .int (nI 0)]))]) ++ ([(q7, .inl (k 0, 100, .inl (fun _ => 0)))]) ++ ([(q15, .inl (k 0, 100, .inl (fun _ => 0)))])) := hD
  refine lv_aload_n hx hb dX2_init_20 rfl (lv_at hl 0 rfl) ?_
  refine lv_bipush (v := (nI 100)) hx hb dX2_init_21 (by decide) ?_
  refine xx_newa (atype := .long) (a0 := (100, .inr (.inl (fun _ => 0)))) (N' := 100) (ty := .long) hx hb (hts _ tw_54) rfl 2 rfl (fun _ h => h) hK hP hD hS hA (fun _ => rfl) (by decide) (by decide) (by decide) (Nat.le_of_ble_eq_true rfl) (Nat.le_of_ble_eq_true rfl) dX2_init_23 (fun q23 H hP hD hS => ?_)
  have hP : va_P D vwCl (([(o0, .inr (2, [.ref q7, .ref q15, .null, .null, .null, .null, .int (nI 0)]))]) ++ ([(q7, .inl (k 0, 100, .inl (fun _ => 0)))]) ++ ([(q15, .inl (k 0, 100, .inl (fun _ => 0)))]) ++ ([(q23, .inl (k 2, 100, .inr (.inl (fun _ => 0))))])) H := hP
  have hD : va_D A (([(o0, .inr (2, [.ref q7, .ref q15, .null, .null, .null, .null, .int (nI 0)]))]) ++ ([(q7, .inl (k 0, 100, .inl (fun _ => 0)))]) ++ ([(q15, .inl (k 0, 100, .inl (fun _ => 0)))]) ++ ([(q23, .inl (k 2, 100, .inr (.inl (fun _ => 0))))])) := hD
  refine W.widen (k := 3) (n := 300) (Nat.le_of_ble_eq_true rfl) (Nat.le_of_ble_eq_true rfl) ?_
  refine va_putF (D := D) (ci := 2) (v := .ref q23) (ty := .array (.long)) (C := RX2) (T := TX2) (N := 7) hx hb hts hinW tyX2 tyX2_ok nmX2 hown hK hP hD hS 0 rfl rfl 2 (by decide) (hts _ tw_63) (fun _ h9 => h9) rfl hin rfl (by decide +kernel) rfl rfl (Nat.le_of_ble_eq_true rfl) dX2_init_25 (fun H locs hP hD hS => ?_)
  have hP : va_P D vwCl (([(o0, .inr (2, [.ref q7, .ref q15, .ref q23, .null, .null, .null, .int (nI 0)]))]) ++ ([(q7, .inl (k 0, 100, .inl (fun _ => 0)))]) ++ ([(q15, .inl (k 0, 100, .inl (fun _ => 0)))]) ++ ([(q23, .inl (k 2, 100, .inr (.inl (fun _ => 0))))])) H := hP
  have hD : va_D A (([(o0, .inr (2, [.ref q7, .ref q15, .ref q23, .null, .null, .null, .int (nI 0)]))]) ++ ([(q7, .inl (k 0, 100, .inl (fun _ => 0)))]) ++ ([(q15, .inl (k 0, 100, .inl (fun _ => 0)))]) ++ ([(q23, .inl (k 2, 100, .inr (.inl (fun _ => 0))))])) := hD
  refine lv_aload_n hx hb dX2_init_28 rfl (lv_at hl 0 rfl) ?_
  refine lv_bipush (v := (nI 100)) hx hb dX2_init_29 (by decide) ?_
  refine xx_newa (atype := .long) (a0 := (100, .inr (.inl (fun _ => 0)))) (N' := 100) (ty := .long) hx hb (hts _ tw_54) rfl 2 rfl (fun _ h => h) hK hP hD hS hA (fun _ => rfl) (by decide) (by decide) (by decide) (Nat.le_of_ble_eq_true rfl) (Nat.le_of_ble_eq_true rfl) dX2_init_31 (fun q31 H hP hD hS => ?_)
  have hP : va_P D vwCl (([(o0, .inr (2, [.ref q7, .ref q15, .ref q23, .null, .null, .null, .int (nI 0)]))]) ++ ([(q7, .inl (k 0, 100, .inl (fun _ => 0)))]) ++ ([(q15, .inl (k 0, 100, .inl (fun _ => 0)))]) ++ ([(q23, .inl (k 2, 100, .inr (.inl (fun _ => 0))))]) ++ ([(q31, .inl (k 2, 100, .inr (.inl (fun _ => 0))))])) H := hP
  have hD : va_D A (([(o0, .inr (2, [.ref q7, .ref q15, .ref q23, .null, .null, .null, .int (nI 0)]))]) ++ ([(q7, .inl (k 0, 100, .inl (fun _ => 0)))]) ++ ([(q15, .inl (k 0, 100, .inl (fun _ => 0)))]) ++ ([(q23, .inl (k 2, 100, .inr (.inl (fun _ => 0))))]) ++ ([(q31, .inl (k 2, 100, .inr (.inl (fun _ => 0))))])) := hD
  refine W.widen (k := 4) (n := 400) (Nat.le_of_ble_eq_true rfl) (Nat.le_of_ble_eq_true rfl) ?_
  refine va_putF (D := D) (ci := 2) (v := .ref q31) (ty := .array (.long)) (C := RX2) (T := TX2) (N := 7) hx hb hts hinW tyX2 tyX2_ok nmX2 hown hK hP hD hS 0 rfl rfl 3 (by decide) (hts _ tw_64) (fun _ h9 => h9) rfl hin rfl (by decide +kernel) rfl rfl (Nat.le_of_ble_eq_true rfl) dX2_init_33 (fun H locs hP hD hS => ?_)
  have hP : va_P D vwCl (([(o0, .inr (2, [.ref q7, .ref q15, .ref q23, .ref q31, .null, .null, .int (nI 0)]))]) ++ ([(q7, .inl (k 0, 100, .inl (fun _ => 0)))]) ++ ([(q15, .inl (k 0, 100, .inl (fun _ => 0)))]) ++ ([(q23, .inl (k 2, 100, .inr (.inl (fun _ => 0))))]) ++ ([(q31, .inl (k 2, 100, .inr (.inl (fun _ => 0))))])) H := hP
  have hD : va_D A (([(o0, .inr (2, [.ref q7, .ref q15, .ref q23, .ref q31, .null, .null, .int (nI 0)]))]) ++ ([(q7, .inl (k 0, 100, .inl (fun _ => 0)))]) ++ ([(q15, .inl (k 0, 100, .inl (fun _ => 0)))]) ++ ([(q23, .inl (k 2, 100, .inr (.inl (fun _ => 0))))]) ++ ([(q31, .inl (k 2, 100, .inr (.inl (fun _ => 0))))])) := hD
  refine lv_aload_n hx hb dX2_init_36 rfl (lv_at hl 0 rfl) ?_
  refine lv_bipush (v := (nI 100)) hx hb dX2_init_37 (by decide) ?_
  refine xx_newa (atype := .long) (a0 := (100, .inr (.inl (fun _ => 0)))) (N' := 100) (ty := .long) hx hb (hts _ tw_54) rfl 2 rfl (fun _ h => h) hK hP hD hS hA (fun _ => rfl) (by decide) (by decide) (by decide) (Nat.le_of_ble_eq_true rfl) (Nat.le_of_ble_eq_true rfl) dX2_init_39 (fun q39 H hP hD hS => ?_)
  have hP : va_P D vwCl (([(o0, .inr (2, [.ref q7, .ref q15, .ref q23, .ref q31, .null, .null, .int (nI 0)]))]) ++ ([(q7, .inl (k 0, 100, .inl (fun _ => 0)))]) ++ ([(q15, .inl (k 0, 100, .inl (fun _ => 0)))]) ++ ([(q23, .inl (k 2, 100, .inr (.inl (fun _ => 0))))]) ++ ([(q31, .inl (k 2, 100, .inr (.inl (fun _ => 0))))]) ++ ([(q39, .inl (k 2, 100, .inr (.inl (fun _ => 0))))])) H := hP
  have hD : va_D A (([(o0, .inr (2, [.ref q7, .ref q15, .ref q23, .ref q31, .null, .null, .int (nI 0)]))]) ++ ([(q7, .inl (k 0, 100, .inl (fun _ => 0)))]) ++ ([(q15, .inl (k 0, 100, .inl (fun _ => 0)))]) ++ ([(q23, .inl (k 2, 100, .inr (.inl (fun _ => 0))))]) ++ ([(q31, .inl (k 2, 100, .inr (.inl (fun _ => 0))))]) ++ ([(q39, .inl (k 2, 100, .inr (.inl (fun _ => 0))))])) := hD
  refine W.widen (k := 5) (n := 500) (Nat.le_of_ble_eq_true rfl) (Nat.le_of_ble_eq_true rfl) ?_
  refine va_putF (D := D) (ci := 2) (v := .ref q39) (ty := .array (.long)) (C := RX2) (T := TX2) (N := 7) hx hb hts hinW tyX2 tyX2_ok nmX2 hown hK hP hD hS 0 rfl rfl 4 (by decide) (hts _ tw_65) (fun _ h9 => h9) rfl hin rfl (by decide +kernel) rfl rfl (Nat.le_of_ble_eq_true rfl) dX2_init_41 (fun H locs hP hD hS => ?_)
  have hP : va_P D vwCl (([(o0, .inr (2, [.ref q7, .ref q15, .ref q23, .ref q31, .ref q39, .null, .int (nI 0)]))]) ++ ([(q7, .inl (k 0, 100, .inl (fun _ => 0)))]) ++ ([(q15, .inl (k 0, 100, .inl (fun _ => 0)))]) ++ ([(q23, .inl (k 2, 100, .inr (.inl (fun _ => 0))))]) ++ ([(q31, .inl (k 2, 100, .inr (.inl (fun _ => 0))))]) ++ ([(q39, .inl (k 2, 100, .inr (.inl (fun _ => 0))))])) H := hP
  have hD : va_D A (([(o0, .inr (2, [.ref q7, .ref q15, .ref q23, .ref q31, .ref q39, .null, .int (nI 0)]))]) ++ ([(q7, .inl (k 0, 100, .inl (fun _ => 0)))]) ++ ([(q15, .inl (k 0, 100, .inl (fun _ => 0)))]) ++ ([(q23, .inl (k 2, 100, .inr (.inl (fun _ => 0))))]) ++ ([(q31, .inl (k 2, 100, .inr (.inl (fun _ => 0))))]) ++ ([(q39, .inl (k 2, 100, .inr (.inl (fun _ => 0))))])) := hD
  refine lv_aload_n hx hb dX2_init_44 rfl (lv_at hl 0 rfl) ?_
  refine lv_bipush (v := (nI 100)) hx hb dX2_init_45 (by decide) ?_
  refine xx_newa (atype := .boolean) (a0 := (100, .inl (fun _ => 0))) (N' := 100) (ty := .boolean) hx hb (hts _ tw_53) rfl 1 rfl (fun _ h => h) hK hP hD hS hA (fun _ => rfl) (by decide) (by decide) (by decide) (Nat.le_of_ble_eq_true rfl) (Nat.le_of_ble_eq_true rfl) dX2_init_47 (fun q47 H hP hD hS => ?_)
  have hP : va_P D vwCl (([(o0, .inr (2, [.ref q7, .ref q15, .ref q23, .ref q31, .ref q39, .null, .int (nI 0)]))]) ++ ([(q7, .inl (k 0, 100, .inl (fun _ => 0)))]) ++ ([(q15, .inl (k 0, 100, .inl (fun _ => 0)))]) ++ ([(q23, .inl (k 2, 100, .inr (.inl (fun _ => 0))))]) ++ ([(q31, .inl (k 2, 100, .inr (.inl (fun _ => 0))))]) ++ ([(q39, .inl (k 2, 100, .inr (.inl (fun _ => 0))))]) ++ ([(q47, .inl (k 1, 100, .inl (fun _ => 0)))])) H := hP
  have hD : va_D A (([(o0, .inr (2, [.ref q7, .ref q15, .ref q23, .ref q31, .ref q39, .null, .int (nI 0)]))]) ++ ([(q7, .inl (k 0, 100, .inl (fun _ => 0)))]) ++ ([(q15, .inl (k 0, 100, .inl (fun _ => 0)))]) ++ ([(q23, .inl (k 2, 100, .inr (.inl (fun _ => 0))))]) ++ ([(q31, .inl (k 2, 100, .inr (.inl (fun _ => 0))))]) ++ ([(q39, .inl (k 2, 100, .inr (.inl (fun _ => 0))))]) ++ ([(q47, .inl (k 1, 100, .inl (fun _ => 0)))])) := hD
  refine W.widen (k := 6) (n := 600) (Nat.le_of_ble_eq_true rfl) (Nat.le_of_ble_eq_true rfl) ?_
  refine va_putF (D := D) (ci := 2) (v := .ref q47) (ty := .array (.boolean)) (C := RX2) (T := TX2) (N := 7) hx hb hts hinW tyX2 tyX2_ok nmX2 hown hK hP hD hS 0 rfl rfl 5 (by decide) (hts _ tw_66) (fun _ h9 => h9) rfl hin rfl (by decide +kernel) rfl rfl (Nat.le_of_ble_eq_true rfl) dX2_init_49 (fun H locs hP hD hS => ?_)
  have hP : va_P D vwCl (([(o0, .inr (2, [.ref q7, .ref q15, .ref q23, .ref q31, .ref q39, .ref q47, .int (nI 0)]))]) ++ ([(q7, .inl (k 0, 100, .inl (fun _ => 0)))]) ++ ([(q15, .inl (k 0, 100, .inl (fun _ => 0)))]) ++ ([(q23, .inl (k 2, 100, .inr (.inl (fun _ => 0))))]) ++ ([(q31, .inl (k 2, 100, .inr (.inl (fun _ => 0))))]) ++ ([(q39, .inl (k 2, 100, .inr (.inl (fun _ => 0))))]) ++ ([(q47, .inl (k 1, 100, .inl (fun _ => 0)))])) H := hP
  have hD : va_D A (([(o0, .inr (2, [.ref q7, .ref q15, .ref q23, .ref q31, .ref q39, .ref q47, .int (nI 0)]))]) ++ ([(q7, .inl (k 0, 100, .inl (fun _ => 0)))]) ++ ([(q15, .inl (k 0, 100, .inl (fun _ => 0)))]) ++ ([(q23, .inl (k 2, 100, .inr (.inl (fun _ => 0))))]) ++ ([(q31, .inl (k 2, 100, .inr (.inl (fun _ => 0))))]) ++ ([(q39, .inl (k 2, 100, .inr (.inl (fun _ => 0))))]) ++ ([(q47, .inl (k 1, 100, .inl (fun _ => 0)))])) := hD
  refine lv_aload_n hx hb dX2_init_52 rfl (lv_at hl 0 rfl) ?_
  refine lv_iconst (v := (nI 0)) hx hb dX2_init_53 (by decide) ?_
  refine va_put (D := D) (ci := 2) (v := .int (nI 0)) (ty := .int) (C := RX2) (T := TX2) (N := 7) hx hb hts hinW tyX2 tyX2_ok nmX2 hown hK hP hD hS 0 rfl rfl 6 (by decide) (hts _ tw_67) (fun _ h9 => h9) rfl (by decide +kernel) rfl rfl (Nat.le_of_ble_eq_true rfl) dX2_init_54 (fun H locs hP hD hS => ?_)
  have hP : va_P D vwCl (([(o0, .inr (2, [.ref q7, .ref q15, .ref q23, .ref q31, .ref q39, .ref q47, .int (nI 0)]))]) ++ ([(q7, .inl (k 0, 100, .inl (fun _ => 0)))]) ++ ([(q15, .inl (k 0, 100, .inl (fun _ => 0)))]) ++ ([(q23, .inl (k 2, 100, .inr (.inl (fun _ => 0))))]) ++ ([(q31, .inl (k 2, 100, .inr (.inl (fun _ => 0))))]) ++ ([(q39, .inl (k 2, 100, .inr (.inl (fun _ => 0))))]) ++ ([(q47, .inl (k 1, 100, .inl (fun _ => 0)))])) H := hP
  have hD : va_D A (([(o0, .inr (2, [.ref q7, .ref q15, .ref q23, .ref q31, .ref q39, .ref q47, .int (nI 0)]))]) ++ ([(q7, .inl (k 0, 100, .inl (fun _ => 0)))]) ++ ([(q15, .inl (k 0, 100, .inl (fun _ => 0)))]) ++ ([(q23, .inl (k 2, 100, .inr (.inl (fun _ => 0))))]) ++ ([(q31, .inl (k 2, 100, .inr (.inl (fun _ => 0))))]) ++ ([(q39, .inl (k 2, 100, .inr (.inl (fun _ => 0))))]) ++ ([(q47, .inl (k 1, 100, .inl (fun _ => 0)))])) := hD
  refine xx_vret (xx_at [o0, q7, q15, q23, q31, q39, q47]) hx hb hr hlocks hS hK hP hD dX2_init_57 ?_
  exact rfl
def p_C_init (o0 : Nat) : (Nat → Nat) → Prop := fun u => u 0 = o0
set_option maxHeartbeats 4000000 in
set_option maxRecDepth 100000 in
theorem c_C_init (l : Launch) (D : va_G) (k : Nat → ClassId) (o0 : Nat) : xx_Cv l yX1_init (.code yX1_init cX1_init 1 none :: xall) ({ frames := 1, cells := 3, slots := 150, locals := 20 } : Room) D vwCl (xT k) [.ref o0] ([(o0, .inr (1, [.null, .null, .null, .int (nI 0)]))]) (p_C_init o0) (fun (u : Nat → Nat) => bC k u 0 (fun _ => 0) (fun _ => 0) (fun _ => 0)) 3 150 := by
  intro sz
  refine xx_met (Qf := fun A => va_Qv (p_C_init o0) (xx_B D vwCl (xT k) A (fun (u : Nat → Nat) => bC k u 0 (fun _ => 0) (fun _ => 0) (fun _ => 0))) A) (cc := cX1_init) (maxL := 1) (ret := none) (by decide) rfl (Nat.le_of_ble_eq_true rfl) ?_
  intro p e s m below meth c A ls hx hb hr hts hown hlocks hin hml hA hS hP hD hK hN hl
  have hl : lv_has ls 1 [(0, .ref o0)] := hl
  have hown : s.vm.findClass RX1 = some m.cls := hown
  have hinW := inX1
  refine lv_aload_n hx hb dX1_init_0 rfl (lv_at hl 0 rfl) ?_
  refine W.objInit hx hb hown (hts _ tw_88) (hts _ tw_16) (hts _ tw_17) rfl (by rw [hml]; exact hl.1) rfl dX1_init_1 (Nat.le_of_ble_eq_true rfl) (Nat.le_of_ble_eq_true rfl) ?_
  refine W.eq (g2 := F0 m 4 ls []) rfl ?_
  refine lv_aload_n hx hb dX1_init_4 rfl (lv_at hl 0 rfl) ?_
  refine lv_bipush (v := (nI 50)) hx hb dX1_init_5 (by decide) ?_
  refine xx_newa (atype := .long) (a0 := (50, .inr (.inl (fun _ => 0)))) (N' := 50) (ty := .long) hx hb (hts _ tw_54) rfl 2 rfl (fun _ h => h) hK hP hD hS hA (fun _ => rfl) (by decide) (by decide) (by decide) (Nat.le_of_ble_eq_true rfl) (Nat.le_of_ble_eq_true rfl) dX1_init_7 (fun q7 H hP hD hS => ?_)
  have hP : va_P D vwCl (([(o0, .inr (1, [.null, .null, .null, .int (nI 0)]))]) ++ ([(q7, .inl (k 2, 50, .inr (.inl (fun _ => 0))))])) H := hP
  have hD : va_D A (([(o0, .inr (1, [.null, .null, .null, .int (nI 0)]))]) ++ ([(q7, .inl (k 2, 50, .inr (.inl (fun _ => 0))))])) := hD
  refine W.widen (k := 1) (n := 50) (Nat.le_of_ble_eq_true rfl) (Nat.le_of_ble_eq_true rfl) ?_
  refine va_putF (D := D) (ci := 1) (v := .ref q7) (ty := .array (.long)) (C := RX1) (T := TX1) (N := 4) hx hb hts hinW tyX1 tyX1_ok nmX1 hown hK hP hD hS 0 rfl rfl 0 (by decide) (hts _ tw_89) (fun _ h9 => h9) rfl hin rfl (by decide +kernel) rfl rfl (Nat.le_of_ble_eq_true rfl) dX1_init_9 (fun H locs hP hD hS => ?_)
  have hP : va_P D vwCl (([(o0, .inr (1, [.ref q7, .null, .null, .int (nI 0)]))]) ++ ([(q7, .inl (k 2, 50, .inr (.inl (fun _ => 0))))])) H := hP
  have hD : va_D A (([(o0, .inr (1, [.ref q7, .null, .null, .int (nI 0)]))]) ++ ([(q7, .inl (k 2, 50, .inr (.inl (fun _ => 0))))])) := hD
  refine lv_aload_n hx hb dX1_init_12 rfl (lv_at hl 0 rfl) ?_
  refine lv_bipush (v := (nI 50)) hx hb dX1_init_13 (by decide) ?_
  refine xx_newa (atype := .int) (a0 := (50, .inl (fun _ => 0))) (N' := 50) (ty := .int) hx hb (hts _ tw_52) rfl 0 rfl (fun _ h => h) hK hP hD hS hA (fun _ => rfl) (by decide) (by decide) (by decide) (Nat.le_of_ble_eq_true rfl) (Nat.le_of_ble_eq_true rfl) dX1_init_15 (fun q15 H hP hD hS => ?_)
  have hP : va_P D vwCl (([(o0, .inr (1, [.ref q7, .null, .null, .int (nI 0)]))]) ++ ([(q7, .inl (k 2, 50, .inr (.inl (fun _ => 0))))]) ++ ([(q15, .inl (k 0, 50, .inl (fun _ => 0)))])) H := hP
  have hD : va_D A (([(o0, .inr (1, [.ref q7, .null, .null, .int (nI 0)]))]) ++ ([(q7, .inl (k 2, 50, .inr (.inl (fun _ => 0))))]) ++ ([(q15, .inl (k 0, 50, .inl (fun _ => 0)))])) := hD
  refine W.widen (k := 2) (n := 100) (Nat.le_of_ble_eq_true rfl) (Nat.le_of_ble_eq_true rfl) ?_
  refine va_putF (D := D) (ci := 1) (v := .ref q15) (ty := .array (.int)) (C := RX1) (T := TX1) (N := 4) hx hb hts hinW tyX1 tyX1_ok nmX1 hown hK hP hD hS 0 rfl rfl 1 (by decide) (hts _ tw_90) (fun _ h9 => h9) rfl hin rfl (by decide +kernel) rfl rfl (Nat.le_of_ble_eq_true rfl) dX1_init_17 (fun H locs hP hD hS => ?_)
  have hP : va_P D vwCl (([(o0, .inr (1, [.ref q7, .ref q15, .null, .int (nI 0)]))]) ++ ([(q7, .inl (k 2, 50, .inr (.inl (fun _ => 0))))]) ++ ([(q15, .inl (k 0, 50, .inl (fun _ => 0)))])) H := hP
  have hD : va_D A (([(o0, .inr (1, [.ref q7, .ref q15, .null, .int (nI 0)]))]) ++ ([(q7, .inl (k 2, 50, .inr (.inl (fun _ => 0))))]) ++ ([(q15, .inl (k 0, 50, .inl (fun _ => 0)))])) := hD
  refine lv_aload_n hx hb dX1_init_20 rfl (lv_at hl 0 rfl) ?_
  refine lv_bipush (v := (nI 50)) hx hb dX1_init_21 (by decide) ?_
  refine xx_newa (atype := .int) (a0 := (50, .inl (fun _ => 0))) (N' := 50) (ty := .int) hx hb (hts _ tw_52) rfl 0 rfl (fun _ h => h) hK hP hD hS hA (fun _ => rfl) (by decide) (by decide) (by decide) (Nat.le_of_ble_eq_true rfl) (Nat.le_of_ble_eq_true rfl) dX1_init_23 (fun q23 H hP hD hS => ?_)
  have hP : va_P D vwCl (([(o0, .inr (1, [.ref q7, .ref q15, .null, .int (nI 0)]))]) ++ ([(q7, .inl (k 2, 50, .inr (.inl (fun _ => 0))))]) ++ ([(q15, .inl (k 0, 50, .inl (fun _ => 0)))]) ++ ([(q23, .inl (k 0, 50, .inl (fun _ => 0)))])) H := hP
  have hD : va_D A (([(o0, .inr (1, [.ref q7, .ref q15, .null, .int (nI 0)]))]) ++ ([(q7, .inl (k 2, 50, .inr (.inl (fun _ => 0))))]) ++ ([(q15, .inl (k 0, 50, .inl (fun _ => 0)))]) ++ ([(q23, .inl (k 0, 50, .inl (fun _ => 0)))])) := hD
  refine W.widen (k := 3) (n := 150) (Nat.le_of_ble_eq_true rfl) (Nat.le_of_ble_eq_true rfl) ?_
  refine va_putF (D := D) (ci := 1) (v := .ref q23) (ty := .array (.int)) (C := RX1) (T := TX1) (N := 4) hx hb hts hinW tyX1 tyX1_ok nmX1 hown hK hP hD hS 0 rfl rfl 2 (by decide) (hts _ tw_91) (fun _ h9 => h9) rfl hin rfl (by decide +kernel) rfl rfl (Nat.le_of_ble_eq_true rfl) dX1_init_25 (fun H locs hP hD hS => ?_)
  have hP : va_P D vwCl (([(o0, .inr (1, [.ref q7, .ref q15, .ref q23, .int (nI 0)]))]) ++ ([(q7, .inl (k 2, 50, .inr (.inl (fun _ => 0))))]) ++ ([(q15, .inl (k 0, 50, .inl (fun _ => 0)))]) ++ ([(q23, .inl (k 0, 50, .inl (fun _ => 0)))])) H := hP
  have hD : va_D A (([(o0, .inr (1, [.ref q7, .ref q15, .ref q23, .int (nI 0)]))]) ++ ([(q7, .inl (k 2, 50, .inr (.inl (fun _ => 0))))]) ++ ([(q15, .inl (k 0, 50, .inl (fun _ => 0)))]) ++ ([(q23, .inl (k 0, 50, .inl (fun _ => 0)))])) := hD
  refine lv_aload_n hx hb dX1_init_28 rfl (lv_at hl 0 rfl) ?_
  refine lv_iconst (v := (nI 0)) hx hb dX1_init_29 (by decide) ?_
  refine va_put (D := D) (ci := 1) (v := .int (nI 0)) (ty := .int) (C := RX1) (T := TX1) (N := 4) hx hb hts hinW tyX1 tyX1_ok nmX1 hown hK hP hD hS 0 rfl rfl 3 (by decide) (hts _ tw_92) (fun _ h9 => h9) rfl (by decide +kernel) rfl rfl (Nat.le_of_ble_eq_true rfl) dX1_init_30 (fun H locs hP hD hS => ?_)
  have hP : va_P D vwCl (([(o0, .inr (1, [.ref q7, .ref q15, .ref q23, .int (nI 0)]))]) ++ ([(q7, .inl (k 2, 50, .inr (.inl (fun _ => 0))))]) ++ ([(q15, .inl (k 0, 50, .inl (fun _ => 0)))]) ++ ([(q23, .inl (k 0, 50, .inl (fun _ => 0)))])) H := hP
  have hD : va_D A (([(o0, .inr (1, [.ref q7, .ref q15, .ref q23, .int (nI 0)]))]) ++ ([(q7, .inl (k 2, 50, .inr (.inl (fun _ => 0))))]) ++ ([(q15, .inl (k 0, 50, .inl (fun _ => 0)))]) ++ ([(q23, .inl (k 0, 50, .inl (fun _ => 0)))])) := hD
  refine xx_vret (xx_at [o0, q7, q15, q23]) hx hb hr hlocks hS hK hP hD dX1_init_33 ?_
  exact rfl
def p_U_init (o0 : Nat) : (Nat → Nat) → Prop := fun u => u 0 = o0
set_option maxHeartbeats 4000000 in
set_option maxRecDepth 100000 in
theorem c_U_init (l : Launch) (D : va_G) (k : Nat → ClassId) (o0 : Nat) : xx_Cv l yX3_init (.code yX3_init cX3_init 1 none :: xall) ({ frames := 1, cells := 4, slots := 80, locals := 20 } : Room) D vwCl (xT k) [.ref o0] ([(o0, .inr (3, [.null, .null, .null, .null, .int (nI 0)]))]) (p_U_init o0) (fun (u : Nat → Nat) => bU k u 0 (fun _ => 0) (fun _ => 0) (fun _ => 0) (fun _ => 0)) 4 80 := by
  intro sz
  refine xx_met (Qf := fun A => va_Qv (p_U_init o0) (xx_B D vwCl (xT k) A (fun (u : Nat → Nat) => bU k u 0 (fun _ => 0) (fun _ => 0) (fun _ => 0) (fun _ => 0))) A) (cc := cX3_init) (maxL := 1) (ret := none) (by decide) rfl (Nat.le_of_ble_eq_true rfl) ?_
  intro p e s m below meth c A ls hx hb hr hts hown hlocks hin hml hA hS hP hD hK hN hl
  have hl : lv_has ls 1 [(0, .ref o0)] := hl
  have hown : s.vm.findClass RX3 = some m.cls := hown
  have hinW := inX3
  refine lv_aload_n hx hb dX3_init_0 rfl (lv_at hl 0 rfl) ?_
  refine W.objInit hx hb hown (hts _ tw_107) (hts _ tw_16) (hts _ tw_17) rfl (by rw [hml]; exact hl.1) rfl dX3_init_1 (Nat.le_of_ble_eq_true rfl) (Nat.le_of_ble_eq_true rfl) ?_
  refine W.eq (g2 := F0 m 4 ls []) rfl ?_
  refine lv_aload_n hx hb dX3_init_4 rfl (lv_at hl 0 rfl) ?_
  refine lv_bipush (v := (nI 20)) hx hb dX3_init_5 (by decide) ?_
  refine xx_newa (atype := .int) (a0 := (20, .inl (fun _ => 0))) (N' := 20) (ty := .int) hx hb (hts _ tw_52) rfl 0 rfl (fun _ h => h) hK hP hD hS hA (fun _ => rfl) (by decide) (by decide) (by decide) (Nat.le_of_ble_eq_true rfl) (Nat.le_of_ble_eq_true rfl) dX3_init_7 (fun q7 H hP hD hS => ?_)
  have hP : va_P D vwCl (([(o0, .inr (3, [.null, .null, .null, .null, .int (nI 0)]))]) ++ ([(q7, .inl (k 0, 20, .inl (fun _ => 0)))])) H := hP
  have hD : va_D A (([(o0, .inr (3, [.null, .null, .null, .null, .int (nI 0)]))]) ++ ([(q7, .inl (k 0, 20, .inl (fun _ => 0)))])) := hD
  refine W.widen (k := 1) (n := 20) (Nat.le_of_ble_eq_true rfl) (Nat.le_of_ble_eq_true rfl) ?_
  refine va_putF (D := D) (ci := 3) (v := .ref q7) (ty := .array (.int)) (C := RX3) (T := TX3) (N := 5) hx hb hts hinW tyX3 tyX3_ok nmX3 hown hK hP hD hS 0 rfl rfl 0 (by decide) (hts _ tw_108) (fun _ h9 => h9) rfl hin rfl (by decide +kernel) rfl rfl (Nat.le_of_ble_eq_true rfl) dX3_init_9 (fun H locs hP hD hS => ?_)
  have hP : va_P D vwCl (([(o0, .inr (3, [.ref q7, .null, .null, .null, .int (nI 0)]))]) ++ ([(q7, .inl (k 0, 20, .inl (fun _ => 0)))])) H := hP
  have hD : va_D A (([(o0, .inr (3, [.ref q7, .null, .null, .null, .int (nI 0)]))]) ++ ([(q7, .inl (k 0, 20, .inl (fun _ => 0)))])) := hD
  refine lv_aload_n hx hb dX3_init_12 rfl (lv_at hl 0 rfl) ?_
  refine lv_bipush (v := (nI 20)) hx hb dX3_init_13 (by decide) ?_
  refine xx_newa (atype := .int) (a0 := (20, .inl (fun _ => 0))) (N' := 20) (ty := .int) hx hb (hts _ tw_52) rfl 0 rfl (fun _ h => h) hK hP hD hS hA (fun _ => rfl) (by decide) (by decide) (by decide) (Nat.le_of_ble_eq_true rfl) (Nat.le_of_ble_eq_true rfl) dX3_init_15 (fun q15 H hP hD hS => ?_)
  have hP : va_P D vwCl (([(o0, .inr (3, [.ref q7, .null, .null, .null, .int (nI 0)]))]) ++ ([(q7, .inl (k 0, 20, .inl (fun _ => 0)))]) ++ ([(q15, .inl (k 0, 20, .inl (fun _ => 0)))])) H := hP
  have hD : va_D A (([(o0, .inr (3, [.ref q7, .null, .null, .null, .int (nI 0)]))]) ++ ([(q7, .inl (k 0, 20, .inl (fun _ => 0)))]) ++ ([(q15, .inl (k 0, 20, .inl (fun _ => 0)))])) := hD
  refine W.widen (k := 2) (n := 40) (Nat.le_of_ble_eq_true rfl) (Nat.le_of_ble_eq_true rfl) ?_
  refine va_putF (D := D) (ci := 3) (v := .ref q15) (ty := .array (.int)) (C := RX3) (T := TX3) (N := 5) hx hb hts hinW tyX3 tyX3_ok nmX3 hown hK hP hD hS 0 rfl rfl 1 (by decide) (hts _ tw_109) (fun _ h9 => h9) rfl hin rfl (by decide +kernel) rfl rfl (Nat.le_of_ble_eq_true rfl) dX3_init_17 (fun H locs hP hD hS => ?_)
  have hP : va_P D vwCl (([(o0, .inr (3, [.ref q7, .ref q15, .null, .null, .int (nI 0)]))]) ++ ([(q7, .inl (k 0, 20, .inl (fun _ => 0)))]) ++ ([(q15, .inl (k 0, 20, .inl (fun _ => 0)))])) H := hP
  have hD : va_D A (([(o0, .inr (3, [.ref q7, .ref q15, .null, .null, .int (nI 0)]))]) ++ ([(q7, .inl (k 0, 20, .inl (fun _ => 0)))]) ++ ([(q15, .inl (k 0, 20, .inl (fun _ => 0)))])) := hD
  refine lv_aload_n hx hb dX3_init_20 rfl (lv_at hl 0 rfl) ?_
  refine lv_bipush (v := (nI 20)) hx hb dX3_init_21 (by decide) ?_
  refine xx_newa (atype := .int) (a0 := (20, .inl (fun _ => 0))) (N' := 20) (ty := .int) hx hb (hts _ tw_52) rfl 0 rfl (fun _ h => h) hK hP hD hS hA (fun _ => rfl) (by decide) (by decide) (by decide) (Nat.le_of_ble_eq_true rfl) (Nat.le_of_ble_eq_true rfl) dX3_init_23 (fun q23 H hP hD hS => ?_)
  have hP : va_P D vwCl (([(o0, .inr (3, [.ref q7, .ref q15, .null, .null, .int (nI 0)]))]) ++ ([(q7, .inl (k 0, 20, .inl (fun _ => 0)))]) ++ ([(q15, .inl (k 0, 20, .inl (fun _ => 0)))]) ++ ([(q23, .inl (k 0, 20, .inl (fun _ => 0)))])) H := hP
  have hD : va_D A (([(o0, .inr (3, [.ref q7, .ref q15, .null, .null, .int (nI 0)]))]) ++ ([(q7, .inl (k 0, 20, .inl (fun _ => 0)))]) ++ ([(q15, .inl (k 0, 20, .inl (fun _ => 0)))]) ++ ([(q23, .inl (k 0, 20, .inl (fun _ => 0)))])) := hD
  refine W.widen (k := 3) (n := 60) (Nat.le_of_ble_eq_true rfl) (Nat.le_of_ble_eq_true rfl) ?_
  refine va_putF (D := D) (ci := 3) (v := .ref q23) (ty := .array (.int)) (C := RX3) (T := TX3) (N := 5) hx hb hts hinW tyX3 tyX3_ok nmX3 hown hK hP hD hS 0 rfl rfl 2 (by decide) (hts _ tw_110) (fun _ h9 => h9) rfl hin rfl (by decide +kernel) rfl rfl (Nat.le_of_ble_eq_true rfl) dX3_init_25 (fun H locs hP hD hS => ?_)
  have hP : va_P D vwCl (([(o0, .inr (3, [.ref q7, .ref q15, .ref q23, .null, .int (nI 0)]))]) ++ ([(q7, .inl (k 0, 20, .inl (fun _ => 0)))]) ++ ([(q15, .inl (k 0, 20, .inl (fun _ => 0)))]) ++ ([(q23, .inl (k 0, 20, .inl (fun _ => 0)))])) H := hP
  have hD : va_D A (([(o0, .inr (3, [.ref q7, .ref q15, .ref q23, .null, .int (nI 0)]))]) ++ ([(q7, .inl (k 0, 20, .inl (fun _ => 0)))]) ++ ([(q15, .inl (k 0, 20, .inl (fun _ => 0)))]) ++ ([(q23, .inl (k 0, 20, .inl (fun _ => 0)))])) := hD
  refine lv_aload_n hx hb dX3_init_28 rfl (lv_at hl 0 rfl) ?_
  refine lv_bipush (v := (nI 20)) hx hb dX3_init_29 (by decide) ?_
  refine xx_newa (atype := .int) (a0 := (20, .inl (fun _ => 0))) (N' := 20) (ty := .int) hx hb (hts _ tw_52) rfl 0 rfl (fun _ h => h) hK hP hD hS hA (fun _ => rfl) (by decide) (by decide) (by decide) (Nat.le_of_ble_eq_true rfl) (Nat.le_of_ble_eq_true rfl) dX3_init_31 (fun q31 H hP hD hS => ?_)
  have hP : va_P D vwCl (([(o0, .inr (3, [.ref q7, .ref q15, .ref q23, .null, .int (nI 0)]))]) ++ ([(q7, .inl (k 0, 20, .inl (fun _ => 0)))]) ++ ([(q15, .inl (k 0, 20, .inl (fun _ => 0)))]) ++ ([(q23, .inl (k 0, 20, .inl (fun _ => 0)))]) ++ ([(q31, .inl (k 0, 20, .inl (fun _ => 0)))])) H := hP
  have hD : va_D A (([(o0, .inr (3, [.ref q7, .ref q15, .ref q23, .null, .int (nI 0)]))]) ++ ([(q7, .inl (k 0, 20, .inl (fun _ => 0)))]) ++ ([(q15, .inl (k 0, 20, .inl (fun _ => 0)))]) ++ ([(q23, .inl (k 0, 20, .inl (fun _ => 0)))]) ++ ([(q31, .inl (k 0, 20, .inl (fun _ => 0)))])) := hD
  refine W.widen (k := 4) (n := 80) (Nat.le_of_ble_eq_true rfl) (Nat.le_of_ble_eq_true rfl) ?_
  refine va_putF (D := D) (ci := 3) (v := .ref q31) (ty := .array (.int)) (C := RX3) (T := TX3) (N := 5) hx hb hts hinW tyX3 tyX3_ok nmX3 hown hK hP hD hS 0 rfl rfl 3 (by decide) (hts _ tw_111) (fun _ h9 => h9) rfl hin rfl (by decide +kernel) rfl rfl (Nat.le_of_ble_eq_true rfl) dX3_init_33 (fun H locs hP hD hS => ?_)
  have hP : va_P D vwCl (([(o0, .inr (3, [.ref q7, .ref q15, .ref q23, .ref q31, .int (nI 0)]))]) ++ ([(q7, .inl (k 0, 20, .inl (fun _ => 0)))]) ++ ([(q15, .inl (k 0, 20, .inl (fun _ => 0)))]) ++ ([(q23, .inl (k 0, 20, .inl (fun _ => 0)))]) ++ ([(q31, .inl (k 0, 20, .inl (fun _ => 0)))])) H := hP
  have hD : va_D A (([(o0, .inr (3, [.ref q7, .ref q15, .ref q23, .ref q31, .int (nI 0)]))]) ++ ([(q7, .inl (k 0, 20, .inl (fun _ => 0)))]) ++ ([(q15, .inl (k 0, 20, .inl (fun _ => 0)))]) ++ ([(q23, .inl (k 0, 20, .inl (fun _ => 0)))]) ++ ([(q31, .inl (k 0, 20, .inl (fun _ => 0)))])) := hD
  refine lv_aload_n hx hb dX3_init_36 rfl (lv_at hl 0 rfl) ?_
  refine lv_iconst (v := (nI 0)) hx hb dX3_init_37 (by decide) ?_
  refine va_put (D := D) (ci := 3) (v := .int (nI 0)) (ty := .int) (C := RX3) (T := TX3) (N := 5) hx hb hts hinW tyX3 tyX3_ok nmX3 hown hK hP hD hS 0 rfl rfl 4 (by decide) (hts _ tw_112) (fun _ h9 => h9) rfl (by decide +kernel) rfl rfl (Nat.le_of_ble_eq_true rfl) dX3_init_38 (fun H locs hP hD hS => ?_)
  have hP : va_P D vwCl (([(o0, .inr (3, [.ref q7, .ref q15, .ref q23, .ref q31, .int (nI 0)]))]) ++ ([(q7, .inl (k 0, 20, .inl (fun _ => 0)))]) ++ ([(q15, .inl (k 0, 20, .inl (fun _ => 0)))]) ++ ([(q23, .inl (k 0, 20, .inl (fun _ => 0)))]) ++ ([(q31, .inl (k 0, 20, .inl (fun _ => 0)))])) H := hP
  have hD : va_D A (([(o0, .inr (3, [.ref q7, .ref q15, .ref q23, .ref q31, .int (nI 0)]))]) ++ ([(q7, .inl (k 0, 20, .inl (fun _ => 0)))]) ++ ([(q15, .inl (k 0, 20, .inl (fun _ => 0)))]) ++ ([(q23, .inl (k 0, 20, .inl (fun _ => 0)))]) ++ ([(q31, .inl (k 0, 20, .inl (fun _ => 0)))])) := hD
  refine xx_vret (xx_at [o0, q7, q15, q23, q31]) hx hb hr hlocks hS hK hP hD dX3_init_41 ?_
  exact rfl
def p_A_init (o0 : Nat) : (Nat → Nat) → Prop := fun u => u 0 = o0
set_option maxHeartbeats 4000000 in
set_option maxRecDepth 100000 in
theorem c_A_init (l : Launch) (D : va_G) (k : Nat → ClassId) (o0 : Nat) : xx_Cv l yX0_init (.code yX0_init cX0_init 1 none :: xall) ({ frames := 1, cells := 1, slots := 1000, locals := 20 } : Room) D vwCl (xT k) [.ref o0] ([(o0, .inr (0, [.null, .int (nI 0)]))]) (p_A_init o0) (fun (u : Nat → Nat) => bA k u 0 (fun _ => 0)) 1 1000 := by
  intro sz
  refine xx_met (Qf := fun A => va_Qv (p_A_init o0) (xx_B D vwCl (xT k) A (fun (u : Nat → Nat) => bA k u 0 (fun _ => 0))) A) (cc := cX0_init) (maxL := 1) (ret := none) (by decide) rfl (Nat.le_of_ble_eq_true rfl) ?_
  intro p e s m below meth c A ls hx hb hr hts hown hlocks hin hml hA hS hP hD hK hN hl
  have hl : lv_has ls 1 [(0, .ref o0)] := hl
  have hown : s.vm.findClass RX0 = some m.cls := hown
  have hinW := inX0
  refine lv_aload_n hx hb dX0_init_0 rfl (lv_at hl 0 rfl) ?_
  refine W.objInit hx hb hown (hts _ tw_129) (hts _ tw_16) (hts _ tw_17) rfl (by rw [hml]; exact hl.1) rfl dX0_init_1 (Nat.le_of_ble_eq_true rfl) (Nat.le_of_ble_eq_true rfl) ?_
  refine W.eq (g2 := F0 m 4 ls []) rfl ?_
  refine lv_aload_n hx hb dX0_init_4 rfl (lv_at hl 0 rfl) ?_
  refine lv_sipush (v := (nI 1000)) hx hb dX0_init_5 (by decide) ?_
  refine xx_newa (atype := .int) (a0 := (1000, .inl (fun _ => 0))) (N' := 1000) (ty := .int) hx hb (hts _ tw_52) rfl 0 rfl (fun _ h => h) hK hP hD hS hA (fun _ => rfl) (by decide) (by decide) (by decide) (Nat.le_of_ble_eq_true rfl) (Nat.le_of_ble_eq_true rfl) dX0_init_8 (fun q8 H hP hD hS => ?_)
  have hP : va_P D vwCl (([(o0, .inr (0, [.null, .int (nI 0)]))]) ++ ([(q8, .inl (k 0, 1000, .inl (fun _ => 0)))])) H := hP
  have hD : va_D A (([(o0, .inr (0, [.null, .int (nI 0)]))]) ++ ([(q8, .inl (k 0, 1000, .inl (fun _ => 0)))])) := hD
  refine W.widen (k := 1) (n := 1000) (Nat.le_of_ble_eq_true rfl) (Nat.le_of_ble_eq_true rfl) ?_
  refine va_putF (D := D) (ci := 0) (v := .ref q8) (ty := .array (.int)) (C := RX0) (T := TX0) (N := 2) hx hb hts hinW tyX0 tyX0_ok nmX0 hown hK hP hD hS 0 rfl rfl 0 (by decide) (hts _ tw_130) (fun _ h9 => h9) rfl hin rfl (by decide +kernel) rfl rfl (Nat.le_of_ble_eq_true rfl) dX0_init_10 (fun H locs hP hD hS => ?_)
  have hP : va_P D vwCl (([(o0, .inr (0, [.ref q8, .int (nI 0)]))]) ++ ([(q8, .inl (k 0, 1000, .inl (fun _ => 0)))])) H := hP
  have hD : va_D A (([(o0, .inr (0, [.ref q8, .int (nI 0)]))]) ++ ([(q8, .inl (k 0, 1000, .inl (fun _ => 0)))])) := hD
  refine lv_aload_n hx hb dX0_init_13 rfl (lv_at hl 0 rfl) ?_
  refine lv_iconst (v := (nI 0)) hx hb dX0_init_14 (by decide) ?_
  refine va_put (D := D) (ci := 0) (v := .int (nI 0)) (ty := .int) (C := RX0) (T := TX0) (N := 2) hx hb hts hinW tyX0 tyX0_ok nmX0 hown hK hP hD hS 0 rfl rfl 1 (by decide) (hts _ tw_131) (fun _ h9 => h9) rfl (by decide +kernel) rfl rfl (Nat.le_of_ble_eq_true rfl) dX0_init_15 (fun H locs hP hD hS => ?_)
  have hP : va_P D vwCl (([(o0, .inr (0, [.ref q8, .int (nI 0)]))]) ++ ([(q8, .inl (k 0, 1000, .inl (fun _ => 0)))])) H := hP
  have hD : va_D A (([(o0, .inr (0, [.ref q8, .int (nI 0)]))]) ++ ([(q8, .inl (k 0, 1000, .inl (fun _ => 0)))])) := hD
  refine xx_vret (xx_at [o0, q8]) hx hb hr hlocks hS hK hP hD dX0_init_18 ?_
  exact rfl
end
section
theorem dX5_init_0 : decode cX5_init 0 = .ok (.aload_n 0, 1) := by decide +kernel
theorem dX5_init_1 : decode cX5_init 1 = .ok (.invokespecial 3, 3) := by decide +kernel
theorem dX5_init_4 : decode cX5_init 4 = .ok (.aload_n 0, 1) := by decide +kernel
theorem dX5_init_5 : decode cX5_init 5 = .ok (.iconst 1, 1) := by decide +kernel
theorem dX5_init_6 : decode cX5_init 6 = .ok (.iconst 5, 1) := by decide +kernel
theorem dX5_init_7 : decode cX5_init 7 = .ok (.iload_n 1, 1) := by decide +kernel
theorem dX5_init_8 : decode cX5_init 8 = .ok (.invokestatic 9, 3) := by decide +kernel
theorem dX5_init_11 : decode cX5_init 11 = .ok (.invokestatic 15, 3) := by decide +kernel
theorem dX5_init_14 : decode cX5_init 14 = .ok (.putfield 18, 3) := by decide +kernel
theorem dX5_init_17 : decode cX5_init 17 = .ok (.aload_n 0, 1) := by decide +kernel
theorem dX5_init_18 : decode cX5_init 18 = .ok (.new 22, 3) := by decide +kernel
theorem dX5_init_21 : decode cX5_init 21 = .ok (.dup, 1) := by decide +kernel
theorem dX5_init_22 : decode cX5_init 22 = .ok (.invokespecial 24, 3) := by decide +kernel
theorem dX5_init_25 : decode cX5_init 25 = .ok (.putfield 25, 3) := by decide +kernel
theorem dX5_init_28 : decode cX5_init 28 = .ok (.aload_n 0, 1) := by decide +kernel
theorem dX5_init_29 : decode cX5_init 29 = .ok (.new 29, 3) := by decide +kernel
theorem dX5_init_32 : decode cX5_init 32 = .ok (.dup, 1) := by decide +kernel
theorem dX5_init_33 : decode cX5_init 33 = .ok (.invokespecial 31, 3) := by decide +kernel
theorem dX5_init_36 : decode cX5_init 36 = .ok (.putfield 32, 3) := by decide +kernel
theorem dX5_init_39 : decode cX5_init 39 = .ok (.aload_n 0, 1) := by decide +kernel
theorem dX5_init_40 : decode cX5_init 40 = .ok (.new 36, 3) := by decide +kernel
theorem dX5_init_43 : decode cX5_init 43 = .ok (.dup, 1) := by decide +kernel
theorem dX5_init_44 : decode cX5_init 44 = .ok (.invokespecial 38, 3) := by decide +kernel
theorem dX5_init_47 : decode cX5_init 47 = .ok (.putfield 39, 3) := by decide +kernel
theorem dX5_init_50 : decode cX5_init 50 = .ok (.aload_n 0, 1) := by decide +kernel
theorem dX5_init_51 : decode cX5_init 51 = .ok (.new 43, 3) := by decide +kernel
theorem dX5_init_54 : decode cX5_init 54 = .ok (.dup, 1) := by decide +kernel
theorem dX5_init_55 : decode cX5_init 55 = .ok (.invokespecial 45, 3) := by decide +kernel
theorem dX5_init_58 : decode cX5_init 58 = .ok (.putfield 46, 3) := by decide +kernel
theorem dX5_init_61 : decode cX5_init 61 = .ok (.aload_n 0, 1) := by decide +kernel
theorem dX5_init_62 : decode cX5_init 62 = .ok (.new 50, 3) := by decide +kernel
theorem dX5_init_65 : decode cX5_init 65 = .ok (.dup, 1) := by decide +kernel
theorem dX5_init_66 : decode cX5_init 66 = .ok (.invokespecial 52, 3) := by decide +kernel
theorem dX5_init_69 : decode cX5_init 69 = .ok (.putfield 53, 3) := by decide +kernel
theorem dX5_init_72 : decode cX5_init 72 = .ok (.aload_n 0, 1) := by decide +kernel
theorem dX5_init_73 : decode cX5_init 73 = .ok (.iconst 0, 1) := by decide +kernel
theorem dX5_init_74 : decode cX5_init 74 = .ok (.putfield 57, 3) := by decide +kernel
theorem dX5_init_77 : decode cX5_init 77 = .ok (.aload_n 0, 1) := by decide +kernel
theorem dX5_init_78 : decode cX5_init 78 = .ok (.lconst 0, 1) := by decide +kernel
theorem dX5_init_79 : decode cX5_init 79 = .ok (.putfield 61, 3) := by decide +kernel
theorem dX5_init_82 : decode cX5_init 82 = .ok (.return_, 1) := by decide +kernel
theorem dX5_writer_0 : decode cX5_writer 0 = .ok (.aload_n 0, 1) := by decide +kernel
theorem dX5_writer_1 : decode cX5_writer 1 = .ok (.getfield 25, 3) := by decide +kernel
theorem dX5_writer_4 : decode cX5_writer 4 = .ok (.iload_n 1, 1) := by decide +kernel
theorem dX5_writer_5 : decode cX5_writer 5 = .ok (.invokevirtual 65, 3) := by decide +kernel
theorem dX5_writer_8 : decode cX5_writer 8 = .ok (.ireturn, 1) := by decide +kernel
theorem dX5_key_0 : decode cX5_key 0 = .ok (.aload_n 0, 1) := by decide +kernel
theorem dX5_key_1 : decode cX5_key 1 = .ok (.getfield 25, 3) := by decide +kernel
theorem dX5_key_4 : decode cX5_key 4 = .ok (.iload_n 1, 1) := by decide +kernel
theorem dX5_key_5 : decode cX5_key 5 = .ok (.lload_n 2, 1) := by decide +kernel
theorem dX5_key_6 : decode cX5_key 6 = .ok (.lload 4, 2) := by decide +kernel
theorem dX5_key_8 : decode cX5_key 8 = .ok (.lload 6, 2) := by decide +kernel
theorem dX5_key_10 : decode cX5_key 10 = .ok (.invokevirtual 69, 3) := by decide +kernel
theorem dX5_key_13 : decode cX5_key 13 = .ok (.ireturn, 1) := by decide +kernel
theorem dX5_rule_0 : decode cX5_rule 0 = .ok (.aload_n 0, 1) := by decide +kernel
theorem dX5_rule_1 : decode cX5_rule 1 = .ok (.getfield 46, 3) := by decide +kernel
theorem dX5_rule_4 : decode cX5_rule 4 = .ok (.iload_n 1, 1) := by decide +kernel
theorem dX5_rule_5 : decode cX5_rule 5 = .ok (.iload_n 2, 1) := by decide +kernel
theorem dX5_rule_6 : decode cX5_rule 6 = .ok (.iload_n 3, 1) := by decide +kernel
theorem dX5_rule_7 : decode cX5_rule 7 = .ok (.iload 4, 2) := by decide +kernel
theorem dX5_rule_9 : decode cX5_rule 9 = .ok (.invokevirtual 109, 3) := by decide +kernel
theorem dX5_rule_12 : decode cX5_rule 12 = .ok (.ireturn, 1) := by decide +kernel
theorem dX5_clash_0 : decode cX5_clash 0 = .ok (.aload_n 0, 1) := by decide +kernel
theorem dX5_clash_1 : decode cX5_clash 1 = .ok (.getfield 39, 3) := by decide +kernel
theorem dX5_clash_4 : decode cX5_clash 4 = .ok (.iload_n 1, 1) := by decide +kernel
theorem dX5_clash_5 : decode cX5_clash 5 = .ok (.iload_n 2, 1) := by decide +kernel
theorem dX5_clash_6 : decode cX5_clash 6 = .ok (.invokevirtual 148, 3) := by decide +kernel
theorem dX5_clash_9 : decode cX5_clash 9 = .ok (.ireturn, 1) := by decide +kernel
theorem dX5_audit_0 : decode cX5_audit 0 = .ok (.aload_n 0, 1) := by decide +kernel
theorem dX5_audit_1 : decode cX5_audit 1 = .ok (.getfield 53, 3) := by decide +kernel
theorem dX5_audit_4 : decode cX5_audit 4 = .ok (.iload_n 1, 1) := by decide +kernel
theorem dX5_audit_5 : decode cX5_audit 5 = .ok (.iload_n 2, 1) := by decide +kernel
theorem dX5_audit_6 : decode cX5_audit 6 = .ok (.invokevirtual 151, 3) := by decide +kernel
theorem dX5_audit_9 : decode cX5_audit 9 = .ok (.ireturn, 1) := by decide +kernel
theorem dX5_sum_0 : decode cX5_sum 0 = .ok (.lload_n 1, 1) := by decide +kernel
theorem dX5_sum_1 : decode cX5_sum 1 = .ok (.lload_n 3, 1) := by decide +kernel
theorem dX5_sum_2 : decode cX5_sum 2 = .ok (.lload 5, 2) := by decide +kernel
theorem dX5_sum_4 : decode cX5_sum 4 = .ok (.invokestatic 73, 3) := by decide +kernel
theorem dX5_sum_7 : decode cX5_sum 7 = .ok (.lreturn, 1) := by decide +kernel
theorem dX5_stands_0 : decode cX5_stands 0 = .ok (.aload_n 0, 1) := by decide +kernel
theorem dX5_stands_1 : decode cX5_stands 1 = .ok (.getfield 32, 3) := by decide +kernel
theorem dX5_stands_4 : decode cX5_stands 4 = .ok (.iload_n 1, 1) := by decide +kernel
theorem dX5_stands_5 : decode cX5_stands 5 = .ok (.invokevirtual 99, 3) := by decide +kernel
theorem dX5_stands_8 : decode cX5_stands 8 = .ok (.ireturn, 1) := by decide +kernel
theorem dX5_own_0 : decode cX5_own 0 = .ok (.aload_n 0, 1) := by decide +kernel
theorem dX5_own_1 : decode cX5_own 1 = .ok (.iload_n 1, 1) := by decide +kernel
theorem dX5_own_2 : decode cX5_own 2 = .ok (.putfield 57, 3) := by decide +kernel
theorem dX5_own_5 : decode cX5_own 5 = .ok (.return_, 1) := by decide +kernel
theorem dX5_taken_0 : decode cX5_taken 0 = .ok (.aload_n 0, 1) := by decide +kernel
theorem dX5_taken_1 : decode cX5_taken 1 = .ok (.getfield 61, 3) := by decide +kernel
theorem dX5_taken_4 : decode cX5_taken 4 = .ok (.lreturn, 1) := by decide +kernel
theorem dX5_ruleFor_0 : decode cX5_ruleFor 0 = .ok (.iload_n 1, 1) := by decide +kernel
theorem dX5_ruleFor_1 : decode cX5_ruleFor 1 = .ok (.invokestatic 112, 3) := by decide +kernel
theorem dX5_ruleFor_4 : decode cX5_ruleFor 4 = .ok (.ifCond .eq 10, 3) := by decide +kernel
theorem dX5_ruleFor_7 : decode cX5_ruleFor 7 = .ok (.iload_n 2, 1) := by decide +kernel
theorem dX5_ruleFor_8 : decode cX5_ruleFor 8 = .ok (.invokestatic 112, 3) := by decide +kernel
theorem dX5_ruleFor_11 : decode cX5_ruleFor 11 = .ok (.ifCond .ne 5, 3) := by decide +kernel
theorem dX5_ruleFor_14 : decode cX5_ruleFor 14 = .ok (.iconst (-1), 1) := by decide +kernel
theorem dX5_ruleFor_15 : decode cX5_ruleFor 15 = .ok (.ireturn, 1) := by decide +kernel
theorem dX5_ruleFor_16 : decode cX5_ruleFor 16 = .ok (.aload_n 0, 1) := by decide +kernel
theorem dX5_ruleFor_17 : decode cX5_ruleFor 17 = .ok (.getfield 46, 3) := by decide +kernel
theorem dX5_ruleFor_20 : decode cX5_ruleFor 20 = .ok (.iload_n 1, 1) := by decide +kernel
theorem dX5_ruleFor_21 : decode cX5_ruleFor 21 = .ok (.iload_n 2, 1) := by decide +kernel
theorem dX5_ruleFor_22 : decode cX5_ruleFor 22 = .ok (.invokevirtual 115, 3) := by decide +kernel
theorem dX5_ruleFor_25 : decode cX5_ruleFor 25 = .ok (.ireturn, 1) := by decide +kernel
theorem dX5_bar_0 : decode cX5_bar 0 = .ok (.aload_n 0, 1) := by decide +kernel
theorem dX5_bar_1 : decode cX5_bar 1 = .ok (.getfield 25, 3) := by decide +kernel
theorem dX5_bar_4 : decode cX5_bar 4 = .ok (.iload_n 1, 1) := by decide +kernel
theorem dX5_bar_5 : decode cX5_bar 5 = .ok (.invokevirtual 77, 3) := by decide +kernel
theorem dX5_bar_8 : decode cX5_bar 8 = .ok (.ifCond .ne 5, 3) := by decide +kernel
theorem dX5_bar_11 : decode cX5_bar 11 = .ok (.iconst (-1), 1) := by decide +kernel
theorem dX5_bar_12 : decode cX5_bar 12 = .ok (.ireturn, 1) := by decide +kernel
theorem dX5_bar_13 : decode cX5_bar 13 = .ok (.aload_n 0, 1) := by decide +kernel
theorem dX5_bar_14 : decode cX5_bar 14 = .ok (.getfield 25, 3) := by decide +kernel
theorem dX5_bar_17 : decode cX5_bar 17 = .ok (.iload_n 1, 1) := by decide +kernel
theorem dX5_bar_18 : decode cX5_bar 18 = .ok (.invokevirtual 102, 3) := by decide +kernel
theorem dX5_bar_21 : decode cX5_bar 21 = .ok (.aload_n 0, 1) := by decide +kernel
theorem dX5_bar_22 : decode cX5_bar 22 = .ok (.getfield 32, 3) := by decide +kernel
theorem dX5_bar_25 : decode cX5_bar 25 = .ok (.iload_n 1, 1) := by decide +kernel
theorem dX5_bar_26 : decode cX5_bar 26 = .ok (.invokevirtual 106, 3) := by decide +kernel
theorem dX5_bar_29 : decode cX5_bar 29 = .ok (.ireturn, 1) := by decide +kernel
theorem dX5_noteClash_0 : decode cX5_noteClash 0 = .ok (.aload_n 0, 1) := by decide +kernel
theorem dX5_noteClash_1 : decode cX5_noteClash 1 = .ok (.getfield 39, 3) := by decide +kernel
theorem dX5_noteClash_4 : decode cX5_noteClash 4 = .ok (.lload_n 2, 1) := by decide +kernel
theorem dX5_noteClash_5 : decode cX5_noteClash 5 = .ok (.invokevirtual 129, 3) := by decide +kernel
theorem dX5_noteClash_8 : decode cX5_noteClash 8 = .ok (.ifCond .eq 4, 3) := by decide +kernel
theorem dX5_noteClash_11 : decode cX5_noteClash 11 = .ok (.return_, 1) := by decide +kernel
theorem dX5_noteClash_12 : decode cX5_noteClash 12 = .ok (.aload_n 0, 1) := by decide +kernel
theorem dX5_noteClash_13 : decode cX5_noteClash 13 = .ok (.getfield 32, 3) := by decide +kernel
theorem dX5_noteClash_16 : decode cX5_noteClash 16 = .ok (.iload_n 1, 1) := by decide +kernel
theorem dX5_noteClash_17 : decode cX5_noteClash 17 = .ok (.invokevirtual 154, 3) := by decide +kernel
theorem dX5_noteClash_20 : decode cX5_noteClash 20 = .ok (.istore 4, 2) := by decide +kernel
theorem dX5_noteClash_22 : decode cX5_noteClash 22 = .ok (.iload 4, 2) := by decide +kernel
theorem dX5_noteClash_24 : decode cX5_noteClash 24 = .ok (.iconst (-1), 1) := by decide +kernel
theorem dX5_noteClash_25 : decode cX5_noteClash 25 = .ok (.if_icmp .eq 14, 3) := by decide +kernel
theorem dX5_noteClash_28 : decode cX5_noteClash 28 = .ok (.aload_n 0, 1) := by decide +kernel
theorem dX5_noteClash_29 : decode cX5_noteClash 29 = .ok (.getfield 39, 3) := by decide +kernel
theorem dX5_noteClash_32 : decode cX5_noteClash 32 = .ok (.lload_n 2, 1) := by decide +kernel
theorem dX5_noteClash_33 : decode cX5_noteClash 33 = .ok (.iload 4, 2) := by decide +kernel
theorem dX5_noteClash_35 : decode cX5_noteClash 35 = .ok (.iload_n 1, 1) := by decide +kernel
theorem dX5_noteClash_36 : decode cX5_noteClash 36 = .ok (.invokevirtual 157, 3) := by decide +kernel
theorem dX5_noteClash_39 : decode cX5_noteClash 39 = .ok (.return_, 1) := by decide +kernel
def p_T_init (ot : Nat) (x : Int32) : ((Nat → Nat) × (Nat → Nat) × (Nat → Nat) × (Nat → Nat) × (Nat → Nat)) → Prop := fun u => True
set_option maxHeartbeats 4000000 in
set_option maxRecDepth 100000 in
theorem c_T_init (l : Launch) (D : va_G) (k : Nat → ClassId) (ot : Nat) (x : Int32) : xx_Cv l yX5_init (.code yX5_init cX5_init 2 none :: xall) ({ frames := 2, cells := 25, slots := 2035, locals := 40 } : Room) D vwCl (xT k) [.ref ot, .int x] ([(ot, .inr (5, [.int (nI 0), .null, .null, .null, .null, .null, .int (bI false), .long 0]))]) (p_T_init ot x) (fun (u : (Nat → Nat) × (Nat → Nat) × (Nat → Nat) × (Nat → Nat) × (Nat → Nat)) => (bT k ot (xs_clamp x) u.1 u.2.1 u.2.2.1 u.2.2.2.1 u.2.2.2.2 false 0) ++ (bW k u.1 0 (fun _ => 0) (fun _ => false) (fun _ => 0) (fun _ => 0) (fun _ => 0) (fun _ => 0)) ++ (bE k u.2.1 0 (fun _ => 0) (fun _ => 0) (fun _ => 0) (fun _ => 0) (fun _ => 0) (fun _ => false)) ++ (bC k u.2.2.1 0 (fun _ => 0) (fun _ => 0) (fun _ => 0)) ++ (bU k u.2.2.2.1 0 (fun _ => 0) (fun _ => 0) (fun _ => 0) (fun _ => 0)) ++ (bA k u.2.2.2.2 0 (fun _ => 0))) 25 2035 := by
  intro sz
  refine xx_met (Qf := fun A => va_Qv (p_T_init ot x) (xx_B D vwCl (xT k) A (fun (u : (Nat → Nat) × (Nat → Nat) × (Nat → Nat) × (Nat → Nat) × (Nat → Nat)) => (bT k ot (xs_clamp x) u.1 u.2.1 u.2.2.1 u.2.2.2.1 u.2.2.2.2 false 0) ++ (bW k u.1 0 (fun _ => 0) (fun _ => false) (fun _ => 0) (fun _ => 0) (fun _ => 0) (fun _ => 0)) ++ (bE k u.2.1 0 (fun _ => 0) (fun _ => 0) (fun _ => 0) (fun _ => 0) (fun _ => 0) (fun _ => false)) ++ (bC k u.2.2.1 0 (fun _ => 0) (fun _ => 0) (fun _ => 0)) ++ (bU k u.2.2.2.1 0 (fun _ => 0) (fun _ => 0) (fun _ => 0) (fun _ => 0)) ++ (bA k u.2.2.2.2 0 (fun _ => 0)))) A) (cc := cX5_init) (maxL := 2) (ret := none) (by decide) rfl (Nat.le_of_ble_eq_true rfl) ?_
  intro p e s m below meth c A ls hx hb hr hts hown hlocks hin hml hA hS hP hD hK hN hl
  have hl : lv_has ls 2 [(0, .ref ot), (1, .int x)] := hl
  have hown : s.vm.findClass RX5 = some m.cls := hown
  have hinW := inX5
  refine lv_aload_n hx hb dX5_init_0 rfl (lv_at hl 0 rfl) ?_
  refine W.objInit hx hb hown (hts _ tw_15) (hts _ tw_16) (hts _ tw_17) rfl (by rw [hml]; exact hl.1) rfl dX5_init_1 (Nat.le_of_ble_eq_true rfl) (Nat.le_of_ble_eq_true rfl) ?_
  refine W.eq (g2 := F0 m 4 ls []) rfl ?_
  refine lv_aload_n hx hb dX5_init_4 rfl (lv_at hl 0 rfl) ?_
  refine lv_iconst (v := (nI 1)) hx hb dX5_init_5 (by decide) ?_
  refine lv_iconst (v := (nI 5)) hx hb dX5_init_6 (by decide) ?_
  refine lv_iload_n hx hb dX5_init_7 rfl (lv_at hl 1 rfl) ?_
  refine va_mmin hx hb (by rw [hml]; exact hl.1.symm) hown (hts _ tw_18) (hts _ tw_19) (hts _ tw_2) (hts _ tw_20) (Nat.le_of_ble_eq_true rfl) (Nat.le_of_ble_eq_true rfl) (Nat.le_of_ble_eq_true rfl) (Nat.le_of_ble_eq_true rfl) dX5_init_8 ?_
  refine va_mmax hx hb (by rw [hml]; exact hl.1.symm) hown (hts _ tw_21) (hts _ tw_22) (hts _ tw_2) (hts _ tw_23) (Nat.le_of_ble_eq_true rfl) (Nat.le_of_ble_eq_true rfl) (Nat.le_of_ble_eq_true rfl) (Nat.le_of_ble_eq_true rfl) dX5_init_11 ?_
  refine va_putF (D := D) (ci := 5) (v := .int (if (nI 1) < (if x < (nI 5) then x else (nI 5)) then (if x < (nI 5) then x else (nI 5)) else (nI 1))) (ty := .int) (C := RX5) (T := TX5) (N := 8) hx hb hts hinW tyX5 tyX5_ok nmX5 hown hK hP hD hS 0 rfl rfl 0 (by decide) (hts _ tw_137) (fun _ h9 => h9) rfl hin rfl (by decide +kernel) rfl rfl (Nat.le_of_ble_eq_true rfl) dX5_init_14 (fun H locs hP hD hS => ?_)
  have hP : va_P D vwCl ([(ot, .inr (5, [.int (if (nI 1) < (if x < (nI 5) then x else (nI 5)) then (if x < (nI 5) then x else (nI 5)) else (nI 1)), .null, .null, .null, .null, .null, .int (bI false), .long 0]))]) H := hP
  have hD : va_D A ([(ot, .inr (5, [.int (if (nI 1) < (if x < (nI 5) then x else (nI 5)) then (if x < (nI 5) then x else (nI 5)) else (nI 1)), .null, .null, .null, .null, .null, .int (bI false), .long 0]))]) := hD
  refine lv_aload_n hx hb dX5_init_17 rfl (lv_at hl 0 rfl) ?_
  refine va_new (ci := 4) (fs := [.null, .null, .null, .null, .null, .null, .int (nI 0)]) (C := RX4) (T := TX4) (N := 7) hx hb hts inX4 tyX4 tyX4_ok hown (hts _ tw_24) (hts _ tw_25) (hts _ tw_3) hK hP hD hS hA rfl (fun j hj => by rcases (show j = 0 ∨ j = 1 ∨ j = 2 ∨ j = 3 ∨ j = 4 ∨ j = 5 ∨ j = 6 by omega) with rfl | rfl | rfl | rfl | rfl | rfl | rfl <;> rfl) (Nat.le_of_ble_eq_true rfl) (Nat.le_of_ble_eq_true rfl) dX5_init_18 (fun q18 H hP hD hS => ?_)
  have hP : va_P D vwCl (([(ot, .inr (5, [.int (if (nI 1) < (if x < (nI 5) then x else (nI 5)) then (if x < (nI 5) then x else (nI 5)) else (nI 1)), .null, .null, .null, .null, .null, .int (bI false), .long 0]))]) ++ ([(q18, .inr (4, [.null, .null, .null, .null, .null, .null, .int (nI 0)]))])) H := hP
  have hD : va_D A (([(ot, .inr (5, [.int (if (nI 1) < (if x < (nI 5) then x else (nI 5)) then (if x < (nI 5) then x else (nI 5)) else (nI 1)), .null, .null, .null, .null, .null, .int (bI false), .long 0]))]) ++ ([(q18, .inr (4, [.null, .null, .null, .null, .null, .null, .int (nI 0)]))])) := hD
  refine W.widen (k := 1) (n := 7) (Nat.le_of_ble_eq_true rfl) (Nat.le_of_ble_eq_true rfl) ?_
  refine lv_dup hx hb dX5_init_21 rfl ?_
  refine xx_callv ([(ot, .inr (5, [.int (if (nI 1) < (if x < (nI 5) then x else (nI 5)) then (if x < (nI 5) then x else (nI 5)) else (nI 1)), .null, .null, .null, .null, .null, .int (bI false), .long 0]))]) [1] [0] (va_runIN (As := []) (rest := [.ref q18, .ref ot]) ⟨hx, hb, hml, hown, hts⟩ (c_W_init l D k q18 H.size) ⟨va_cnB 0 hts (xx_gc tw_28) rfl rfl rfl (hN (RX5, 24, yX4_init, "TrustRows") (by decide +kernel)) (hts _ tw_3) (by decide +kernel) ⟨Nat.le_of_ble_eq_true rfl, Nat.le_of_ble_eq_true rfl⟩, rfl, hts _ tw_27⟩ (xx_preS hK hN hP hD [1] (by decide) rfl) rfl rfl hl.1 rfl (lv_room (Nat.le_of_ble_eq_true rfl)) dX5_init_22 ⟨Nat.le_of_ble_eq_true rfl, Nat.le_of_ble_eq_true rfl⟩) hP hD hS hA rfl rfl (by decide) (by decide) (fun u22 H locs hw22 hP9 hD9 hS9 => ?_)
  obtain rfl := hw22
  have hP : va_P D vwCl (([(ot, .inr (5, [.int (if (nI 1) < (if x < (nI 5) then x else (nI 5)) then (if x < (nI 5) then x else (nI 5)) else (nI 1)), .null, .null, .null, .null, .null, .int (bI false), .long 0]))]) ++ (bW k u22 0 (fun _ => 0) (fun _ => false) (fun _ => 0) (fun _ => 0) (fun _ => 0) (fun _ => 0))) H := hP9
  have hD : va_D A (([(ot, .inr (5, [.int (if (nI 1) < (if x < (nI 5) then x else (nI 5)) then (if x < (nI 5) then x else (nI 5)) else (nI 1)), .null, .null, .null, .null, .null, .int (bI false), .long 0]))]) ++ (bW k u22 0 (fun _ => 0) (fun _ => false) (fun _ => 0) (fun _ => 0) (fun _ => 0) (fun _ => 0))) := hD9
  have hS := hS9
  refine va_putF (D := D) (ci := 5) (v := .ref (u22 0)) (ty := .object "TrustRows$Writers") (C := RX5) (T := TX5) (N := 8) hx hb hts hinW tyX5 tyX5_ok nmX5 hown hK hP hD hS 0 rfl rfl 1 (by decide) (hts _ tw_138) (fun _ h9 => h9) rfl hin rfl (by decide +kernel) rfl rfl (Nat.le_of_ble_eq_true rfl) dX5_init_25 (fun H locs hP hD hS => ?_)
  have hP : va_P D vwCl (([(ot, .inr (5, [.int (if (nI 1) < (if x < (nI 5) then x else (nI 5)) then (if x < (nI 5) then x else (nI 5)) else (nI 1)), .ref (u22 0), .null, .null, .null, .null, .int (bI false), .long 0]))]) ++ (bW k u22 0 (fun _ => 0) (fun _ => false) (fun _ => 0) (fun _ => 0) (fun _ => 0) (fun _ => 0))) H := hP
  have hD : va_D A (([(ot, .inr (5, [.int (if (nI 1) < (if x < (nI 5) then x else (nI 5)) then (if x < (nI 5) then x else (nI 5)) else (nI 1)), .ref (u22 0), .null, .null, .null, .null, .int (bI false), .long 0]))]) ++ (bW k u22 0 (fun _ => 0) (fun _ => false) (fun _ => 0) (fun _ => 0) (fun _ => 0) (fun _ => 0))) := hD
  refine lv_aload_n hx hb dX5_init_28 rfl (lv_at hl 0 rfl) ?_
  refine va_new (ci := 2) (fs := [.null, .null, .null, .null, .null, .null, .int (nI 0)]) (C := RX2) (T := TX2) (N := 7) hx hb hts inX2 tyX2 tyX2_ok hown (hts _ tw_55) (hts _ tw_56) (hts _ tw_4) hK hP hD hS hA rfl (fun j hj => by rcases (show j = 0 ∨ j = 1 ∨ j = 2 ∨ j = 3 ∨ j = 4 ∨ j = 5 ∨ j = 6 by omega) with rfl | rfl | rfl | rfl | rfl | rfl | rfl <;> rfl) (Nat.le_of_ble_eq_true rfl) (Nat.le_of_ble_eq_true rfl) dX5_init_29 (fun q29 H hP hD hS => ?_)
  have hP : va_P D vwCl (([(ot, .inr (5, [.int (if (nI 1) < (if x < (nI 5) then x else (nI 5)) then (if x < (nI 5) then x else (nI 5)) else (nI 1)), .ref (u22 0), .null, .null, .null, .null, .int (bI false), .long 0]))]) ++ (bW k u22 0 (fun _ => 0) (fun _ => false) (fun _ => 0) (fun _ => 0) (fun _ => 0) (fun _ => 0)) ++ ([(q29, .inr (2, [.null, .null, .null, .null, .null, .null, .int (nI 0)]))])) H := hP
  have hD : va_D A (([(ot, .inr (5, [.int (if (nI 1) < (if x < (nI 5) then x else (nI 5)) then (if x < (nI 5) then x else (nI 5)) else (nI 1)), .ref (u22 0), .null, .null, .null, .null, .int (bI false), .long 0]))]) ++ (bW k u22 0 (fun _ => 0) (fun _ => false) (fun _ => 0) (fun _ => 0) (fun _ => 0) (fun _ => 0)) ++ ([(q29, .inr (2, [.null, .null, .null, .null, .null, .null, .int (nI 0)]))])) := hD
  refine W.widen (k := 8) (n := 194) (Nat.le_of_ble_eq_true rfl) (Nat.le_of_ble_eq_true rfl) ?_
  refine lv_dup hx hb dX5_init_32 rfl ?_
  refine xx_callv (([(ot, .inr (5, [.int (if (nI 1) < (if x < (nI 5) then x else (nI 5)) then (if x < (nI 5) then x else (nI 5)) else (nI 1)), .ref (u22 0), .null, .null, .null, .null, .int (bI false), .long 0]))]) ++ (bW k u22 0 (fun _ => 0) (fun _ => false) (fun _ => 0) (fun _ => 0) (fun _ => 0) (fun _ => 0))) [8] [0, 1, 2, 3, 4, 5, 6, 7] (va_runIN (As := []) (rest := [.ref q29, .ref ot]) ⟨hx, hb, hml, hown, hts⟩ (c_E_init l D k q29 H.size) ⟨va_cnB 0 hts (xx_gc tw_59) rfl rfl rfl (hN (RX5, 31, yX2_init, "TrustRows") (by decide +kernel)) (hts _ tw_4) (by decide +kernel) ⟨Nat.le_of_ble_eq_true rfl, Nat.le_of_ble_eq_true rfl⟩, rfl, hts _ tw_58⟩ (xx_preS hK hN hP hD [8] (by decide) rfl) rfl rfl hl.1 rfl (lv_room (Nat.le_of_ble_eq_true rfl)) dX5_init_33 ⟨Nat.le_of_ble_eq_true rfl, Nat.le_of_ble_eq_true rfl⟩) hP hD hS hA rfl rfl (by decide) (by decide) (fun u33 H locs hw33 hP9 hD9 hS9 => ?_)
  obtain rfl := hw33
  have hP : va_P D vwCl (([(ot, .inr (5, [.int (if (nI 1) < (if x < (nI 5) then x else (nI 5)) then (if x < (nI 5) then x else (nI 5)) else (nI 1)), .ref (u22 0), .null, .null, .null, .null, .int (bI false), .long 0]))]) ++ (bW k u22 0 (fun _ => 0) (fun _ => false) (fun _ => 0) (fun _ => 0) (fun _ => 0) (fun _ => 0)) ++ (bE k u33 0 (fun _ => 0) (fun _ => 0) (fun _ => 0) (fun _ => 0) (fun _ => 0) (fun _ => false))) H := hP9
  have hD : va_D A (([(ot, .inr (5, [.int (if (nI 1) < (if x < (nI 5) then x else (nI 5)) then (if x < (nI 5) then x else (nI 5)) else (nI 1)), .ref (u22 0), .null, .null, .null, .null, .int (bI false), .long 0]))]) ++ (bW k u22 0 (fun _ => 0) (fun _ => false) (fun _ => 0) (fun _ => 0) (fun _ => 0) (fun _ => 0)) ++ (bE k u33 0 (fun _ => 0) (fun _ => 0) (fun _ => 0) (fun _ => 0) (fun _ => 0) (fun _ => false))) := hD9
  have hS := hS9
  refine va_putF (D := D) (ci := 5) (v := .ref (u33 0)) (ty := .object "TrustRows$Results") (C := RX5) (T := TX5) (N := 8) hx hb hts hinW tyX5 tyX5_ok nmX5 hown hK hP hD hS 0 rfl rfl 2 (by decide) (hts _ tw_139) (fun _ h9 => h9) rfl hin rfl (by decide +kernel) rfl rfl (Nat.le_of_ble_eq_true rfl) dX5_init_36 (fun H locs hP hD hS => ?_)
  have hP : va_P D vwCl (([(ot, .inr (5, [.int (if (nI 1) < (if x < (nI 5) then x else (nI 5)) then (if x < (nI 5) then x else (nI 5)) else (nI 1)), .ref (u22 0), .ref (u33 0), .null, .null, .null, .int (bI false), .long 0]))]) ++ (bW k u22 0 (fun _ => 0) (fun _ => false) (fun _ => 0) (fun _ => 0) (fun _ => 0) (fun _ => 0)) ++ (bE k u33 0 (fun _ => 0) (fun _ => 0) (fun _ => 0) (fun _ => 0) (fun _ => 0) (fun _ => false))) H := hP
  have hD : va_D A (([(ot, .inr (5, [.int (if (nI 1) < (if x < (nI 5) then x else (nI 5)) then (if x < (nI 5) then x else (nI 5)) else (nI 1)), .ref (u22 0), .ref (u33 0), .null, .null, .null, .int (bI false), .long 0]))]) ++ (bW k u22 0 (fun _ => 0) (fun _ => false) (fun _ => 0) (fun _ => 0) (fun _ => 0) (fun _ => 0)) ++ (bE k u33 0 (fun _ => 0) (fun _ => 0) (fun _ => 0) (fun _ => 0) (fun _ => 0) (fun _ => false))) := hD
  refine lv_aload_n hx hb dX5_init_39 rfl (lv_at hl 0 rfl) ?_
  refine va_new (ci := 1) (fs := [.null, .null, .null, .int (nI 0)]) (C := RX1) (T := TX1) (N := 4) hx hb hts inX1 tyX1 tyX1_ok hown (hts _ tw_83) (hts _ tw_84) (hts _ tw_5) hK hP hD hS hA rfl (fun j hj => by rcases (show j = 0 ∨ j = 1 ∨ j = 2 ∨ j = 3 by omega) with rfl | rfl | rfl | rfl <;> rfl) (Nat.le_of_ble_eq_true rfl) (Nat.le_of_ble_eq_true rfl) dX5_init_40 (fun q40 H hP hD hS => ?_)
  have hP : va_P D vwCl (([(ot, .inr (5, [.int (if (nI 1) < (if x < (nI 5) then x else (nI 5)) then (if x < (nI 5) then x else (nI 5)) else (nI 1)), .ref (u22 0), .ref (u33 0), .null, .null, .null, .int (bI false), .long 0]))]) ++ (bW k u22 0 (fun _ => 0) (fun _ => false) (fun _ => 0) (fun _ => 0) (fun _ => 0) (fun _ => 0)) ++ (bE k u33 0 (fun _ => 0) (fun _ => 0) (fun _ => 0) (fun _ => 0) (fun _ => 0) (fun _ => false)) ++ ([(q40, .inr (1, [.null, .null, .null, .int (nI 0)]))])) H := hP
  have hD : va_D A (([(ot, .inr (5, [.int (if (nI 1) < (if x < (nI 5) then x else (nI 5)) then (if x < (nI 5) then x else (nI 5)) else (nI 1)), .ref (u22 0), .ref (u33 0), .null, .null, .null, .int (bI false), .long 0]))]) ++ (bW k u22 0 (fun _ => 0) (fun _ => false) (fun _ => 0) (fun _ => 0) (fun _ => 0) (fun _ => 0)) ++ (bE k u33 0 (fun _ => 0) (fun _ => 0) (fun _ => 0) (fun _ => 0) (fun _ => 0) (fun _ => false)) ++ ([(q40, .inr (1, [.null, .null, .null, .int (nI 0)]))])) := hD
  refine W.widen (k := 15) (n := 798) (Nat.le_of_ble_eq_true rfl) (Nat.le_of_ble_eq_true rfl) ?_
  refine lv_dup hx hb dX5_init_43 rfl ?_
  refine xx_callv (([(ot, .inr (5, [.int (if (nI 1) < (if x < (nI 5) then x else (nI 5)) then (if x < (nI 5) then x else (nI 5)) else (nI 1)), .ref (u22 0), .ref (u33 0), .null, .null, .null, .int (bI false), .long 0]))]) ++ (bW k u22 0 (fun _ => 0) (fun _ => false) (fun _ => 0) (fun _ => 0) (fun _ => 0) (fun _ => 0)) ++ (bE k u33 0 (fun _ => 0) (fun _ => 0) (fun _ => 0) (fun _ => 0) (fun _ => 0) (fun _ => false))) [15] [0, 1, 2, 3, 4, 5, 6, 7, 8, 9, 10, 11, 12, 13, 14] (va_runIN (As := []) (rest := [.ref q40, .ref ot]) ⟨hx, hb, hml, hown, hts⟩ (c_C_init l D k q40 H.size) ⟨va_cnB 0 hts (xx_gc tw_87) rfl rfl rfl (hN (RX5, 38, yX1_init, "TrustRows") (by decide +kernel)) (hts _ tw_5) (by decide +kernel) ⟨Nat.le_of_ble_eq_true rfl, Nat.le_of_ble_eq_true rfl⟩, rfl, hts _ tw_86⟩ (xx_preS hK hN hP hD [15] (by decide) rfl) rfl rfl hl.1 rfl (lv_room (Nat.le_of_ble_eq_true rfl)) dX5_init_44 ⟨Nat.le_of_ble_eq_true rfl, Nat.le_of_ble_eq_true rfl⟩) hP hD hS hA rfl rfl (by decide) (by decide) (fun u44 H locs hw44 hP9 hD9 hS9 => ?_)
  obtain rfl := hw44
  have hP : va_P D vwCl (([(ot, .inr (5, [.int (if (nI 1) < (if x < (nI 5) then x else (nI 5)) then (if x < (nI 5) then x else (nI 5)) else (nI 1)), .ref (u22 0), .ref (u33 0), .null, .null, .null, .int (bI false), .long 0]))]) ++ (bW k u22 0 (fun _ => 0) (fun _ => false) (fun _ => 0) (fun _ => 0) (fun _ => 0) (fun _ => 0)) ++ (bE k u33 0 (fun _ => 0) (fun _ => 0) (fun _ => 0) (fun _ => 0) (fun _ => 0) (fun _ => false)) ++ (bC k u44 0 (fun _ => 0) (fun _ => 0) (fun _ => 0))) H := hP9
  have hD : va_D A (([(ot, .inr (5, [.int (if (nI 1) < (if x < (nI 5) then x else (nI 5)) then (if x < (nI 5) then x else (nI 5)) else (nI 1)), .ref (u22 0), .ref (u33 0), .null, .null, .null, .int (bI false), .long 0]))]) ++ (bW k u22 0 (fun _ => 0) (fun _ => false) (fun _ => 0) (fun _ => 0) (fun _ => 0) (fun _ => 0)) ++ (bE k u33 0 (fun _ => 0) (fun _ => 0) (fun _ => 0) (fun _ => 0) (fun _ => 0) (fun _ => false)) ++ (bC k u44 0 (fun _ => 0) (fun _ => 0) (fun _ => 0))) := hD9
  have hS := hS9
  refine va_putF (D := D) (ci := 5) (v := .ref (u44 0)) (ty := .object "TrustRows$Clashes") (C := RX5) (T := TX5) (N := 8) hx hb hts hinW tyX5 tyX5_ok nmX5 hown hK hP hD hS 0 rfl rfl 3 (by decide) (hts _ tw_140) (fun _ h9 => h9) rfl hin rfl (by decide +kernel) rfl rfl (Nat.le_of_ble_eq_true rfl) dX5_init_47 (fun H locs hP hD hS => ?_)
  have hP : va_P D vwCl (([(ot, .inr (5, [.int (if (nI 1) < (if x < (nI 5) then x else (nI 5)) then (if x < (nI 5) then x else (nI 5)) else (nI 1)), .ref (u22 0), .ref (u33 0), .ref (u44 0), .null, .null, .int (bI false), .long 0]))]) ++ (bW k u22 0 (fun _ => 0) (fun _ => false) (fun _ => 0) (fun _ => 0) (fun _ => 0) (fun _ => 0)) ++ (bE k u33 0 (fun _ => 0) (fun _ => 0) (fun _ => 0) (fun _ => 0) (fun _ => 0) (fun _ => false)) ++ (bC k u44 0 (fun _ => 0) (fun _ => 0) (fun _ => 0))) H := hP
  have hD : va_D A (([(ot, .inr (5, [.int (if (nI 1) < (if x < (nI 5) then x else (nI 5)) then (if x < (nI 5) then x else (nI 5)) else (nI 1)), .ref (u22 0), .ref (u33 0), .ref (u44 0), .null, .null, .int (bI false), .long 0]))]) ++ (bW k u22 0 (fun _ => 0) (fun _ => false) (fun _ => 0) (fun _ => 0) (fun _ => 0) (fun _ => 0)) ++ (bE k u33 0 (fun _ => 0) (fun _ => 0) (fun _ => 0) (fun _ => 0) (fun _ => 0) (fun _ => false)) ++ (bC k u44 0 (fun _ => 0) (fun _ => 0) (fun _ => 0))) := hD
  refine lv_aload_n hx hb dX5_init_50 rfl (lv_at hl 0 rfl) ?_
  refine va_new (ci := 3) (fs := [.null, .null, .null, .null, .int (nI 0)]) (C := RX3) (T := TX3) (N := 5) hx hb hts inX3 tyX3 tyX3_ok hown (hts _ tw_102) (hts _ tw_103) (hts _ tw_6) hK hP hD hS hA rfl (fun j hj => by rcases (show j = 0 ∨ j = 1 ∨ j = 2 ∨ j = 3 ∨ j = 4 by omega) with rfl | rfl | rfl | rfl | rfl <;> rfl) (Nat.le_of_ble_eq_true rfl) (Nat.le_of_ble_eq_true rfl) dX5_init_51 (fun q51 H hP hD hS => ?_)
  have hP : va_P D vwCl (([(ot, .inr (5, [.int (if (nI 1) < (if x < (nI 5) then x else (nI 5)) then (if x < (nI 5) then x else (nI 5)) else (nI 1)), .ref (u22 0), .ref (u33 0), .ref (u44 0), .null, .null, .int (bI false), .long 0]))]) ++ (bW k u22 0 (fun _ => 0) (fun _ => false) (fun _ => 0) (fun _ => 0) (fun _ => 0) (fun _ => 0)) ++ (bE k u33 0 (fun _ => 0) (fun _ => 0) (fun _ => 0) (fun _ => 0) (fun _ => 0) (fun _ => false)) ++ (bC k u44 0 (fun _ => 0) (fun _ => 0) (fun _ => 0)) ++ ([(q51, .inr (3, [.null, .null, .null, .null, .int (nI 0)]))])) H := hP
  have hD : va_D A (([(ot, .inr (5, [.int (if (nI 1) < (if x < (nI 5) then x else (nI 5)) then (if x < (nI 5) then x else (nI 5)) else (nI 1)), .ref (u22 0), .ref (u33 0), .ref (u44 0), .null, .null, .int (bI false), .long 0]))]) ++ (bW k u22 0 (fun _ => 0) (fun _ => false) (fun _ => 0) (fun _ => 0) (fun _ => 0) (fun _ => 0)) ++ (bE k u33 0 (fun _ => 0) (fun _ => 0) (fun _ => 0) (fun _ => 0) (fun _ => 0) (fun _ => false)) ++ (bC k u44 0 (fun _ => 0) (fun _ => 0) (fun _ => 0)) ++ ([(q51, .inr (3, [.null, .null, .null, .null, .int (nI 0)]))])) := hD
  refine W.widen (k := 19) (n := 953) (Nat.le_of_ble_eq_true rfl) (Nat.le_of_ble_eq_true rfl) ?_
  refine lv_dup hx hb dX5_init_54 rfl ?_
  refine xx_callv (([(ot, .inr (5, [.int (if (nI 1) < (if x < (nI 5) then x else (nI 5)) then (if x < (nI 5) then x else (nI 5)) else (nI 1)), .ref (u22 0), .ref (u33 0), .ref (u44 0), .null, .null, .int (bI false), .long 0]))]) ++ (bW k u22 0 (fun _ => 0) (fun _ => false) (fun _ => 0) (fun _ => 0) (fun _ => 0) (fun _ => 0)) ++ (bE k u33 0 (fun _ => 0) (fun _ => 0) (fun _ => 0) (fun _ => 0) (fun _ => 0) (fun _ => false)) ++ (bC k u44 0 (fun _ => 0) (fun _ => 0) (fun _ => 0))) [19] [0, 1, 2, 3, 4, 5, 6, 7, 8, 9, 10, 11, 12, 13, 14, 15, 16, 17, 18] (va_runIN (As := []) (rest := [.ref q51, .ref ot]) ⟨hx, hb, hml, hown, hts⟩ (c_U_init l D k q51 H.size) ⟨va_cnB 0 hts (xx_gc tw_106) rfl rfl rfl (hN (RX5, 45, yX3_init, "TrustRows") (by decide +kernel)) (hts _ tw_6) (by decide +kernel) ⟨Nat.le_of_ble_eq_true rfl, Nat.le_of_ble_eq_true rfl⟩, rfl, hts _ tw_105⟩ (xx_preS hK hN hP hD [19] (by decide) rfl) rfl rfl hl.1 rfl (lv_room (Nat.le_of_ble_eq_true rfl)) dX5_init_55 ⟨Nat.le_of_ble_eq_true rfl, Nat.le_of_ble_eq_true rfl⟩) hP hD hS hA rfl rfl (by decide) (by decide) (fun u55 H locs hw55 hP9 hD9 hS9 => ?_)
  obtain rfl := hw55
  have hP : va_P D vwCl (([(ot, .inr (5, [.int (if (nI 1) < (if x < (nI 5) then x else (nI 5)) then (if x < (nI 5) then x else (nI 5)) else (nI 1)), .ref (u22 0), .ref (u33 0), .ref (u44 0), .null, .null, .int (bI false), .long 0]))]) ++ (bW k u22 0 (fun _ => 0) (fun _ => false) (fun _ => 0) (fun _ => 0) (fun _ => 0) (fun _ => 0)) ++ (bE k u33 0 (fun _ => 0) (fun _ => 0) (fun _ => 0) (fun _ => 0) (fun _ => 0) (fun _ => false)) ++ (bC k u44 0 (fun _ => 0) (fun _ => 0) (fun _ => 0)) ++ (bU k u55 0 (fun _ => 0) (fun _ => 0) (fun _ => 0) (fun _ => 0))) H := hP9
  have hD : va_D A (([(ot, .inr (5, [.int (if (nI 1) < (if x < (nI 5) then x else (nI 5)) then (if x < (nI 5) then x else (nI 5)) else (nI 1)), .ref (u22 0), .ref (u33 0), .ref (u44 0), .null, .null, .int (bI false), .long 0]))]) ++ (bW k u22 0 (fun _ => 0) (fun _ => false) (fun _ => 0) (fun _ => 0) (fun _ => 0) (fun _ => 0)) ++ (bE k u33 0 (fun _ => 0) (fun _ => 0) (fun _ => 0) (fun _ => 0) (fun _ => 0) (fun _ => false)) ++ (bC k u44 0 (fun _ => 0) (fun _ => 0) (fun _ => 0)) ++ (bU k u55 0 (fun _ => 0) (fun _ => 0) (fun _ => 0) (fun _ => 0))) := hD9
  have hS := hS9
  refine va_putF (D := D) (ci := 5) (v := .ref (u55 0)) (ty := .object "TrustRows$Rules") (C := RX5) (T := TX5) (N := 8) hx hb hts hinW tyX5 tyX5_ok nmX5 hown hK hP hD hS 0 rfl rfl 4 (by decide) (hts _ tw_141) (fun _ h9 => h9) rfl hin rfl (by decide +kernel) rfl rfl (Nat.le_of_ble_eq_true rfl) dX5_init_58 (fun H locs hP hD hS => ?_)
  have hP : va_P D vwCl (([(ot, .inr (5, [.int (if (nI 1) < (if x < (nI 5) then x else (nI 5)) then (if x < (nI 5) then x else (nI 5)) else (nI 1)), .ref (u22 0), .ref (u33 0), .ref (u44 0), .ref (u55 0), .null, .int (bI false), .long 0]))]) ++ (bW k u22 0 (fun _ => 0) (fun _ => false) (fun _ => 0) (fun _ => 0) (fun _ => 0) (fun _ => 0)) ++ (bE k u33 0 (fun _ => 0) (fun _ => 0) (fun _ => 0) (fun _ => 0) (fun _ => 0) (fun _ => false)) ++ (bC k u44 0 (fun _ => 0) (fun _ => 0) (fun _ => 0)) ++ (bU k u55 0 (fun _ => 0) (fun _ => 0) (fun _ => 0) (fun _ => 0))) H := hP
  have hD : va_D A (([(ot, .inr (5, [.int (if (nI 1) < (if x < (nI 5) then x else (nI 5)) then (if x < (nI 5) then x else (nI 5)) else (nI 1)), .ref (u22 0), .ref (u33 0), .ref (u44 0), .ref (u55 0), .null, .int (bI false), .long 0]))]) ++ (bW k u22 0 (fun _ => 0) (fun _ => false) (fun _ => 0) (fun _ => 0) (fun _ => 0) (fun _ => 0)) ++ (bE k u33 0 (fun _ => 0) (fun _ => 0) (fun _ => 0) (fun _ => 0) (fun _ => 0) (fun _ => false)) ++ (bC k u44 0 (fun _ => 0) (fun _ => 0) (fun _ => 0)) ++ (bU k u55 0 (fun _ => 0) (fun _ => 0) (fun _ => 0) (fun _ => 0))) := hD
  refine lv_aload_n hx hb dX5_init_61 rfl (lv_at hl 0 rfl) ?_
  refine va_new (ci := 0) (fs := [.null, .int (nI 0)]) (C := RX0) (T := TX0) (N := 2) hx hb hts inX0 tyX0 tyX0_ok hown (hts _ tw_124) (hts _ tw_125) (hts _ tw_7) hK hP hD hS hA rfl (fun j hj => by rcases (show j = 0 ∨ j = 1 by omega) with rfl | rfl <;> rfl) (Nat.le_of_ble_eq_true rfl) (Nat.le_of_ble_eq_true rfl) dX5_init_62 (fun q62 H hP hD hS => ?_)
  have hP : va_P D vwCl (([(ot, .inr (5, [.int (if (nI 1) < (if x < (nI 5) then x else (nI 5)) then (if x < (nI 5) then x else (nI 5)) else (nI 1)), .ref (u22 0), .ref (u33 0), .ref (u44 0), .ref (u55 0), .null, .int (bI false), .long 0]))]) ++ (bW k u22 0 (fun _ => 0) (fun _ => false) (fun _ => 0) (fun _ => 0) (fun _ => 0) (fun _ => 0)) ++ (bE k u33 0 (fun _ => 0) (fun _ => 0) (fun _ => 0) (fun _ => 0) (fun _ => 0) (fun _ => false)) ++ (bC k u44 0 (fun _ => 0) (fun _ => 0) (fun _ => 0)) ++ (bU k u55 0 (fun _ => 0) (fun _ => 0) (fun _ => 0) (fun _ => 0)) ++ ([(q62, .inr (0, [.null, .int (nI 0)]))])) H := hP
  have hD : va_D A (([(ot, .inr (5, [.int (if (nI 1) < (if x < (nI 5) then x else (nI 5)) then (if x < (nI 5) then x else (nI 5)) else (nI 1)), .ref (u22 0), .ref (u33 0), .ref (u44 0), .ref (u55 0), .null, .int (bI false), .long 0]))]) ++ (bW k u22 0 (fun _ => 0) (fun _ => false) (fun _ => 0) (fun _ => 0) (fun _ => 0) (fun _ => 0)) ++ (bE k u33 0 (fun _ => 0) (fun _ => 0) (fun _ => 0) (fun _ => 0) (fun _ => 0) (fun _ => false)) ++ (bC k u44 0 (fun _ => 0) (fun _ => 0) (fun _ => 0)) ++ (bU k u55 0 (fun _ => 0) (fun _ => 0) (fun _ => 0) (fun _ => 0)) ++ ([(q62, .inr (0, [.null, .int (nI 0)]))])) := hD
  refine W.widen (k := 24) (n := 1035) (Nat.le_of_ble_eq_true rfl) (Nat.le_of_ble_eq_true rfl) ?_
  refine lv_dup hx hb dX5_init_65 rfl ?_
  refine xx_callv (([(ot, .inr (5, [.int (if (nI 1) < (if x < (nI 5) then x else (nI 5)) then (if x < (nI 5) then x else (nI 5)) else (nI 1)), .ref (u22 0), .ref (u33 0), .ref (u44 0), .ref (u55 0), .null, .int (bI false), .long 0]))]) ++ (bW k u22 0 (fun _ => 0) (fun _ => false) (fun _ => 0) (fun _ => 0) (fun _ => 0) (fun _ => 0)) ++ (bE k u33 0 (fun _ => 0) (fun _ => 0) (fun _ => 0) (fun _ => 0) (fun _ => 0) (fun _ => false)) ++ (bC k u44 0 (fun _ => 0) (fun _ => 0) (fun _ => 0)) ++ (bU k u55 0 (fun _ => 0) (fun _ => 0) (fun _ => 0) (fun _ => 0))) [24] [0, 1, 2, 3, 4, 5, 6, 7, 8, 9, 10, 11, 12, 13, 14, 15, 16, 17, 18, 19, 20, 21, 22, 23] (va_runIN (As := []) (rest := [.ref q62, .ref ot]) ⟨hx, hb, hml, hown, hts⟩ (c_A_init l D k q62 H.size) ⟨va_cnB 0 hts (xx_gc tw_128) rfl rfl rfl (hN (RX5, 52, yX0_init, "TrustRows") (by decide +kernel)) (hts _ tw_7) (by decide +kernel) ⟨Nat.le_of_ble_eq_true rfl, Nat.le_of_ble_eq_true rfl⟩, rfl, hts _ tw_127⟩ (xx_preS hK hN hP hD [24] (by decide) rfl) rfl rfl hl.1 rfl (lv_room (Nat.le_of_ble_eq_true rfl)) dX5_init_66 ⟨Nat.le_of_ble_eq_true rfl, Nat.le_of_ble_eq_true rfl⟩) hP hD hS hA rfl rfl (by decide) (by decide) (fun u66 H locs hw66 hP9 hD9 hS9 => ?_)
  obtain rfl := hw66
  have hP : va_P D vwCl (([(ot, .inr (5, [.int (if (nI 1) < (if x < (nI 5) then x else (nI 5)) then (if x < (nI 5) then x else (nI 5)) else (nI 1)), .ref (u22 0), .ref (u33 0), .ref (u44 0), .ref (u55 0), .null, .int (bI false), .long 0]))]) ++ (bW k u22 0 (fun _ => 0) (fun _ => false) (fun _ => 0) (fun _ => 0) (fun _ => 0) (fun _ => 0)) ++ (bE k u33 0 (fun _ => 0) (fun _ => 0) (fun _ => 0) (fun _ => 0) (fun _ => 0) (fun _ => false)) ++ (bC k u44 0 (fun _ => 0) (fun _ => 0) (fun _ => 0)) ++ (bU k u55 0 (fun _ => 0) (fun _ => 0) (fun _ => 0) (fun _ => 0)) ++ (bA k u66 0 (fun _ => 0))) H := hP9
  have hD : va_D A (([(ot, .inr (5, [.int (if (nI 1) < (if x < (nI 5) then x else (nI 5)) then (if x < (nI 5) then x else (nI 5)) else (nI 1)), .ref (u22 0), .ref (u33 0), .ref (u44 0), .ref (u55 0), .null, .int (bI false), .long 0]))]) ++ (bW k u22 0 (fun _ => 0) (fun _ => false) (fun _ => 0) (fun _ => 0) (fun _ => 0) (fun _ => 0)) ++ (bE k u33 0 (fun _ => 0) (fun _ => 0) (fun _ => 0) (fun _ => 0) (fun _ => 0) (fun _ => false)) ++ (bC k u44 0 (fun _ => 0) (fun _ => 0) (fun _ => 0)) ++ (bU k u55 0 (fun _ => 0) (fun _ => 0) (fun _ => 0) (fun _ => 0)) ++ (bA k u66 0 (fun _ => 0))) := hD9
  have hS := hS9
  refine va_putF (D := D) (ci := 5) (v := .ref (u66 0)) (ty := .object "TrustRows$AuditRows") (C := RX5) (T := TX5) (N := 8) hx hb hts hinW tyX5 tyX5_ok nmX5 hown hK hP hD hS 0 rfl rfl 5 (by decide) (hts _ tw_142) (fun _ h9 => h9) rfl hin rfl (by decide +kernel) rfl rfl (Nat.le_of_ble_eq_true rfl) dX5_init_69 (fun H locs hP hD hS => ?_)
  have hP : va_P D vwCl (([(ot, .inr (5, [.int (if (nI 1) < (if x < (nI 5) then x else (nI 5)) then (if x < (nI 5) then x else (nI 5)) else (nI 1)), .ref (u22 0), .ref (u33 0), .ref (u44 0), .ref (u55 0), .ref (u66 0), .int (bI false), .long 0]))]) ++ (bW k u22 0 (fun _ => 0) (fun _ => false) (fun _ => 0) (fun _ => 0) (fun _ => 0) (fun _ => 0)) ++ (bE k u33 0 (fun _ => 0) (fun _ => 0) (fun _ => 0) (fun _ => 0) (fun _ => 0) (fun _ => false)) ++ (bC k u44 0 (fun _ => 0) (fun _ => 0) (fun _ => 0)) ++ (bU k u55 0 (fun _ => 0) (fun _ => 0) (fun _ => 0) (fun _ => 0)) ++ (bA k u66 0 (fun _ => 0))) H := hP
  have hD : va_D A (([(ot, .inr (5, [.int (if (nI 1) < (if x < (nI 5) then x else (nI 5)) then (if x < (nI 5) then x else (nI 5)) else (nI 1)), .ref (u22 0), .ref (u33 0), .ref (u44 0), .ref (u55 0), .ref (u66 0), .int (bI false), .long 0]))]) ++ (bW k u22 0 (fun _ => 0) (fun _ => false) (fun _ => 0) (fun _ => 0) (fun _ => 0) (fun _ => 0)) ++ (bE k u33 0 (fun _ => 0) (fun _ => 0) (fun _ => 0) (fun _ => 0) (fun _ => 0) (fun _ => false)) ++ (bC k u44 0 (fun _ => 0) (fun _ => 0) (fun _ => 0)) ++ (bU k u55 0 (fun _ => 0) (fun _ => 0) (fun _ => 0) (fun _ => 0)) ++ (bA k u66 0 (fun _ => 0))) := hD
  refine lv_aload_n hx hb dX5_init_72 rfl (lv_at hl 0 rfl) ?_
  refine lv_iconst (v := (nI 0)) hx hb dX5_init_73 (by decide) ?_
  refine va_put (D := D) (ci := 5) (v := .int (nI 0)) (ty := .boolean) (C := RX5) (T := TX5) (N := 8) hx hb hts hinW tyX5 tyX5_ok nmX5 hown hK hP hD hS 0 rfl rfl 6 (by decide) (hts _ tw_143) (fun _ h9 => h9) rfl (by decide +kernel) rfl rfl (Nat.le_of_ble_eq_true rfl) dX5_init_74 (fun H locs hP hD hS => ?_)
  have hP : va_P D vwCl (([(ot, .inr (5, [.int (if (nI 1) < (if x < (nI 5) then x else (nI 5)) then (if x < (nI 5) then x else (nI 5)) else (nI 1)), .ref (u22 0), .ref (u33 0), .ref (u44 0), .ref (u55 0), .ref (u66 0), .int (nI 0), .long 0]))]) ++ (bW k u22 0 (fun _ => 0) (fun _ => false) (fun _ => 0) (fun _ => 0) (fun _ => 0) (fun _ => 0)) ++ (bE k u33 0 (fun _ => 0) (fun _ => 0) (fun _ => 0) (fun _ => 0) (fun _ => 0) (fun _ => false)) ++ (bC k u44 0 (fun _ => 0) (fun _ => 0) (fun _ => 0)) ++ (bU k u55 0 (fun _ => 0) (fun _ => 0) (fun _ => 0) (fun _ => 0)) ++ (bA k u66 0 (fun _ => 0))) H := hP
  have hD : va_D A (([(ot, .inr (5, [.int (if (nI 1) < (if x < (nI 5) then x else (nI 5)) then (if x < (nI 5) then x else (nI 5)) else (nI 1)), .ref (u22 0), .ref (u33 0), .ref (u44 0), .ref (u55 0), .ref (u66 0), .int (nI 0), .long 0]))]) ++ (bW k u22 0 (fun _ => 0) (fun _ => false) (fun _ => 0) (fun _ => 0) (fun _ => 0) (fun _ => 0)) ++ (bE k u33 0 (fun _ => 0) (fun _ => 0) (fun _ => 0) (fun _ => 0) (fun _ => 0) (fun _ => false)) ++ (bC k u44 0 (fun _ => 0) (fun _ => 0) (fun _ => 0)) ++ (bU k u55 0 (fun _ => 0) (fun _ => 0) (fun _ => 0) (fun _ => 0)) ++ (bA k u66 0 (fun _ => 0))) := hD
  refine lv_aload_n hx hb dX5_init_77 rfl (lv_at hl 0 rfl) ?_
  refine lv_lconst (v := 0) hx hb dX5_init_78 (by decide) ?_
  refine va_put (D := D) (ci := 5) (v := .long 0) (ty := .long) (C := RX5) (T := TX5) (N := 8) hx hb hts hinW tyX5 tyX5_ok nmX5 hown hK hP hD hS 0 rfl rfl 7 (by decide) (hts _ tw_144) (fun _ h9 => h9) rfl (by decide +kernel) rfl rfl (Nat.le_of_ble_eq_true rfl) dX5_init_79 (fun H locs hP hD hS => ?_)
  have hP : va_P D vwCl (([(ot, .inr (5, [.int (if (nI 1) < (if x < (nI 5) then x else (nI 5)) then (if x < (nI 5) then x else (nI 5)) else (nI 1)), .ref (u22 0), .ref (u33 0), .ref (u44 0), .ref (u55 0), .ref (u66 0), .int (nI 0), .long 0]))]) ++ (bW k u22 0 (fun _ => 0) (fun _ => false) (fun _ => 0) (fun _ => 0) (fun _ => 0) (fun _ => 0)) ++ (bE k u33 0 (fun _ => 0) (fun _ => 0) (fun _ => 0) (fun _ => 0) (fun _ => 0) (fun _ => false)) ++ (bC k u44 0 (fun _ => 0) (fun _ => 0) (fun _ => 0)) ++ (bU k u55 0 (fun _ => 0) (fun _ => 0) (fun _ => 0) (fun _ => 0)) ++ (bA k u66 0 (fun _ => 0))) H := hP
  have hD : va_D A (([(ot, .inr (5, [.int (if (nI 1) < (if x < (nI 5) then x else (nI 5)) then (if x < (nI 5) then x else (nI 5)) else (nI 1)), .ref (u22 0), .ref (u33 0), .ref (u44 0), .ref (u55 0), .ref (u66 0), .int (nI 0), .long 0]))]) ++ (bW k u22 0 (fun _ => 0) (fun _ => false) (fun _ => 0) (fun _ => 0) (fun _ => 0) (fun _ => 0)) ++ (bE k u33 0 (fun _ => 0) (fun _ => 0) (fun _ => 0) (fun _ => 0) (fun _ => 0) (fun _ => false)) ++ (bC k u44 0 (fun _ => 0) (fun _ => 0) (fun _ => 0)) ++ (bU k u55 0 (fun _ => 0) (fun _ => 0) (fun _ => 0) (fun _ => 0)) ++ (bA k u66 0 (fun _ => 0))) := hD
  refine xx_vret (u22, u33, u44, u55, u66) hx hb hr hlocks hS hK hP hD dX5_init_82 ?_
  exact trivial
def p_T_writer (ot : Nat) (tq : Int32) (ow : Nat → Nat) (oe : Nat → Nat) (oc : Nat → Nat) (ou : Nat → Nat) (oa : Nat → Nat) (to : Bool) (tt : Int64) (wc : Nat) (wl : Nat → Int32) (wb : Nat → Bool) (wk : Nat → Nat) (kk : Nat → Int64) (kf : Nat → Int64) (ku : Nat → Int64) (x : Int32) : Int32 → (Nat × (Nat → Int32)) → Prop := fun r u => p_W_add ow wc wl wb wk kk kf ku x r u
set_option maxHeartbeats 4000000 in
set_option maxRecDepth 100000 in
theorem c_T_writer (l : Launch) (D : va_G) (k : Nat → ClassId) (ot : Nat) (tq : Int32) (ow : Nat → Nat) (oe : Nat → Nat) (oc : Nat → Nat) (ou : Nat → Nat) (oa : Nat → Nat) (to : Bool) (tt : Int64) (wc : Nat) (wl : Nat → Int32) (wb : Nat → Bool) (wk : Nat → Nat) (kk : Nat → Int64) (kf : Nat → Int64) (ku : Nat → Int64) (x : Int32) (hwc : wc ≤ 12) : xx_Ci l yX5_writer (.code yX5_writer cX5_writer 2 (some .int) :: xall) ({ frames := 2, cells := 0, slots := 0, locals := 42 } : Room) D vwCl (xT k) [.ref ot, .int x] ((bT k ot tq ow oe oc ou oa to tt) ++ (bW k ow wc wl wb wk kk kf ku)) (p_T_writer ot tq ow oe oc ou oa to tt wc wl wb wk kk kf ku x) (fun (u : Nat × (Nat → Int32)) => (bT k ot tq ow oe oc ou oa to tt) ++ (bW k ow u.1 u.2 wb wk kk kf ku)) 0 0 := by
  intro sz
  refine xx_met (Qf := fun A => va_Qi (p_T_writer ot tq ow oe oc ou oa to tt wc wl wb wk kk kf ku x) (xx_B D vwCl (xT k) A (fun (u : Nat × (Nat → Int32)) => (bT k ot tq ow oe oc ou oa to tt) ++ (bW k ow u.1 u.2 wb wk kk kf ku))) A) (cc := cX5_writer) (maxL := 2) (ret := (some .int)) (by decide) rfl (Nat.le_of_ble_eq_true rfl) ?_
  intro p e s m below meth c A ls hx hb hr hts hown hlocks hin hml hA hS hP hD hK hN hl
  have hl : lv_has ls 2 [(0, .ref ot), (1, .int x)] := hl
  have hown : s.vm.findClass RX5 = some m.cls := hown
  have hinW := inX5
  refine lv_aload_n hx hb dX5_writer_0 rfl (lv_at hl 0 rfl) ?_
  refine va_get (D := D) (ci := 5) (v := .ref (ow 0)) (C := RX5) (T := TX5) (N := 8) hx hb hts hinW hown hK hP 0 rfl rfl 1 (by decide) (hts _ tw_138) (fun _ h9 => h9) rfl dX5_writer_1 ?_
  refine lv_iload_n hx hb dX5_writer_4 rfl (lv_at hl 1 rfl) ?_
  refine xx_calli (bT k ot tq ow oe oc ou oa to tt) [1, 2, 3, 4, 5, 6, 7] [0] (va_runV (As := [.int x]) (rest := []) ⟨hx, hb, hml, hown, hts⟩ (c_W_add l D k ow wc wl wb wk kk kf ku x (by omega) s.heap.size) (cwV 1 hts (xx_gV tw_166 tw_167 tw_168 tw_3 tw_169) rfl rfl rfl (by decide +kernel) ⟨Nat.le_of_ble_eq_true rfl, Nat.le_of_ble_eq_true rfl⟩) (xx_preV hK hN hP hD [1, 2, 3, 4, 5, 6, 7] (by decide) rfl 4 1 rfl rfl) rfl rfl hl.1 rfl (lv_room (Nat.le_of_ble_eq_true rfl)) dX5_writer_5 ⟨Nat.le_of_ble_eq_true rfl, Nat.le_of_ble_eq_true rfl⟩) hP hD hS hA rfl rfl (by decide) (by decide) (fun r5 u5 H locs hw5 hP hD hS => ?_)
  have hP : va_P D vwCl ((bT k ot tq ow oe oc ou oa to tt) ++ (bW k ow u5.1 u5.2 wb wk kk kf ku)) H := hP
  have hD : va_D A ((bT k ot tq ow oe oc ou oa to tt) ++ (bW k ow u5.1 u5.2 wb wk kk kf ku)) := hD
  refine xx_iret u5 hx hb hr hlocks hS hK hP hD dX5_writer_8 ?_
  exact hw5
def p_T_key (ot : Nat) (tq : Int32) (ow : Nat → Nat) (oe : Nat → Nat) (oc : Nat → Nat) (ou : Nat → Nat) (oa : Nat → Nat) (to : Bool) (tt : Int64) (wc : Nat) (wl : Nat → Int32) (wb : Nat → Bool) (wk : Nat → Nat) (kk : Nat → Int64) (kf : Nat → Int64) (ku : Nat → Int64) (x : Int32) (key : Int64) (f : Int64) (g : Int64) : Int32 → ((Nat → Nat) × (Nat → Int64) × (Nat → Int64) × (Nat → Int64)) → Prop := fun r u => p_W_addKey ow wc wl wb wk kk kf ku x key f g r u
set_option maxHeartbeats 4000000 in
set_option maxRecDepth 100000 in
theorem c_T_key (l : Launch) (D : va_G) (k : Nat → ClassId) (ot : Nat) (tq : Int32) (ow : Nat → Nat) (oe : Nat → Nat) (oc : Nat → Nat) (ou : Nat → Nat) (oa : Nat → Nat) (to : Bool) (tt : Int64) (wc : Nat) (wl : Nat → Int32) (wb : Nat → Bool) (wk : Nat → Nat) (kk : Nat → Int64) (kf : Nat → Int64) (ku : Nat → Int64) (x : Int32) (key : Int64) (f : Int64) (g : Int64) (hwc : wc ≤ 12) (hwk : ∀ i, wk i ≤ 4) : xx_Ci l yX5_key (.code yX5_key cX5_key 8 (some .int) :: xall) ({ frames := 3, cells := 0, slots := 0, locals := 71 } : Room) D vwCl (xT k) [.ref ot, .int x, .long key, .long f, .long g] ((bT k ot tq ow oe oc ou oa to tt) ++ (bW k ow wc wl wb wk kk kf ku)) (p_T_key ot tq ow oe oc ou oa to tt wc wl wb wk kk kf ku x key f g) (fun (u : (Nat → Nat) × (Nat → Int64) × (Nat → Int64) × (Nat → Int64)) => (bT k ot tq ow oe oc ou oa to tt) ++ (bW k ow wc wl wb u.1 u.2.1 u.2.2.1 u.2.2.2)) 0 0 := by
  intro sz
  refine xx_met (Qf := fun A => va_Qi (p_T_key ot tq ow oe oc ou oa to tt wc wl wb wk kk kf ku x key f g) (xx_B D vwCl (xT k) A (fun (u : (Nat → Nat) × (Nat → Int64) × (Nat → Int64) × (Nat → Int64)) => (bT k ot tq ow oe oc ou oa to tt) ++ (bW k ow wc wl wb u.1 u.2.1 u.2.2.1 u.2.2.2))) A) (cc := cX5_key) (maxL := 8) (ret := (some .int)) (by decide) rfl (Nat.le_of_ble_eq_true rfl) ?_
  intro p e s m below meth c A ls hx hb hr hts hown hlocks hin hml hA hS hP hD hK hN hl
  have hl : lv_has ls 8 [(0, .ref ot), (1, .int x), (2, .long key), (4, .long f), (6, .long g)] := hl
  have hown : s.vm.findClass RX5 = some m.cls := hown
  have hinW := inX5
  refine lv_aload_n hx hb dX5_key_0 rfl (lv_at hl 0 rfl) ?_
  refine va_get (D := D) (ci := 5) (v := .ref (ow 0)) (C := RX5) (T := TX5) (N := 8) hx hb hts hinW hown hK hP 0 rfl rfl 1 (by decide) (hts _ tw_138) (fun _ h9 => h9) rfl dX5_key_1 ?_
  refine lv_iload_n hx hb dX5_key_4 rfl (lv_at hl 1 rfl) ?_
  refine lv_lload_n hx hb dX5_key_5 rfl (lv_at hl 2 rfl) ?_
  refine lv_lload hx hb dX5_key_6 (lv_at hl 3 rfl) ?_
  refine lv_lload hx hb dX5_key_8 (lv_at hl 4 rfl) ?_
  refine xx_calli (bT k ot tq ow oe oc ou oa to tt) [1, 2, 3, 4, 5, 6, 7] [0] (va_runV (As := [.int x, .long key, .long f, .long g]) (rest := []) ⟨hx, hb, hml, hown, hts⟩ (c_W_addKey l D k ow wc wl wb wk kk kf ku x key f g hwc hwk s.heap.size) (cwV 4 hts (xx_gV tw_177 tw_178 tw_179 tw_3 tw_180) rfl rfl rfl (by decide +kernel) ⟨Nat.le_of_ble_eq_true rfl, Nat.le_of_ble_eq_true rfl⟩) (xx_preV hK hN hP hD [1, 2, 3, 4, 5, 6, 7] (by decide) rfl 4 1 rfl rfl) rfl rfl hl.1 rfl (lv_room (Nat.le_of_ble_eq_true rfl)) dX5_key_10 ⟨Nat.le_of_ble_eq_true rfl, Nat.le_of_ble_eq_true rfl⟩) hP hD hS hA rfl rfl (by decide) (by decide) (fun r10 u10 H locs hw10 hP hD hS => ?_)
  have hP : va_P D vwCl ((bT k ot tq ow oe oc ou oa to tt) ++ (bW k ow wc wl wb u10.1 u10.2.1 u10.2.2.1 u10.2.2.2)) H := hP
  have hD : va_D A ((bT k ot tq ow oe oc ou oa to tt) ++ (bW k ow wc wl wb u10.1 u10.2.1 u10.2.2.1 u10.2.2.2)) := hD
  refine xx_iret u10 hx hb hr hlocks hS hK hP hD dX5_key_13 ?_
  exact hw10
def p_T_rule (ot : Nat) (tq : Int32) (ow : Nat → Nat) (oe : Nat → Nat) (oc : Nat → Nat) (ou : Nat → Nat) (oa : Nat → Nat) (to : Bool) (tt : Int64) (uc : Nat) (ut : Nat → Int32) (ub : Nat → Int32) (ul : Nat → Int32) (uw : Nat → Int32) (t : Int32) (b : Int32) (lv : Int32) (wt : Int32) : Int32 → (Nat × (Nat → Int32) × (Nat → Int32) × (Nat → Int32) × (Nat → Int32)) → Prop := fun r u => p_U_add ou uc ut ub ul uw t b lv wt r u
set_option maxHeartbeats 4000000 in
set_option maxRecDepth 100000 in
theorem c_T_rule (l : Launch) (D : va_G) (k : Nat → ClassId) (ot : Nat) (tq : Int32) (ow : Nat → Nat) (oe : Nat → Nat) (oc : Nat → Nat) (ou : Nat → Nat) (oa : Nat → Nat) (to : Bool) (tt : Int64) (uc : Nat) (ut : Nat → Int32) (ub : Nat → Int32) (ul : Nat → Int32) (uw : Nat → Int32) (t : Int32) (b : Int32) (lv : Int32) (wt : Int32) (huc : uc ≤ 20) : xx_Ci l yX5_rule (.code yX5_rule cX5_rule 5 (some .int) :: xall) ({ frames := 3, cells := 0, slots := 0, locals := 65 } : Room) D vwCl (xT k) [.ref ot, .int t, .int b, .int lv, .int wt] ((bT k ot tq ow oe oc ou oa to tt) ++ (bU k ou uc ut ub ul uw)) (p_T_rule ot tq ow oe oc ou oa to tt uc ut ub ul uw t b lv wt) (fun (u : Nat × (Nat → Int32) × (Nat → Int32) × (Nat → Int32) × (Nat → Int32)) => (bT k ot tq ow oe oc ou oa to tt) ++ (bU k ou u.1 u.2.1 u.2.2.1 u.2.2.2.1 u.2.2.2.2)) 0 0 := by
  intro sz
  refine xx_met (Qf := fun A => va_Qi (p_T_rule ot tq ow oe oc ou oa to tt uc ut ub ul uw t b lv wt) (xx_B D vwCl (xT k) A (fun (u : Nat × (Nat → Int32) × (Nat → Int32) × (Nat → Int32) × (Nat → Int32)) => (bT k ot tq ow oe oc ou oa to tt) ++ (bU k ou u.1 u.2.1 u.2.2.1 u.2.2.2.1 u.2.2.2.2))) A) (cc := cX5_rule) (maxL := 5) (ret := (some .int)) (by decide) rfl (Nat.le_of_ble_eq_true rfl) ?_
  intro p e s m below meth c A ls hx hb hr hts hown hlocks hin hml hA hS hP hD hK hN hl
  have hl : lv_has ls 5 [(0, .ref ot), (1, .int t), (2, .int b), (3, .int lv), (4, .int wt)] := hl
  have hown : s.vm.findClass RX5 = some m.cls := hown
  have hinW := inX5
  refine lv_aload_n hx hb dX5_rule_0 rfl (lv_at hl 0 rfl) ?_
  refine va_get (D := D) (ci := 5) (v := .ref (ou 0)) (C := RX5) (T := TX5) (N := 8) hx hb hts hinW hown hK hP 0 rfl rfl 4 (by decide) (hts _ tw_141) (fun _ h9 => h9) rfl dX5_rule_1 ?_
  refine lv_iload_n hx hb dX5_rule_4 rfl (lv_at hl 1 rfl) ?_
  refine lv_iload_n hx hb dX5_rule_5 rfl (lv_at hl 2 rfl) ?_
  refine lv_iload_n hx hb dX5_rule_6 rfl (lv_at hl 3 rfl) ?_
  refine lv_iload hx hb dX5_rule_7 (lv_at hl 4 rfl) ?_
  refine xx_calli (bT k ot tq ow oe oc ou oa to tt) [1, 2, 3, 4, 5] [0] (va_runV (As := [.int t, .int b, .int lv, .int wt]) (rest := []) ⟨hx, hb, hml, hown, hts⟩ (c_U_add l D k ou uc ut ub ul uw t b lv wt (by omega) s.heap.size) (cwV 4 hts (xx_gV tw_264 tw_265 tw_266 tw_6 tw_267) rfl rfl rfl (by decide +kernel) ⟨Nat.le_of_ble_eq_true rfl, Nat.le_of_ble_eq_true rfl⟩) (xx_preV hK hN hP hD [1, 2, 3, 4, 5] (by decide) rfl 3 1 rfl rfl) rfl rfl hl.1 rfl (lv_room (Nat.le_of_ble_eq_true rfl)) dX5_rule_9 ⟨Nat.le_of_ble_eq_true rfl, Nat.le_of_ble_eq_true rfl⟩) hP hD hS hA rfl rfl (by decide) (by decide) (fun r9 u9 H locs hw9 hP hD hS => ?_)
  have hP : va_P D vwCl ((bT k ot tq ow oe oc ou oa to tt) ++ (bU k ou u9.1 u9.2.1 u9.2.2.1 u9.2.2.2.1 u9.2.2.2.2)) H := hP
  have hD : va_D A ((bT k ot tq ow oe oc ou oa to tt) ++ (bU k ou u9.1 u9.2.1 u9.2.2.1 u9.2.2.2.1 u9.2.2.2.2)) := hD
  refine xx_iret u9 hx hb hr hlocks hS hK hP hD dX5_rule_12 ?_
  exact hw9
def p_T_clash (ot : Nat) (tq : Int32) (ow : Nat → Nat) (oe : Nat → Nat) (oc : Nat → Nat) (ou : Nat → Nat) (oa : Nat → Nat) (to : Bool) (tt : Int64) (cc : Nat) (ca : Nat → Int64) (cl : Nat → Int32) (ch : Nat → Int32) (x : Int32) (y : Int32) : Int32 → Unit → Prop := fun r u => p_C_at oc cc ca cl ch x y r u
set_option maxHeartbeats 4000000 in
set_option maxRecDepth 100000 in
theorem c_T_clash (l : Launch) (D : va_G) (k : Nat → ClassId) (ot : Nat) (tq : Int32) (ow : Nat → Nat) (oe : Nat → Nat) (oc : Nat → Nat) (ou : Nat → Nat) (oa : Nat → Nat) (to : Bool) (tt : Int64) (cc : Nat) (ca : Nat → Int64) (cl : Nat → Int32) (ch : Nat → Int32) (x : Int32) (y : Int32) (hcc : cc ≤ 50) : xx_Ci l yX5_clash (.code yX5_clash cX5_clash 3 (some .int) :: xall) ({ frames := 1, cells := 0, slots := 0, locals := 22 } : Room) D vwCl (xT k) [.ref ot, .int x, .int y] ((bT k ot tq ow oe oc ou oa to tt) ++ (bC k oc cc ca cl ch)) (p_T_clash ot tq ow oe oc ou oa to tt cc ca cl ch x y) (fun (u : Unit) => (bT k ot tq ow oe oc ou oa to tt) ++ (bC k oc cc ca cl ch)) 0 0 := by
  intro sz
  refine xx_met (Qf := fun A => va_Qi (p_T_clash ot tq ow oe oc ou oa to tt cc ca cl ch x y) (xx_B D vwCl (xT k) A (fun (u : Unit) => (bT k ot tq ow oe oc ou oa to tt) ++ (bC k oc cc ca cl ch))) A) (cc := cX5_clash) (maxL := 3) (ret := (some .int)) (by decide) rfl (Nat.le_of_ble_eq_true rfl) ?_
  intro p e s m below meth c A ls hx hb hr hts hown hlocks hin hml hA hS hP hD hK hN hl
  have hl : lv_has ls 3 [(0, .ref ot), (1, .int x), (2, .int y)] := hl
  have hown : s.vm.findClass RX5 = some m.cls := hown
  have hinW := inX5
  refine lv_aload_n hx hb dX5_clash_0 rfl (lv_at hl 0 rfl) ?_
  refine va_get (D := D) (ci := 5) (v := .ref (oc 0)) (C := RX5) (T := TX5) (N := 8) hx hb hts hinW hown hK hP 0 rfl rfl 3 (by decide) (hts _ tw_140) (fun _ h9 => h9) rfl dX5_clash_1 ?_
  refine lv_iload_n hx hb dX5_clash_4 rfl (lv_at hl 1 rfl) ?_
  refine lv_iload_n hx hb dX5_clash_5 rfl (lv_at hl 2 rfl) ?_
  refine xx_calli (bT k ot tq ow oe oc ou oa to tt) [1, 2, 3, 4] [0] (va_runV (As := [.int x, .int y]) (rest := []) ⟨hx, hb, hml, hown, hts⟩ (c_C_at l D k oc cc ca cl ch x y (by omega) s.heap.size) (cwV 2 hts (xx_gV tw_355 tw_356 tw_357 tw_5 tw_358) rfl rfl rfl (by decide +kernel) ⟨Nat.le_of_ble_eq_true rfl, Nat.le_of_ble_eq_true rfl⟩) (xx_preV hK hN hP hD [1, 2, 3, 4] (by decide) rfl 1 1 rfl rfl) rfl rfl hl.1 rfl (lv_room (Nat.le_of_ble_eq_true rfl)) dX5_clash_6 ⟨Nat.le_of_ble_eq_true rfl, Nat.le_of_ble_eq_true rfl⟩) hP hD hS hA rfl rfl (by decide) (by decide) (fun r6 u6 H locs hw6 hP hD hS => ?_)
  have hP : va_P D vwCl ((bT k ot tq ow oe oc ou oa to tt) ++ (bC k oc cc ca cl ch)) H := hP
  have hD : va_D A ((bT k ot tq ow oe oc ou oa to tt) ++ (bC k oc cc ca cl ch)) := hD
  refine xx_iret u6 hx hb hr hlocks hS hK hP hD dX5_clash_9 ?_
  exact hw6
def p_T_audit (ot : Nat) (tq : Int32) (ow : Nat → Nat) (oe : Nat → Nat) (oc : Nat → Nat) (ou : Nat → Nat) (oa : Nat → Nat) (to : Bool) (tt : Int64) (ac : Nat) (as : Nat → Int32) (x : Int32) (y : Int32) : Int32 → Unit → Prop := fun r u => p_A_at oa ac as x y r u
set_option maxHeartbeats 4000000 in
set_option maxRecDepth 100000 in
theorem c_T_audit (l : Launch) (D : va_G) (k : Nat → ClassId) (ot : Nat) (tq : Int32) (ow : Nat → Nat) (oe : Nat → Nat) (oc : Nat → Nat) (ou : Nat → Nat) (oa : Nat → Nat) (to : Bool) (tt : Int64) (ac : Nat) (as : Nat → Int32) (x : Int32) (y : Int32) (hac : ac ≤ 200) : xx_Ci l yX5_audit (.code yX5_audit cX5_audit 3 (some .int) :: xall) ({ frames := 1, cells := 0, slots := 0, locals := 22 } : Room) D vwCl (xT k) [.ref ot, .int x, .int y] ((bT k ot tq ow oe oc ou oa to tt) ++ (bA k oa ac as)) (p_T_audit ot tq ow oe oc ou oa to tt ac as x y) (fun (u : Unit) => (bT k ot tq ow oe oc ou oa to tt) ++ (bA k oa ac as)) 0 0 := by
  intro sz
  refine xx_met (Qf := fun A => va_Qi (p_T_audit ot tq ow oe oc ou oa to tt ac as x y) (xx_B D vwCl (xT k) A (fun (u : Unit) => (bT k ot tq ow oe oc ou oa to tt) ++ (bA k oa ac as))) A) (cc := cX5_audit) (maxL := 3) (ret := (some .int)) (by decide) rfl (Nat.le_of_ble_eq_true rfl) ?_
  intro p e s m below meth c A ls hx hb hr hts hown hlocks hin hml hA hS hP hD hK hN hl
  have hl : lv_has ls 3 [(0, .ref ot), (1, .int x), (2, .int y)] := hl
  have hown : s.vm.findClass RX5 = some m.cls := hown
  have hinW := inX5
  refine lv_aload_n hx hb dX5_audit_0 rfl (lv_at hl 0 rfl) ?_
  refine va_get (D := D) (ci := 5) (v := .ref (oa 0)) (C := RX5) (T := TX5) (N := 8) hx hb hts hinW hown hK hP 0 rfl rfl 5 (by decide) (hts _ tw_142) (fun _ h9 => h9) rfl dX5_audit_1 ?_
  refine lv_iload_n hx hb dX5_audit_4 rfl (lv_at hl 1 rfl) ?_
  refine lv_iload_n hx hb dX5_audit_5 rfl (lv_at hl 2 rfl) ?_
  refine xx_calli (bT k ot tq ow oe oc ou oa to tt) [1, 2] [0] (va_runV (As := [.int x, .int y]) (rest := []) ⟨hx, hb, hml, hown, hts⟩ (c_A_at l D k oa ac as x y (by omega) s.heap.size) (cwV 2 hts (xx_gV tw_363 tw_364 tw_365 tw_7 tw_366) rfl rfl rfl (by decide +kernel) ⟨Nat.le_of_ble_eq_true rfl, Nat.le_of_ble_eq_true rfl⟩) (xx_preV hK hN hP hD [1, 2] (by decide) rfl 0 1 rfl rfl) rfl rfl hl.1 rfl (lv_room (Nat.le_of_ble_eq_true rfl)) dX5_audit_6 ⟨Nat.le_of_ble_eq_true rfl, Nat.le_of_ble_eq_true rfl⟩) hP hD hS hA rfl rfl (by decide) (by decide) (fun r6 u6 H locs hw6 hP hD hS => ?_)
  have hP : va_P D vwCl ((bT k ot tq ow oe oc ou oa to tt) ++ (bA k oa ac as)) H := hP
  have hD : va_D A ((bT k ot tq ow oe oc ou oa to tt) ++ (bA k oa ac as)) := hD
  refine xx_iret u6 hx hb hr hlocks hS hK hP hD dX5_audit_9 ?_
  exact hw6
def p_T_sum (ot : Nat) (tq : Int32) (ow : Nat → Nat) (oe : Nat → Nat) (oc : Nat → Nat) (ou : Nat → Nat) (oa : Nat → Nat) (to : Bool) (tt : Int64) (x : Int64) (a : Int64) (d : Int64) : Int64 → Unit → Prop := fun r u => r = xs_sum x a d
set_option maxHeartbeats 4000000 in
set_option maxRecDepth 100000 in
theorem c_T_sum (l : Launch) (D : va_G) (k : Nat → ClassId) (ot : Nat) (tq : Int32) (ow : Nat → Nat) (oe : Nat → Nat) (oc : Nat → Nat) (ou : Nat → Nat) (oa : Nat → Nat) (to : Bool) (tt : Int64) (x : Int64) (a : Int64) (d : Int64) : xx_Cl l yX5_sum (.code yX5_sum cX5_sum 7 (some .long) :: xall) ({ frames := 2, cells := 0, slots := 0, locals := 51 } : Room) D vwCl (xT k) [.ref ot, .long x, .long a, .long d] (bT k ot tq ow oe oc ou oa to tt) (p_T_sum ot tq ow oe oc ou oa to tt x a d) (fun (u : Unit) => bT k ot tq ow oe oc ou oa to tt) 0 0 := by
  intro sz
  refine xx_met (Qf := fun A => va_Ql (p_T_sum ot tq ow oe oc ou oa to tt x a d) (xx_B D vwCl (xT k) A (fun (u : Unit) => bT k ot tq ow oe oc ou oa to tt)) A) (cc := cX5_sum) (maxL := 7) (ret := (some .long)) (by decide) rfl (Nat.le_of_ble_eq_true rfl) ?_
  intro p e s m below meth c A ls hx hb hr hts hown hlocks hin hml hA hS hP hD hK hN hl
  have hl : lv_has ls 7 [(0, .ref ot), (1, .long x), (3, .long a), (5, .long d)] := hl
  have hown : s.vm.findClass RX5 = some m.cls := hown
  refine lv_lload_n hx hb dX5_sum_0 rfl (lv_at hl 1 rfl) ?_
  refine lv_lload_n hx hb dX5_sum_1 rfl (lv_at hl 2 rfl) ?_
  refine lv_lload hx hb dX5_sum_2 (lv_at hl 3 rfl) ?_
  refine xx_calll (bT k ot tq ow oe oc ou oa to tt) [] [0] (va_runS (As := [.long x, .long a, .long d]) (rest := []) ⟨hx, hb, hml, hown, hts⟩ (c_sumUnder l D k x a d s.heap.size) (va_cwS 3 hts (xx_gS tw_193 tw_194 tw_1 tw_195) rfl rfl rfl (by decide +kernel) ⟨Nat.le_of_ble_eq_true rfl, Nat.le_of_ble_eq_true rfl⟩) (xx_preS hK hN hP hD [] (by decide) rfl) rfl rfl hl.1 rfl (lv_room (Nat.le_of_ble_eq_true rfl)) dX5_sum_4 ⟨Nat.le_of_ble_eq_true rfl, Nat.le_of_ble_eq_true rfl⟩) hP hD hS hA rfl rfl (by decide) (by decide) (fun r4 u4 H locs hw4 hP hD hS => ?_)
  obtain rfl := hw4
  have hP : va_P D vwCl (bT k ot tq ow oe oc ou oa to tt) H := hP
  have hD : va_D A (bT k ot tq ow oe oc ou oa to tt) := hD
  refine xx_lret () hx hb hr hlocks hS hK hP hD dX5_sum_7 ?_
  exact rfl
def p_T_stands (ot : Nat) (tq : Int32) (ow : Nat → Nat) (oe : Nat → Nat) (oc : Nat → Nat) (ou : Nat → Nat) (oa : Nat → Nat) (to : Bool) (tt : Int64) (ec : Nat) (ew : Nat → Nat) (el : Nat → Int32) (ea : Nat → Int64) (ed : Nat → Int64) (et : Nat → Int64) (ex : Nat → Bool) (x : Int32) : Int32 → Unit → Prop := fun r u => xb r (∃ j, j < ec ∧ x = nI j ∧ ex j = false)
set_option maxHeartbeats 4000000 in
set_option maxRecDepth 100000 in
theorem c_T_stands (l : Launch) (D : va_G) (k : Nat → ClassId) (ot : Nat) (tq : Int32) (ow : Nat → Nat) (oe : Nat → Nat) (oc : Nat → Nat) (ou : Nat → Nat) (oa : Nat → Nat) (to : Bool) (tt : Int64) (ec : Nat) (ew : Nat → Nat) (el : Nat → Int32) (ea : Nat → Int64) (ed : Nat → Int64) (et : Nat → Int64) (ex : Nat → Bool) (x : Int32) (hec : ec ≤ 100) : xx_Ci l yX5_stands (.code yX5_stands cX5_stands 2 (some .boolean) :: xall) ({ frames := 1, cells := 0, slots := 0, locals := 21 } : Room) D vwCl (xT k) [.ref ot, .int x] ((bT k ot tq ow oe oc ou oa to tt) ++ (bE k oe ec ew el ea ed et ex)) (p_T_stands ot tq ow oe oc ou oa to tt ec ew el ea ed et ex x) (fun (u : Unit) => (bT k ot tq ow oe oc ou oa to tt) ++ (bE k oe ec ew el ea ed et ex)) 0 0 := by
  intro sz
  refine xx_met (Qf := fun A => va_Qi (p_T_stands ot tq ow oe oc ou oa to tt ec ew el ea ed et ex x) (xx_B D vwCl (xT k) A (fun (u : Unit) => (bT k ot tq ow oe oc ou oa to tt) ++ (bE k oe ec ew el ea ed et ex))) A) (cc := cX5_stands) (maxL := 2) (ret := (some .boolean)) (by decide) rfl (Nat.le_of_ble_eq_true rfl) ?_
  intro p e s m below meth c A ls hx hb hr hts hown hlocks hin hml hA hS hP hD hK hN hl
  have hl : lv_has ls 2 [(0, .ref ot), (1, .int x)] := hl
  have hown : s.vm.findClass RX5 = some m.cls := hown
  have hinW := inX5
  refine lv_aload_n hx hb dX5_stands_0 rfl (lv_at hl 0 rfl) ?_
  refine va_get (D := D) (ci := 5) (v := .ref (oe 0)) (C := RX5) (T := TX5) (N := 8) hx hb hts hinW hown hK hP 0 rfl rfl 2 (by decide) (hts _ tw_139) (fun _ h9 => h9) rfl dX5_stands_1 ?_
  refine lv_iload_n hx hb dX5_stands_4 rfl (lv_at hl 1 rfl) ?_
  refine xx_calli (bT k ot tq ow oe oc ou oa to tt) [1, 2, 3, 4, 5, 6, 7] [0] (va_runV (As := [.int x]) (rest := []) ⟨hx, hb, hml, hown, hts⟩ (c_E_stand l D k oe ec ew el ea ed et ex x (by omega) s.heap.size) (cwV 1 hts (xx_gV tw_247 tw_236 tw_237 tw_4 tw_238) rfl rfl rfl (by decide +kernel) ⟨Nat.le_of_ble_eq_true rfl, Nat.le_of_ble_eq_true rfl⟩) (xx_preV hK hN hP hD [1, 2, 3, 4, 5, 6, 7] (by decide) rfl 2 1 rfl rfl) rfl rfl hl.1 rfl (lv_room (Nat.le_of_ble_eq_true rfl)) dX5_stands_5 ⟨Nat.le_of_ble_eq_true rfl, Nat.le_of_ble_eq_true rfl⟩) hP hD hS hA rfl rfl (by decide) (by decide) (fun r5 u5 H locs hw5 hP hD hS => ?_)
  rcases hw5 with ⟨rfl, j5, hj5, hx5, hb5⟩ | ⟨rfl, hq5⟩
  · subst hx5
    have hP : va_P D vwCl ((bT k ot tq ow oe oc ou oa to tt) ++ (bE k oe ec ew el ea ed et ex)) H := hP
    have hD : va_D A ((bT k ot tq ow oe oc ou oa to tt) ++ (bE k oe ec ew el ea ed et ex)) := hD
    refine xx_zret () hx hb hr hlocks rfl hS hK hP hD dX5_stands_8 ?_
    first | exact xb_t ⟨j5, hj5, rfl, hb5⟩ | exact xb_f hq5
  · have hP : va_P D vwCl ((bT k ot tq ow oe oc ou oa to tt) ++ (bE k oe ec ew el ea ed et ex)) H := hP
    have hD : va_D A ((bT k ot tq ow oe oc ou oa to tt) ++ (bE k oe ec ew el ea ed et ex)) := hD
    refine xx_zret () hx hb hr hlocks rfl hS hK hP hD dX5_stands_8 ?_
    first | exact xb_t ⟨j5, hj5, rfl, hb5⟩ | exact xb_f hq5
def p_T_own (ot : Nat) (tq : Int32) (ow : Nat → Nat) (oe : Nat → Nat) (oc : Nat → Nat) (ou : Nat → Nat) (oa : Nat → Nat) (to : Bool) (tt : Int64) (bb : Bool) : Unit → Prop := fun u => True
set_option maxHeartbeats 4000000 in
set_option maxRecDepth 100000 in
theorem c_T_own (l : Launch) (D : va_G) (k : Nat → ClassId) (ot : Nat) (tq : Int32) (ow : Nat → Nat) (oe : Nat → Nat) (oc : Nat → Nat) (ou : Nat → Nat) (oa : Nat → Nat) (to : Bool) (tt : Int64) (bb : Bool) : xx_Cv l yX5_own (.code yX5_own cX5_own 2 none :: xall) ({ frames := 0, cells := 0, slots := 0, locals := 0 } : Room) D vwCl (xT k) [.ref ot, .int (bI bb)] (bT k ot tq ow oe oc ou oa to tt) (p_T_own ot tq ow oe oc ou oa to tt bb) (fun (u : Unit) => bT k ot tq ow oe oc ou oa bb tt) 0 0 := by
  intro sz
  refine xx_met (Qf := fun A => va_Qv (p_T_own ot tq ow oe oc ou oa to tt bb) (xx_B D vwCl (xT k) A (fun (u : Unit) => bT k ot tq ow oe oc ou oa bb tt)) A) (cc := cX5_own) (maxL := 2) (ret := none) (by decide) rfl (Nat.le_of_ble_eq_true rfl) ?_
  intro p e s m below meth c A ls hx hb hr hts hown hlocks hin hml hA hS hP hD hK hN hl
  have hl : lv_has ls 2 [(0, .ref ot), (1, .int (bI bb))] := hl
  have hown : s.vm.findClass RX5 = some m.cls := hown
  have hinW := inX5
  refine lv_aload_n hx hb dX5_own_0 rfl (lv_at hl 0 rfl) ?_
  refine lv_iload_n hx hb dX5_own_1 rfl (lv_at hl 1 rfl) ?_
  refine va_put (D := D) (ci := 5) (v := .int (bI bb)) (ty := .boolean) (C := RX5) (T := TX5) (N := 8) hx hb hts hinW tyX5 tyX5_ok nmX5 hown hK hP hD hS 0 rfl rfl 6 (by decide) (hts _ tw_143) (fun _ h9 => h9) rfl (by decide +kernel) (bI_nar _) (bI_fit _) (Nat.le_of_ble_eq_true rfl) dX5_own_2 (fun H locs hP hD hS => ?_)
  have hP : va_P D vwCl (bT k ot tq ow oe oc ou oa bb tt) H := hP
  have hD : va_D A (bT k ot tq ow oe oc ou oa bb tt) := hD
  refine xx_vret () hx hb hr hlocks hS hK hP hD dX5_own_5 ?_
  exact trivial
def p_T_taken (ot : Nat) (tq : Int32) (ow : Nat → Nat) (oe : Nat → Nat) (oc : Nat → Nat) (ou : Nat → Nat) (oa : Nat → Nat) (to : Bool) (tt : Int64) : Int64 → Unit → Prop := fun r u => r = tt
set_option maxHeartbeats 4000000 in
set_option maxRecDepth 100000 in
theorem c_T_taken (l : Launch) (D : va_G) (k : Nat → ClassId) (ot : Nat) (tq : Int32) (ow : Nat → Nat) (oe : Nat → Nat) (oc : Nat → Nat) (ou : Nat → Nat) (oa : Nat → Nat) (to : Bool) (tt : Int64) : xx_Cl l yX5_taken (.code yX5_taken cX5_taken 1 (some .long) :: xall) ({ frames := 0, cells := 0, slots := 0, locals := 0 } : Room) D vwCl (xT k) [.ref ot] (bT k ot tq ow oe oc ou oa to tt) (p_T_taken ot tq ow oe oc ou oa to tt) (fun (u : Unit) => bT k ot tq ow oe oc ou oa to tt) 0 0 := by
  intro sz
  refine xx_met (Qf := fun A => va_Ql (p_T_taken ot tq ow oe oc ou oa to tt) (xx_B D vwCl (xT k) A (fun (u : Unit) => bT k ot tq ow oe oc ou oa to tt)) A) (cc := cX5_taken) (maxL := 1) (ret := (some .long)) (by decide) rfl (Nat.le_of_ble_eq_true rfl) ?_
  intro p e s m below meth c A ls hx hb hr hts hown hlocks hin hml hA hS hP hD hK hN hl
  have hl : lv_has ls 1 [(0, .ref ot)] := hl
  have hown : s.vm.findClass RX5 = some m.cls := hown
  have hinW := inX5
  refine lv_aload_n hx hb dX5_taken_0 rfl (lv_at hl 0 rfl) ?_
  refine va_get (D := D) (ci := 5) (v := .long tt) (C := RX5) (T := TX5) (N := 8) hx hb hts hinW hown hK hP 0 rfl rfl 7 (by decide) (hts _ tw_144) (fun _ h9 => h9) rfl dX5_taken_1 ?_
  refine xx_lret () hx hb hr hlocks hS hK hP hD dX5_taken_4 ?_
  exact rfl
def p_T_ruleFor (ot : Nat) (tq : Int32) (ow : Nat → Nat) (oe : Nat → Nat) (oc : Nat → Nat) (ou : Nat → Nat) (oa : Nat → Nat) (to : Bool) (tt : Int64) (uc : Nat) (ut : Nat → Int32) (ub : Nat → Int32) (ul : Nat → Int32) (uw : Nat → Int32) (t : Int32) (b : Int32) : Int32 → Unit → Prop := fun r u => (r = (-1) ∧ ¬ (ixN 8 t ∧ ixN 8 b)) ∨ ((ixN 8 t ∧ ixN 8 b) ∧ p_U_best ou uc ut ub ul uw t b r ())
set_option maxHeartbeats 4000000 in
set_option maxRecDepth 100000 in
theorem c_T_ruleFor (l : Launch) (D : va_G) (k : Nat → ClassId) (ot : Nat) (tq : Int32) (ow : Nat → Nat) (oe : Nat → Nat) (oc : Nat → Nat) (ou : Nat → Nat) (oa : Nat → Nat) (to : Bool) (tt : Int64) (uc : Nat) (ut : Nat → Int32) (ub : Nat → Int32) (ul : Nat → Int32) (uw : Nat → Int32) (t : Int32) (b : Int32) (huc : uc ≤ 20) : xx_Ci l yX5_ruleFor (.code yX5_ruleFor cX5_ruleFor 3 (some .int) :: xall) ({ frames := 3, cells := 0, slots := 0, locals := 74 } : Room) D vwCl (xT k) [.ref ot, .int t, .int b] ((bT k ot tq ow oe oc ou oa to tt) ++ (bU k ou uc ut ub ul uw)) (p_T_ruleFor ot tq ow oe oc ou oa to tt uc ut ub ul uw t b) (fun (u : Unit) => (bT k ot tq ow oe oc ou oa to tt) ++ (bU k ou uc ut ub ul uw)) 0 0 := by
  intro sz
  refine xx_met (Qf := fun A => va_Qi (p_T_ruleFor ot tq ow oe oc ou oa to tt uc ut ub ul uw t b) (xx_B D vwCl (xT k) A (fun (u : Unit) => (bT k ot tq ow oe oc ou oa to tt) ++ (bU k ou uc ut ub ul uw))) A) (cc := cX5_ruleFor) (maxL := 3) (ret := (some .int)) (by decide) rfl (Nat.le_of_ble_eq_true rfl) ?_
  intro p e s m below meth c A ls hx hb hr hts hown hlocks hin hml hA hS hP hD hK hN hl
  have hl : lv_has ls 3 [(0, .ref ot), (1, .int t), (2, .int b)] := hl
  have hown : s.vm.findClass RX5 = some m.cls := hown
  have hinW := inX5
  refine lv_iload_n hx hb dX5_ruleFor_0 rfl (lv_at hl 1 rfl) ?_
  refine xx_calli ((bT k ot tq ow oe oc ou oa to tt) ++ (bU k ou uc ut ub ul uw)) [] [0, 1, 2, 3, 4, 5] (va_runS (As := [.int t]) (rest := []) ⟨hx, hb, hml, hown, hts⟩ (c_isPlace l D k t s.heap.size) (va_cwS 1 hts (xx_gS tw_271 tw_272 tw_1 tw_273) rfl rfl rfl (by decide +kernel) ⟨Nat.le_of_ble_eq_true rfl, Nat.le_of_ble_eq_true rfl⟩) (xx_preS hK hN hP hD [] (by decide) rfl) rfl rfl hl.1 rfl (lv_room (Nat.le_of_ble_eq_true rfl)) dX5_ruleFor_1 ⟨Nat.le_of_ble_eq_true rfl, Nat.le_of_ble_eq_true rfl⟩) hP hD hS hA rfl rfl (by decide) (by decide) (fun r1 u1 H locs hw1 hP hD hS => ?_)
  rcases hw1 with ⟨rfl, hq1⟩ | ⟨rfl, hq1⟩
  · have hP : va_P D vwCl ((bT k ot tq ow oe oc ou oa to tt) ++ (bU k ou uc ut ub ul uw)) H := hP
    have hD : va_D A ((bT k ot tq ow oe oc ou oa to tt) ++ (bU k ou uc ut ub ul uw)) := hD
    refine lv_if_eq (tgt := 14) hx hb dX5_ruleFor_4 (by decide) (fun c => absurd c (by decide)) (fun _ => ?_)
    refine lv_iload_n hx hb dX5_ruleFor_7 rfl (lv_at hl 2 rfl) ?_
    refine xx_calli ((bT k ot tq ow oe oc ou oa to tt) ++ (bU k ou uc ut ub ul uw)) [] [0, 1, 2, 3, 4, 5] (va_runS (As := [.int b]) (rest := []) ⟨hx, hb, hml, hown, hts⟩ (c_isPlace l D k b H.size) (va_cwS 1 hts (xx_gS tw_271 tw_272 tw_1 tw_273) rfl rfl rfl (by decide +kernel) ⟨Nat.le_of_ble_eq_true rfl, Nat.le_of_ble_eq_true rfl⟩) (xx_preS hK hN hP hD [] (by decide) rfl) rfl rfl hl.1 rfl (lv_room (Nat.le_of_ble_eq_true rfl)) dX5_ruleFor_8 ⟨Nat.le_of_ble_eq_true rfl, Nat.le_of_ble_eq_true rfl⟩) hP hD hS hA rfl rfl (by decide) (by decide) (fun r8 u8 H locs hw8 hP hD hS => ?_)
    rcases hw8 with ⟨rfl, hq8⟩ | ⟨rfl, hq8⟩
    · have hP : va_P D vwCl ((bT k ot tq ow oe oc ou oa to tt) ++ (bU k ou uc ut ub ul uw)) H := hP
      have hD : va_D A ((bT k ot tq ow oe oc ou oa to tt) ++ (bU k ou uc ut ub ul uw)) := hD
      refine lv_if_ne (tgt := 16) hx hb dX5_ruleFor_11 (by decide) (fun _ => ?_) (fun c => absurd c (by decide))
      refine lv_aload_n hx hb dX5_ruleFor_16 rfl (lv_at hl 0 rfl) ?_
      refine va_get (D := D) (ci := 5) (v := .ref (ou 0)) (C := RX5) (T := TX5) (N := 8) hx hb hts hinW hown hK hP 0 rfl rfl 4 (by decide) (hts _ tw_141) (fun _ h9 => h9) rfl dX5_ruleFor_17 ?_
      refine lv_iload_n hx hb dX5_ruleFor_20 rfl (lv_at hl 1 rfl) ?_
      refine lv_iload_n hx hb dX5_ruleFor_21 rfl (lv_at hl 2 rfl) ?_
      refine xx_calli (bT k ot tq ow oe oc ou oa to tt) [1, 2, 3, 4, 5] [0] (va_runV (As := [.int t, .int b]) (rest := []) ⟨hx, hb, hml, hown, hts⟩ (c_U_best l D k ou uc ut ub ul uw t b (by omega) H.size) (cwV 2 hts (xx_gV tw_279 tw_280 tw_281 tw_6 tw_282) rfl rfl rfl (by decide +kernel) ⟨Nat.le_of_ble_eq_true rfl, Nat.le_of_ble_eq_true rfl⟩) (xx_preV hK hN hP hD [1, 2, 3, 4, 5] (by decide) rfl 3 1 rfl rfl) rfl rfl hl.1 rfl (lv_room (Nat.le_of_ble_eq_true rfl)) dX5_ruleFor_22 ⟨Nat.le_of_ble_eq_true rfl, Nat.le_of_ble_eq_true rfl⟩) hP hD hS hA rfl rfl (by decide) (by decide) (fun r22 u22 H locs hw22 hP hD hS => ?_)
      have hP : va_P D vwCl ((bT k ot tq ow oe oc ou oa to tt) ++ (bU k ou uc ut ub ul uw)) H := hP
      have hD : va_D A ((bT k ot tq ow oe oc ou oa to tt) ++ (bU k ou uc ut ub ul uw)) := hD
      refine xx_iret () hx hb hr hlocks hS hK hP hD dX5_ruleFor_25 ?_
      exact Or.inr ⟨⟨hq1, hq8⟩, hw22⟩
    · have hP : va_P D vwCl ((bT k ot tq ow oe oc ou oa to tt) ++ (bU k ou uc ut ub ul uw)) H := hP
      have hD : va_D A ((bT k ot tq ow oe oc ou oa to tt) ++ (bU k ou uc ut ub ul uw)) := hD
      refine lv_if_ne (tgt := 16) hx hb dX5_ruleFor_11 (by decide) (fun c => absurd c (by decide)) (fun _ => ?_)
      refine lv_iconst (v := (-1)) hx hb dX5_ruleFor_14 (by decide) ?_
      refine xx_iret () hx hb hr hlocks hS hK hP hD dX5_ruleFor_15 ?_
      first | exact Or.inl ⟨rfl, fun h => hq1 h.1⟩ | exact Or.inl ⟨rfl, fun h => hq8 h.2⟩
  · have hP : va_P D vwCl ((bT k ot tq ow oe oc ou oa to tt) ++ (bU k ou uc ut ub ul uw)) H := hP
    have hD : va_D A ((bT k ot tq ow oe oc ou oa to tt) ++ (bU k ou uc ut ub ul uw)) := hD
    refine lv_if_eq (tgt := 14) hx hb dX5_ruleFor_4 (by decide) (fun _ => ?_) (fun c => absurd c (by decide))
    refine lv_iconst (v := (-1)) hx hb dX5_ruleFor_14 (by decide) ?_
    refine xx_iret () hx hb hr hlocks hS hK hP hD dX5_ruleFor_15 ?_
    first | exact Or.inl ⟨rfl, fun h => hq1 h.1⟩ | exact Or.inl ⟨rfl, fun h => hq8 h.2⟩
def p_T_bar (ot : Nat) (tq : Int32) (ow : Nat → Nat) (oe : Nat → Nat) (oc : Nat → Nat) (ou : Nat → Nat) (oa : Nat → Nat) (to : Bool) (tt : Int64) (wc : Nat) (wl : Nat → Int32) (wb : Nat → Bool) (wk : Nat → Nat) (kk : Nat → Int64) (kf : Nat → Int64) (ku : Nat → Int64) (ec : Nat) (ew : Nat → Nat) (el : Nat → Int32) (ea : Nat → Int64) (ed : Nat → Int64) (et : Nat → Int64) (ex : Nat → Bool) (x : Int32) : Int32 → ((Nat → Bool) × (Nat → Bool)) → Prop := fun r u => (r = (-1) ∧ (¬ ∃ j, j < wc ∧ x = nI j ∧ wb j = false) ∧ u = (wb, ex)) ∨ (∃ j, j < wc ∧ x = nI j ∧ wb j = false ∧ r = nI (xcnt (fun i => decide (ew i = j) && !ex i) ec) ∧ u = (xu_B wb j true, xd_drop ew ex j ec))
set_option maxHeartbeats 4000000 in
set_option maxRecDepth 100000 in
theorem c_T_bar (l : Launch) (D : va_G) (k : Nat → ClassId) (ot : Nat) (tq : Int32) (ow : Nat → Nat) (oe : Nat → Nat) (oc : Nat → Nat) (ou : Nat → Nat) (oa : Nat → Nat) (to : Bool) (tt : Int64) (wc : Nat) (wl : Nat → Int32) (wb : Nat → Bool) (wk : Nat → Nat) (kk : Nat → Int64) (kf : Nat → Int64) (ku : Nat → Int64) (ec : Nat) (ew : Nat → Nat) (el : Nat → Int32) (ea : Nat → Int64) (ed : Nat → Int64) (et : Nat → Int64) (ex : Nat → Bool) (x : Int32) (hwc : wc ≤ 12) (hec : ec ≤ 100) (hew : ∀ i, ew i < 12) : xx_Ci l yX5_bar (.code yX5_bar cX5_bar 2 (some .int) :: xall) ({ frames := 2, cells := 0, slots := 0, locals := 42 } : Room) D vwCl (xT k) [.ref ot, .int x] ((bT k ot tq ow oe oc ou oa to tt) ++ (bW k ow wc wl wb wk kk kf ku) ++ (bE k oe ec ew el ea ed et ex)) (p_T_bar ot tq ow oe oc ou oa to tt wc wl wb wk kk kf ku ec ew el ea ed et ex x) (fun (u : (Nat → Bool) × (Nat → Bool)) => (bT k ot tq ow oe oc ou oa to tt) ++ (bW k ow wc wl u.1 wk kk kf ku) ++ (bE k oe ec ew el ea ed et u.2)) 0 0 := by
  intro sz
  refine xx_met (Qf := fun A => va_Qi (p_T_bar ot tq ow oe oc ou oa to tt wc wl wb wk kk kf ku ec ew el ea ed et ex x) (xx_B D vwCl (xT k) A (fun (u : (Nat → Bool) × (Nat → Bool)) => (bT k ot tq ow oe oc ou oa to tt) ++ (bW k ow wc wl u.1 wk kk kf ku) ++ (bE k oe ec ew el ea ed et u.2))) A) (cc := cX5_bar) (maxL := 2) (ret := (some .int)) (by decide) rfl (Nat.le_of_ble_eq_true rfl) ?_
  intro p e s m below meth c A ls hx hb hr hts hown hlocks hin hml hA hS hP hD hK hN hl
  have hl : lv_has ls 2 [(0, .ref ot), (1, .int x)] := hl
  have hown : s.vm.findClass RX5 = some m.cls := hown
  have hinW := inX5
  refine lv_aload_n hx hb dX5_bar_0 rfl (lv_at hl 0 rfl) ?_
  refine va_get (D := D) (ci := 5) (v := .ref (ow 0)) (C := RX5) (T := TX5) (N := 8) hx hb hts hinW hown hK hP 0 rfl rfl 1 (by decide) (hts _ tw_138) (fun _ h9 => h9) rfl dX5_bar_1 ?_
  refine lv_iload_n hx hb dX5_bar_4 rfl (lv_at hl 1 rfl) ?_
  refine xx_calli ((bT k ot tq ow oe oc ou oa to tt) ++ (bE k oe ec ew el ea ed et ex)) [1, 2, 3, 4, 5, 6, 7] [0, 8, 9, 10, 11, 12, 13, 14] (va_runV (As := [.int x]) (rest := []) ⟨hx, hb, hml, hown, hts⟩ (c_W_may l D k ow wc wl wb wk kk kf ku x (by omega) s.heap.size) (cwV 1 hts (xx_gV tw_205 tw_182 tw_183 tw_3 tw_184) rfl rfl rfl (by decide +kernel) ⟨Nat.le_of_ble_eq_true rfl, Nat.le_of_ble_eq_true rfl⟩) (xx_preV hK hN hP hD [1, 2, 3, 4, 5, 6, 7] (by decide) rfl 4 1 rfl rfl) rfl rfl hl.1 rfl (lv_room (Nat.le_of_ble_eq_true rfl)) dX5_bar_5 ⟨Nat.le_of_ble_eq_true rfl, Nat.le_of_ble_eq_true rfl⟩) hP hD hS hA rfl rfl (by decide) (by decide) (fun r5 u5 H locs hw5 hP hD hS => ?_)
  rcases hw5 with ⟨rfl, j5, hj5, hx5, hb5⟩ | ⟨rfl, hq5⟩
  · subst hx5
    have hP : va_P D vwCl ((bT k ot tq ow oe oc ou oa to tt) ++ (bE k oe ec ew el ea ed et ex) ++ (bW k ow wc wl wb wk kk kf ku)) H := hP
    have hD : va_D A ((bT k ot tq ow oe oc ou oa to tt) ++ (bE k oe ec ew el ea ed et ex) ++ (bW k ow wc wl wb wk kk kf ku)) := hD
    refine lv_if_ne (tgt := 13) hx hb dX5_bar_8 (by decide) (fun _ => ?_) (fun c => absurd c (by decide))
    refine lv_aload_n hx hb dX5_bar_13 rfl (lv_at hl 0 rfl) ?_
    refine va_get (D := D) (ci := 5) (v := .ref (ow 0)) (C := RX5) (T := TX5) (N := 8) hx hb hts hinW hown hK hP 0 rfl rfl 1 (by decide) (hts _ tw_138) (fun _ h9 => h9) rfl dX5_bar_14 ?_
    refine lv_iload_n hx hb dX5_bar_17 rfl (lv_at hl 1 rfl) ?_
    refine xx_callv ((bT k ot tq ow oe oc ou oa to tt) ++ (bE k oe ec ew el ea ed et ex)) [8, 9, 10, 11, 12, 13, 14] [0, 1, 2, 3, 4, 5, 6, 7] (va_runV (As := [.int (nI j5)]) (rest := []) ⟨hx, hb, hml, hown, hts⟩ (c_W_shutOut l D k ow wc wl wb wk kk kf ku j5 hwc hj5 H.size) (cwV 1 hts (xx_gV tw_252 tw_253 tw_254 tw_3 tw_255) rfl rfl rfl (by decide +kernel) ⟨Nat.le_of_ble_eq_true rfl, Nat.le_of_ble_eq_true rfl⟩) (xx_preV hK hN hP hD [8, 9, 10, 11, 12, 13, 14] (by decide) rfl 4 8 rfl rfl) rfl rfl hl.1 rfl (lv_room (Nat.le_of_ble_eq_true rfl)) dX5_bar_18 ⟨Nat.le_of_ble_eq_true rfl, Nat.le_of_ble_eq_true rfl⟩) hP hD hS hA rfl rfl (by decide) (by decide) (fun u18 H locs hw18 hP hD hS => ?_)
    obtain rfl := hw18
    have hP : va_P D vwCl ((bT k ot tq ow oe oc ou oa to tt) ++ (bE k oe ec ew el ea ed et ex) ++ (bW k ow wc wl (xu_B wb j5 true) wk kk kf ku)) H := hP
    have hD : va_D A ((bT k ot tq ow oe oc ou oa to tt) ++ (bE k oe ec ew el ea ed et ex) ++ (bW k ow wc wl (xu_B wb j5 true) wk kk kf ku)) := hD
    refine lv_aload_n hx hb dX5_bar_21 rfl (lv_at hl 0 rfl) ?_
    refine va_get (D := D) (ci := 5) (v := .ref (oe 0)) (C := RX5) (T := TX5) (N := 8) hx hb hts hinW hown hK hP 0 rfl rfl 2 (by decide) (hts _ tw_139) (fun _ h9 => h9) rfl dX5_bar_22 ?_
    refine lv_iload_n hx hb dX5_bar_25 rfl (lv_at hl 1 rfl) ?_
    refine xx_calli ((bT k ot tq ow oe oc ou oa to tt) ++ (bW k ow wc wl (xu_B wb j5 true) wk kk kf ku)) [1, 2, 3, 4, 5, 6, 7] [0, 8, 9, 10, 11, 12, 13, 14] (va_runV (As := [.int (nI j5)]) (rest := []) ⟨hx, hb, hml, hown, hts⟩ (c_E_drop l D k oe ec ew el ea ed et ex j5 hec hew (by omega) H.size) (cwV 1 hts (xx_gV tw_256 tw_257 tw_258 tw_4 tw_259) rfl rfl rfl (by decide +kernel) ⟨Nat.le_of_ble_eq_true rfl, Nat.le_of_ble_eq_true rfl⟩) (xx_preV hK hN hP hD [1, 2, 3, 4, 5, 6, 7] (by decide) rfl 2 1 rfl rfl) rfl rfl hl.1 rfl (lv_room (Nat.le_of_ble_eq_true rfl)) dX5_bar_26 ⟨Nat.le_of_ble_eq_true rfl, Nat.le_of_ble_eq_true rfl⟩) hP hD hS hA rfl rfl (by decide) (by decide) (fun r26 u26 H locs hw26 hP hD hS => ?_)
    obtain ⟨rfl, rfl⟩ := hw26
    have hP : va_P D vwCl ((bT k ot tq ow oe oc ou oa to tt) ++ (bW k ow wc wl (xu_B wb j5 true) wk kk kf ku) ++ (bE k oe ec ew el ea ed et (xd_drop ew ex j5 ec))) H := hP
    have hD : va_D A ((bT k ot tq ow oe oc ou oa to tt) ++ (bW k ow wc wl (xu_B wb j5 true) wk kk kf ku) ++ (bE k oe ec ew el ea ed et (xd_drop ew ex j5 ec))) := hD
    refine xx_iret ((xu_B wb j5 true), (xd_drop ew ex j5 ec)) hx hb hr hlocks hS hK hP hD dX5_bar_29 ?_
    exact Or.inr ⟨j5, hj5, rfl, hb5, rfl, rfl⟩
  · have hP : va_P D vwCl ((bT k ot tq ow oe oc ou oa to tt) ++ (bE k oe ec ew el ea ed et ex) ++ (bW k ow wc wl wb wk kk kf ku)) H := hP
    have hD : va_D A ((bT k ot tq ow oe oc ou oa to tt) ++ (bE k oe ec ew el ea ed et ex) ++ (bW k ow wc wl wb wk kk kf ku)) := hD
    refine lv_if_ne (tgt := 13) hx hb dX5_bar_8 (by decide) (fun c => absurd c (by decide)) (fun _ => ?_)
    refine lv_iconst (v := (-1)) hx hb dX5_bar_11 (by decide) ?_
    refine xx_iret (wb, ex) hx hb hr hlocks hS hK (xx_subP hP [0, 8, 9, 10, 11, 12, 13, 14, 1, 2, 3, 4, 5, 6, 7] rfl) (hD.sub [0, 8, 9, 10, 11, 12, 13, 14, 1, 2, 3, 4, 5, 6, 7] (by decide) rfl) dX5_bar_12 ?_
    exact Or.inl ⟨rfl, hq5, rfl⟩
def p_T_note (ot : Nat) (tq : Int32) (ow : Nat → Nat) (oe : Nat → Nat) (oc : Nat → Nat) (ou : Nat → Nat) (oa : Nat → Nat) (to : Bool) (tt : Int64) (ec : Nat) (ew : Nat → Nat) (el : Nat → Int32) (ea : Nat → Int64) (ed : Nat → Int64) (et : Nat → Int64) (ex : Nat → Bool) (cc : Nat) (ca : Nat → Int64) (cl : Nat → Int32) (ch : Nat → Int32) (mm : Nat) (a : Int64) : (Nat × (Nat → Int64) × (Nat → Int32) × (Nat → Int32)) → Prop := fun u => ((∃ i, i < cc ∧ ca i = a) ∧ u = (cc, ca, cl, ch)) ∨ ((¬ ∃ i, i < cc ∧ ca i = a) ∧ ∃ q, p_E_against oe ec ew el ea ed et ex mm q () ∧ ((q = (-1) ∧ u = (cc, ca, cl, ch)) ∨ (¬ q = (-1) ∧ p_C_add oc cc ca cl ch a q (nI mm) u)))
set_option maxHeartbeats 4000000 in
set_option maxRecDepth 100000 in
theorem c_T_note (l : Launch) (D : va_G) (k : Nat → ClassId) (ot : Nat) (tq : Int32) (ow : Nat → Nat) (oe : Nat → Nat) (oc : Nat → Nat) (ou : Nat → Nat) (oa : Nat → Nat) (to : Bool) (tt : Int64) (ec : Nat) (ew : Nat → Nat) (el : Nat → Int32) (ea : Nat → Int64) (ed : Nat → Int64) (et : Nat → Int64) (ex : Nat → Bool) (cc : Nat) (ca : Nat → Int64) (cl : Nat → Int32) (ch : Nat → Int32) (mm : Nat) (a : Int64) (hec : ec ≤ 100) (hcc : cc ≤ 50) (hm1 : mm < ec) : xx_Cv l yX5_noteClash (.code yX5_noteClash cX5_noteClash 5 none :: xall) ({ frames := 2, cells := 0, slots := 0, locals := 44 } : Room) D vwCl (xT k) [.ref ot, .int (nI mm), .long a] ((bT k ot tq ow oe oc ou oa to tt) ++ (bE k oe ec ew el ea ed et ex) ++ (bC k oc cc ca cl ch)) (p_T_note ot tq ow oe oc ou oa to tt ec ew el ea ed et ex cc ca cl ch mm a) (fun (u : Nat × (Nat → Int64) × (Nat → Int32) × (Nat → Int32)) => (bT k ot tq ow oe oc ou oa to tt) ++ (bE k oe ec ew el ea ed et ex) ++ (bC k oc u.1 u.2.1 u.2.2.1 u.2.2.2)) 0 0 := by
  intro sz
  refine xx_met (Qf := fun A => va_Qv (p_T_note ot tq ow oe oc ou oa to tt ec ew el ea ed et ex cc ca cl ch mm a) (xx_B D vwCl (xT k) A (fun (u : Nat × (Nat → Int64) × (Nat → Int32) × (Nat → Int32)) => (bT k ot tq ow oe oc ou oa to tt) ++ (bE k oe ec ew el ea ed et ex) ++ (bC k oc u.1 u.2.1 u.2.2.1 u.2.2.2))) A) (cc := cX5_noteClash) (maxL := 5) (ret := none) (by decide) rfl (Nat.le_of_ble_eq_true rfl) ?_
  intro p e s m below meth c A ls hx hb hr hts hown hlocks hin hml hA hS hP hD hK hN hl
  have hl : lv_has ls 5 [(0, .ref ot), (1, .int (nI mm)), (2, .long a)] := hl
  have hown : s.vm.findClass RX5 = some m.cls := hown
  have hinW := inX5
  refine lv_aload_n hx hb dX5_noteClash_0 rfl (lv_at hl 0 rfl) ?_
  refine va_get (D := D) (ci := 5) (v := .ref (oc 0)) (C := RX5) (T := TX5) (N := 8) hx hb hts hinW hown hK hP 0 rfl rfl 3 (by decide) (hts _ tw_140) (fun _ h9 => h9) rfl dX5_noteClash_1 ?_
  refine lv_lload_n hx hb dX5_noteClash_4 rfl (lv_at hl 2 rfl) ?_
  refine xx_calli ((bT k ot tq ow oe oc ou oa to tt) ++ (bE k oe ec ew el ea ed et ex)) [8, 9, 10, 11] [0, 1, 2, 3, 4, 5, 6, 7] (va_runV (As := [.long a]) (rest := []) ⟨hx, hb, hml, hown, hts⟩ (c_C_has l D k oc cc ca cl ch a (by omega) s.heap.size) (cwV 1 hts (xx_gV tw_227 tw_228 tw_229 tw_5 tw_230) rfl rfl rfl (by decide +kernel) ⟨Nat.le_of_ble_eq_true rfl, Nat.le_of_ble_eq_true rfl⟩) (xx_preV hK hN hP hD [8, 9, 10, 11] (by decide) rfl 1 8 rfl rfl) rfl rfl hl.1 rfl (lv_room (Nat.le_of_ble_eq_true rfl)) dX5_noteClash_5 ⟨Nat.le_of_ble_eq_true rfl, Nat.le_of_ble_eq_true rfl⟩) hP hD hS hA rfl rfl (by decide) (by decide) (fun r5 u5 H locs hw5 hP hD hS => ?_)
  rcases hw5 with ⟨rfl, hq5⟩ | ⟨rfl, hq5⟩
  · have hP : va_P D vwCl ((bT k ot tq ow oe oc ou oa to tt) ++ (bE k oe ec ew el ea ed et ex) ++ (bC k oc cc ca cl ch)) H := hP
    have hD : va_D A ((bT k ot tq ow oe oc ou oa to tt) ++ (bE k oe ec ew el ea ed et ex) ++ (bC k oc cc ca cl ch)) := hD
    refine lv_if_eq (tgt := 12) hx hb dX5_noteClash_8 (by decide) (fun c => absurd c (by decide)) (fun _ => ?_)
    refine xx_vret (cc, ca, cl, ch) hx hb hr hlocks hS hK hP hD dX5_noteClash_11 ?_
    exact Or.inl ⟨hq5, rfl⟩
  · have hP : va_P D vwCl ((bT k ot tq ow oe oc ou oa to tt) ++ (bE k oe ec ew el ea ed et ex) ++ (bC k oc cc ca cl ch)) H := hP
    have hD : va_D A ((bT k ot tq ow oe oc ou oa to tt) ++ (bE k oe ec ew el ea ed et ex) ++ (bC k oc cc ca cl ch)) := hD
    refine lv_if_eq (tgt := 12) hx hb dX5_noteClash_8 (by decide) (fun _ => ?_) (fun c => absurd c (by decide))
    refine lv_aload_n hx hb dX5_noteClash_12 rfl (lv_at hl 0 rfl) ?_
    refine va_get (D := D) (ci := 5) (v := .ref (oe 0)) (C := RX5) (T := TX5) (N := 8) hx hb hts hinW hown hK hP 0 rfl rfl 2 (by decide) (hts _ tw_139) (fun _ h9 => h9) rfl dX5_noteClash_13 ?_
    refine lv_iload_n hx hb dX5_noteClash_16 rfl (lv_at hl 1 rfl) ?_
    refine xx_calli ((bT k ot tq ow oe oc ou oa to tt) ++ (bC k oc cc ca cl ch)) [1, 2, 3, 4, 5, 6, 7] [0, 8, 9, 10, 11] (va_runV (As := [.int (nI mm)]) (rest := []) ⟨hx, hb, hml, hown, hts⟩ (c_E_against l D k oe ec ew el ea ed et ex mm (by omega) (by omega) H.size) (cwV 1 hts (xx_gV tw_231 tw_232 tw_233 tw_4 tw_234) rfl rfl rfl (by decide +kernel) ⟨Nat.le_of_ble_eq_true rfl, Nat.le_of_ble_eq_true rfl⟩) (xx_preV hK hN hP hD [1, 2, 3, 4, 5, 6, 7] (by decide) rfl 2 1 rfl rfl) rfl rfl hl.1 rfl (lv_room (Nat.le_of_ble_eq_true rfl)) dX5_noteClash_17 ⟨Nat.le_of_ble_eq_true rfl, Nat.le_of_ble_eq_true rfl⟩) hP hD hS hA rfl rfl (by decide) (by decide) (fun r17 u17 H locs hw17 hP hD hS => ?_)
    have hP : va_P D vwCl ((bT k ot tq ow oe oc ou oa to tt) ++ (bC k oc cc ca cl ch) ++ (bE k oe ec ew el ea ed et ex)) H := hP
    have hD : va_D A ((bT k ot tq ow oe oc ou oa to tt) ++ (bC k oc cc ca cl ch) ++ (bE k oe ec ew el ea ed et ex)) := hD
    refine lv_istore (lv' := [(4, .int r17), (0, .ref ot), (1, .int (nI mm)), (2, .long a)]) hx hb dX5_noteClash_20 hl (by decide) rfl (fun ls hl => ?_)
    refine lv_iload hx hb dX5_noteClash_22 (lv_at hl 0 rfl) ?_
    refine lv_iconst (v := (-1)) hx hb dX5_noteClash_24 (by decide) ?_
    refine lv_icmp_eq (tgt := 39) hx hb dX5_noteClash_25 (by decide) (fun c25 => ?_) (fun c25 => ?_)
    · refine xx_vret (cc, ca, cl, ch) hx hb hr hlocks hS hK (xx_subP hP [0, 5, 6, 7, 8, 9, 10, 11, 1, 2, 3, 4] rfl) (hD.sub [0, 5, 6, 7, 8, 9, 10, 11, 1, 2, 3, 4] (by decide) rfl) dX5_noteClash_39 ?_
      first | exact Or.inr ⟨hq5, r17, hw17, Or.inl ⟨c25, rfl⟩⟩ | exact Or.inr ⟨hq5, r17, hw17, Or.inr ⟨c25, hw36⟩⟩
    · refine lv_aload_n hx hb dX5_noteClash_28 rfl (lv_at hl 1 rfl) ?_
      refine va_get (D := D) (ci := 5) (v := .ref (oc 0)) (C := RX5) (T := TX5) (N := 8) hx hb hts hinW hown hK hP 0 rfl rfl 3 (by decide) (hts _ tw_140) (fun _ h9 => h9) rfl dX5_noteClash_29 ?_
      refine lv_lload_n hx hb dX5_noteClash_32 rfl (lv_at hl 3 rfl) ?_
      refine lv_iload hx hb dX5_noteClash_33 (lv_at hl 0 rfl) ?_
      refine lv_iload_n hx hb dX5_noteClash_35 rfl (lv_at hl 2 rfl) ?_
      refine xx_callv ((bT k ot tq ow oe oc ou oa to tt) ++ (bE k oe ec ew el ea ed et ex)) [1, 2, 3, 4] [0, 5, 6, 7, 8, 9, 10, 11] (va_runV (As := [.long a, .int r17, .int (nI mm)]) (rest := []) ⟨hx, hb, hml, hown, hts⟩ (c_C_add l D k oc cc ca cl ch a r17 (nI mm) (by omega) H.size) (cwV 3 hts (xx_gV tw_239 tw_240 tw_241 tw_5 tw_242) rfl rfl rfl (by decide +kernel) ⟨Nat.le_of_ble_eq_true rfl, Nat.le_of_ble_eq_true rfl⟩) (xx_preV hK hN hP hD [1, 2, 3, 4] (by decide) rfl 1 1 rfl rfl) rfl rfl hl.1 rfl (lv_room (Nat.le_of_ble_eq_true rfl)) dX5_noteClash_36 ⟨Nat.le_of_ble_eq_true rfl, Nat.le_of_ble_eq_true rfl⟩) hP hD hS hA rfl rfl (by decide) (by decide) (fun u36 H locs hw36 hP hD hS => ?_)
      have hP : va_P D vwCl ((bT k ot tq ow oe oc ou oa to tt) ++ (bE k oe ec ew el ea ed et ex) ++ (bC k oc u36.1 u36.2.1 u36.2.2.1 u36.2.2.2)) H := hP
      have hD : va_D A ((bT k ot tq ow oe oc ou oa to tt) ++ (bE k oe ec ew el ea ed et ex) ++ (bC k oc u36.1 u36.2.1 u36.2.2.1 u36.2.2.2)) := hD
      refine xx_vret (u36.1, u36.2.1, u36.2.2.1, u36.2.2.2) hx hb hr hlocks hS hK hP hD dX5_noteClash_39 ?_
      first | exact Or.inr ⟨hq5, r17, hw17, Or.inl ⟨c25, rfl⟩⟩ | exact Or.inr ⟨hq5, r17, hw17, Or.inr ⟨c25, hw36⟩⟩
end
section
theorem dX5_result_0 : decode cX5_result 0 = .ok (.aload_n 0, 1) := by decide +kernel
theorem dX5_result_1 : decode cX5_result 1 = .ok (.getfield 25, 3) := by decide +kernel
theorem dX5_result_4 : decode cX5_result 4 = .ok (.iload_n 1, 1) := by decide +kernel
theorem dX5_result_5 : decode cX5_result 5 = .ok (.invokevirtual 77, 3) := by decide +kernel
theorem dX5_result_8 : decode cX5_result 8 = .ok (.ifCond .eq 10, 3) := by decide +kernel
theorem dX5_result_11 : decode cX5_result 11 = .ok (.lload 10, 2) := by decide +kernel
theorem dX5_result_13 : decode cX5_result 13 = .ok (.lconst 0, 1) := by decide +kernel
theorem dX5_result_14 : decode cX5_result 14 = .ok (.lcmp, 1) := by decide +kernel
theorem dX5_result_15 : decode cX5_result 15 = .ok (.ifCond .ge 5, 3) := by decide +kernel
theorem dX5_result_18 : decode cX5_result 18 = .ok (.iconst (-1), 1) := by decide +kernel
theorem dX5_result_19 : decode cX5_result 19 = .ok (.ireturn, 1) := by decide +kernel
theorem dX5_result_20 : decode cX5_result 20 = .ok (.lload 6, 2) := by decide +kernel
theorem dX5_result_22 : decode cX5_result 22 = .ok (.lload_n 2, 1) := by decide +kernel
theorem dX5_result_23 : decode cX5_result 23 = .ok (.lload 4, 2) := by decide +kernel
theorem dX5_result_25 : decode cX5_result 25 = .ok (.invokestatic 73, 3) := by decide +kernel
theorem dX5_result_28 : decode cX5_result 28 = .ok (.lload 8, 2) := by decide +kernel
theorem dX5_result_30 : decode cX5_result 30 = .ok (.lxor, 1) := by decide +kernel
theorem dX5_result_31 : decode cX5_result 31 = .ok (.lstore 12, 2) := by decide +kernel
theorem dX5_result_33 : decode cX5_result 33 = .ok (.aload_n 0, 1) := by decide +kernel
theorem dX5_result_34 : decode cX5_result 34 = .ok (.getfield 25, 3) := by decide +kernel
theorem dX5_result_37 : decode cX5_result 37 = .ok (.iload_n 1, 1) := by decide +kernel
theorem dX5_result_38 : decode cX5_result 38 = .ok (.lload_n 2, 1) := by decide +kernel
theorem dX5_result_39 : decode cX5_result 39 = .ok (.lload 4, 2) := by decide +kernel
theorem dX5_result_41 : decode cX5_result 41 = .ok (.lload 12, 2) := by decide +kernel
theorem dX5_result_43 : decode cX5_result 43 = .ok (.lload 10, 2) := by decide +kernel
theorem dX5_result_45 : decode cX5_result 45 = .ok (.invokevirtual 81, 3) := by decide +kernel
theorem dX5_result_48 : decode cX5_result 48 = .ok (.ifCond .ne 6, 3) := by decide +kernel
theorem dX5_result_51 : decode cX5_result 51 = .ok (.bipush (-2), 2) := by decide +kernel
theorem dX5_result_53 : decode cX5_result 53 = .ok (.ireturn, 1) := by decide +kernel
theorem dX5_result_54 : decode cX5_result 54 = .ok (.aload_n 0, 1) := by decide +kernel
theorem dX5_result_55 : decode cX5_result 55 = .ok (.getfield 32, 3) := by decide +kernel
theorem dX5_result_58 : decode cX5_result 58 = .ok (.iload_n 1, 1) := by decide +kernel
theorem dX5_result_59 : decode cX5_result 59 = .ok (.lload_n 2, 1) := by decide +kernel
theorem dX5_result_60 : decode cX5_result 60 = .ok (.lload 4, 2) := by decide +kernel
theorem dX5_result_62 : decode cX5_result 62 = .ok (.invokevirtual 85, 3) := by decide +kernel
theorem dX5_result_65 : decode cX5_result 65 = .ok (.ifCond .eq 6, 3) := by decide +kernel
theorem dX5_result_68 : decode cX5_result 68 = .ok (.bipush (-3), 2) := by decide +kernel
theorem dX5_result_70 : decode cX5_result 70 = .ok (.ireturn, 1) := by decide +kernel
theorem dX5_result_71 : decode cX5_result 71 = .ok (.aload_n 0, 1) := by decide +kernel
theorem dX5_result_72 : decode cX5_result 72 = .ok (.getfield 32, 3) := by decide +kernel
theorem dX5_result_75 : decode cX5_result 75 = .ok (.iload_n 1, 1) := by decide +kernel
theorem dX5_result_76 : decode cX5_result 76 = .ok (.aload_n 0, 1) := by decide +kernel
theorem dX5_result_77 : decode cX5_result 77 = .ok (.getfield 25, 3) := by decide +kernel
theorem dX5_result_80 : decode cX5_result 80 = .ok (.iload_n 1, 1) := by decide +kernel
theorem dX5_result_81 : decode cX5_result 81 = .ok (.invokevirtual 89, 3) := by decide +kernel
theorem dX5_result_84 : decode cX5_result 84 = .ok (.lload_n 2, 1) := by decide +kernel
theorem dX5_result_85 : decode cX5_result 85 = .ok (.lload 4, 2) := by decide +kernel
theorem dX5_result_87 : decode cX5_result 87 = .ok (.lload 10, 2) := by decide +kernel
theorem dX5_result_89 : decode cX5_result 89 = .ok (.invokevirtual 92, 3) := by decide +kernel
theorem dX5_result_92 : decode cX5_result 92 = .ok (.istore 14, 2) := by decide +kernel
theorem dX5_result_94 : decode cX5_result 94 = .ok (.iload 14, 2) := by decide +kernel
theorem dX5_result_96 : decode cX5_result 96 = .ok (.iconst (-1), 1) := by decide +kernel
theorem dX5_result_97 : decode cX5_result 97 = .ok (.if_icmp .ne 6, 3) := by decide +kernel
theorem dX5_result_100 : decode cX5_result 100 = .ok (.bipush (-4), 2) := by decide +kernel
theorem dX5_result_102 : decode cX5_result 102 = .ok (.ireturn, 1) := by decide +kernel
theorem dX5_result_103 : decode cX5_result 103 = .ok (.aload_n 0, 1) := by decide +kernel
theorem dX5_result_104 : decode cX5_result 104 = .ok (.iload 14, 2) := by decide +kernel
theorem dX5_result_106 : decode cX5_result 106 = .ok (.lload_n 2, 1) := by decide +kernel
theorem dX5_result_107 : decode cX5_result 107 = .ok (.invokevirtual 95, 3) := by decide +kernel
theorem dX5_result_110 : decode cX5_result 110 = .ok (.iload 14, 2) := by decide +kernel
theorem dX5_result_112 : decode cX5_result 112 = .ok (.ireturn, 1) := by decide +kernel
def p_T_result (ot : Nat) (tq : Int32) (ow : Nat → Nat) (oe : Nat → Nat) (oc : Nat → Nat) (ou : Nat → Nat) (oa : Nat → Nat) (to : Bool) (tt : Int64) (wc : Nat) (wl : Nat → Int32) (wb : Nat → Bool) (wk : Nat → Nat) (kk : Nat → Int64) (kf : Nat → Int64) (ku : Nat → Int64) (ec : Nat) (ew : Nat → Nat) (el : Nat → Int32) (ea : Nat → Int64) (ed : Nat → Int64) (et : Nat → Int64) (ex : Nat → Bool) (cc : Nat) (ca : Nat → Int64) (cl : Nat → Int32) (ch : Nat → Int32) (x : Int32) (a : Int64) (d : Int64) (un : Int64) (xr : Int64) (t : Int64) : Int32 → ((Nat × (Nat → Nat) × (Nat → Int32) × (Nat → Int64) × (Nat → Int64) × (Nat → Int64)) × (Nat × (Nat → Int64) × (Nat → Int32) × (Nat → Int32))) → Prop := fun r u => (r = (-1) ∧ ((¬ ∃ j, j < wc ∧ x = nI j ∧ wb j = false) ∨ t < 0) ∧ u = ((ec, ew, el, ea, ed, et), (cc, ca, cl, ch))) ∨ (∃ w, (w < wc ∧ x = nI w ∧ wb w = false ∧ ¬ t < 0) ∧ ((r = (-2) ∧ ¬ (∃ z, w * 4 ≤ z ∧ z < w * 4 + wk w ∧ (¬ (t < kf z) ∧ ¬ (ku z ≤ t) ∧ xs_sum (kk z) a d = (xs_sum un a d ^^^ xr))) ∧ u = ((ec, ew, el, ea, ed, et), (cc, ca, cl, ch))) ∨ (r = (-3) ∧ (∃ z, w * 4 ≤ z ∧ z < w * 4 + wk w ∧ (¬ (t < kf z) ∧ ¬ (ku z ≤ t) ∧ xs_sum (kk z) a d = (xs_sum un a d ^^^ xr))) ∧ (∃ i, i < ec ∧ (ew i = w ∧ ea i = a ∧ ed i = d ∧ ex i = false)) ∧ u = ((ec, ew, el, ea, ed, et), (cc, ca, cl, ch))) ∨ (r = (-4) ∧ (∃ z, w * 4 ≤ z ∧ z < w * 4 + wk w ∧ (¬ (t < kf z) ∧ ¬ (ku z ≤ t) ∧ xs_sum (kk z) a d = (xs_sum un a d ^^^ xr))) ∧ ¬ (∃ i, i < ec ∧ (ew i = w ∧ ea i = a ∧ ed i = d ∧ ex i = false)) ∧ 100 ≤ ec ∧ u = ((ec, ew, el, ea, ed, et), (cc, ca, cl, ch))) ∨ (r = nI ec ∧ (∃ z, w * 4 ≤ z ∧ z < w * 4 + wk w ∧ (¬ (t < kf z) ∧ ¬ (ku z ≤ t) ∧ xs_sum (kk z) a d = (xs_sum un a d ^^^ xr))) ∧ ¬ (∃ i, i < ec ∧ (ew i = w ∧ ea i = a ∧ ed i = d ∧ ex i = false)) ∧ ec < 100 ∧ u.1 = (ec + 1, xu_N ew ec w, upd el ec (wl w), vp_updL ea ec a, vp_updL ed ec d, vp_updL et ec t) ∧ p_T_note ot tq ow oe oc ou oa to tt (ec + 1) (xu_N ew ec w) (upd el ec (wl w)) (vp_updL ea ec a) (vp_updL ed ec d) (vp_updL et ec t) ex cc ca cl ch ec a u.2)))
set_option maxHeartbeats 4000000 in
set_option maxRecDepth 100000 in
theorem c_T_result (l : Launch) (D : va_G) (k : Nat → ClassId) (ot : Nat) (tq : Int32) (ow : Nat → Nat) (oe : Nat → Nat) (oc : Nat → Nat) (ou : Nat → Nat) (oa : Nat → Nat) (to : Bool) (tt : Int64) (wc : Nat) (wl : Nat → Int32) (wb : Nat → Bool) (wk : Nat → Nat) (kk : Nat → Int64) (kf : Nat → Int64) (ku : Nat → Int64) (ec : Nat) (ew : Nat → Nat) (el : Nat → Int32) (ea : Nat → Int64) (ed : Nat → Int64) (et : Nat → Int64) (ex : Nat → Bool) (cc : Nat) (ca : Nat → Int64) (cl : Nat → Int32) (ch : Nat → Int32) (x : Int32) (a : Int64) (d : Int64) (un : Int64) (xr : Int64) (t : Int64) (hwc : wc ≤ 12) (hwk : ∀ i, wk i ≤ 4) (hec : ec ≤ 100) (hew : ∀ i, ew i < 12) (hcc : cc ≤ 50) : xx_Ci l yX5_result (.code yX5_result cX5_result 15 (some .int) :: xall) ({ frames := 3, cells := 0, slots := 0, locals := 84 } : Room) D vwCl (xT k) [.ref ot, .int x, .long a, .long d, .long un, .long xr, .long t] ((bT k ot tq ow oe oc ou oa to tt) ++ (bW k ow wc wl wb wk kk kf ku) ++ (bE k oe ec ew el ea ed et ex) ++ (bC k oc cc ca cl ch)) (p_T_result ot tq ow oe oc ou oa to tt wc wl wb wk kk kf ku ec ew el ea ed et ex cc ca cl ch x a d un xr t) (fun (u : (Nat × (Nat → Nat) × (Nat → Int32) × (Nat → Int64) × (Nat → Int64) × (Nat → Int64)) × (Nat × (Nat → Int64) × (Nat → Int32) × (Nat → Int32))) => (bT k ot tq ow oe oc ou oa to tt) ++ (bW k ow wc wl wb wk kk kf ku) ++ (bE k oe u.1.1 u.1.2.1 u.1.2.2.1 u.1.2.2.2.1 u.1.2.2.2.2.1 u.1.2.2.2.2.2 ex) ++ (bC k oc u.2.1 u.2.2.1 u.2.2.2.1 u.2.2.2.2)) 0 0 := by
  intro sz
  refine xx_met (Qf := fun A => va_Qi (p_T_result ot tq ow oe oc ou oa to tt wc wl wb wk kk kf ku ec ew el ea ed et ex cc ca cl ch x a d un xr t) (xx_B D vwCl (xT k) A (fun (u : (Nat × (Nat → Nat) × (Nat → Int32) × (Nat → Int64) × (Nat → Int64) × (Nat → Int64)) × (Nat × (Nat → Int64) × (Nat → Int32) × (Nat → Int32))) => (bT k ot tq ow oe oc ou oa to tt) ++ (bW k ow wc wl wb wk kk kf ku) ++ (bE k oe u.1.1 u.1.2.1 u.1.2.2.1 u.1.2.2.2.1 u.1.2.2.2.2.1 u.1.2.2.2.2.2 ex) ++ (bC k oc u.2.1 u.2.2.1 u.2.2.2.1 u.2.2.2.2))) A) (cc := cX5_result) (maxL := 15) (ret := (some .int)) (by decide) rfl (Nat.le_of_ble_eq_true rfl) ?_
  intro p e s m below meth c A ls hx hb hr hts hown hlocks hin hml hA hS hP hD hK hN hl
  have hl : lv_has ls 15 [(0, .ref ot), (1, .int x), (2, .long a), (4, .long d), (6, .long un), (8, .long xr), (10, .long t)] := hl
  have hown : s.vm.findClass RX5 = some m.cls := hown
  have hinW := inX5
  refine lv_aload_n hx hb dX5_result_0 rfl (lv_at hl 0 rfl) ?_
  refine va_get (D := D) (ci := 5) (v := .ref (ow 0)) (C := RX5) (T := TX5) (N := 8) hx hb hts hinW hown hK hP 0 rfl rfl 1 (by decide) (hts _ tw_138) (fun _ h9 => h9) rfl dX5_result_1 ?_
  refine lv_iload_n hx hb dX5_result_4 rfl (lv_at hl 1 rfl) ?_
  refine xx_calli ((bT k ot tq ow oe oc ou oa to tt) ++ (bE k oe ec ew el ea ed et ex) ++ (bC k oc cc ca cl ch)) [1, 2, 3, 4, 5, 6, 7] [0, 8, 9, 10, 11, 12, 13, 14, 15, 16, 17, 18] (va_runV (As := [.int x]) (rest := []) ⟨hx, hb, hml, hown, hts⟩ (c_W_may l D k ow wc wl wb wk kk kf ku x (by omega) s.heap.size) (cwV 1 hts (xx_gV tw_205 tw_182 tw_183 tw_3 tw_184) rfl rfl rfl (by decide +kernel) ⟨Nat.le_of_ble_eq_true rfl, Nat.le_of_ble_eq_true rfl⟩) (xx_preV hK hN hP hD [1, 2, 3, 4, 5, 6, 7] (by decide) rfl 4 1 rfl rfl) rfl rfl hl.1 rfl (lv_room (Nat.le_of_ble_eq_true rfl)) dX5_result_5 ⟨Nat.le_of_ble_eq_true rfl, Nat.le_of_ble_eq_true rfl⟩) hP hD hS hA rfl rfl (by decide) (by decide) (fun r5 u5 H locs hw5 hP hD hS => ?_)
  rcases hw5 with ⟨rfl, j5, hj5, hx5, hb5⟩ | ⟨rfl, hq5⟩
  · subst hx5
    have hP : va_P D vwCl ((bT k ot tq ow oe oc ou oa to tt) ++ (bE k oe ec ew el ea ed et ex) ++ (bC k oc cc ca cl ch) ++ (bW k ow wc wl wb wk kk kf ku)) H := hP
    have hD : va_D A ((bT k ot tq ow oe oc ou oa to tt) ++ (bE k oe ec ew el ea ed et ex) ++ (bC k oc cc ca cl ch) ++ (bW k ow wc wl wb wk kk kf ku)) := hD
    refine lv_if_eq (tgt := 18) hx hb dX5_result_8 (by decide) (fun c => absurd c (by decide)) (fun _ => ?_)
    refine lv_lload hx hb dX5_result_11 (lv_at hl 6 rfl) ?_
    refine lv_lconst (v := 0) hx hb dX5_result_13 (by decide) ?_
    refine W.lcmp hx hb dX5_result_14 ?_
    refine lv_if_ge (tgt := 20) hx hb dX5_result_15 (by decide) (fun c15 => ?_) (fun c15 => ?_)
    · have c15 : 0 ≤ t := (lg_cmp_ge t 0).mp c15
      refine lv_lload hx hb dX5_result_20 (lv_at hl 4 rfl) ?_
      refine lv_lload_n hx hb dX5_result_22 rfl (lv_at hl 2 rfl) ?_
      refine lv_lload hx hb dX5_result_23 (lv_at hl 3 rfl) ?_
      refine xx_calll ((bT k ot tq ow oe oc ou oa to tt) ++ (bE k oe ec ew el ea ed et ex) ++ (bC k oc cc ca cl ch) ++ (bW k ow wc wl wb wk kk kf ku)) [] [0, 1, 2, 3, 4, 5, 6, 7, 8, 9, 10, 11, 12, 13, 14, 15, 16, 17, 18] (va_runS (As := [.long un, .long a, .long d]) (rest := []) ⟨hx, hb, hml, hown, hts⟩ (c_sumUnder l D k un a d H.size) (va_cwS 3 hts (xx_gS tw_193 tw_194 tw_1 tw_195) rfl rfl rfl (by decide +kernel) ⟨Nat.le_of_ble_eq_true rfl, Nat.le_of_ble_eq_true rfl⟩) (xx_preS hK hN hP hD [] (by decide) rfl) rfl rfl hl.1 rfl (lv_room (Nat.le_of_ble_eq_true rfl)) dX5_result_25 ⟨Nat.le_of_ble_eq_true rfl, Nat.le_of_ble_eq_true rfl⟩) hP hD hS hA rfl rfl (by decide) (by decide) (fun r25 u25 H locs hw25 hP hD hS => ?_)
      obtain rfl := hw25
      have hP : va_P D vwCl ((bT k ot tq ow oe oc ou oa to tt) ++ (bE k oe ec ew el ea ed et ex) ++ (bC k oc cc ca cl ch) ++ (bW k ow wc wl wb wk kk kf ku)) H := hP
      have hD : va_D A ((bT k ot tq ow oe oc ou oa to tt) ++ (bE k oe ec ew el ea ed et ex) ++ (bC k oc cc ca cl ch) ++ (bW k ow wc wl wb wk kk kf ku)) := hD
      refine lv_lload hx hb dX5_result_28 (lv_at hl 5 rfl) ?_
      refine lv_lxor hx hb dX5_result_30 ?_
      refine lv_lstore (lv' := [(12, .long ((xs_sum un a d) ^^^ xr)), (0, .ref ot), (1, .int (nI j5)), (2, .long a), (4, .long d), (6, .long un), (8, .long xr), (10, .long t)]) hx hb dX5_result_31 hl (by decide) rfl (fun ls hl => ?_)
      refine lv_aload_n hx hb dX5_result_33 rfl (lv_at hl 1 rfl) ?_
      refine va_get (D := D) (ci := 5) (v := .ref (ow 0)) (C := RX5) (T := TX5) (N := 8) hx hb hts hinW hown hK hP 0 rfl rfl 1 (by decide) (hts _ tw_138) (fun _ h9 => h9) rfl dX5_result_34 ?_
      refine lv_iload_n hx hb dX5_result_37 rfl (lv_at hl 2 rfl) ?_
      refine lv_lload_n hx hb dX5_result_38 rfl (lv_at hl 3 rfl) ?_
      refine lv_lload hx hb dX5_result_39 (lv_at hl 4 rfl) ?_
      refine lv_lload hx hb dX5_result_41 (lv_at hl 0 rfl) ?_
      refine lv_lload hx hb dX5_result_43 (lv_at hl 7 rfl) ?_
      refine xx_calli ((bT k ot tq ow oe oc ou oa to tt) ++ (bE k oe ec ew el ea ed et ex) ++ (bC k oc cc ca cl ch)) [12, 13, 14, 15, 16, 17, 18] [0, 1, 2, 3, 4, 5, 6, 7, 8, 9, 10, 11] (va_runV (As := [.int (nI j5), .long a, .long d, .long ((xs_sum un a d) ^^^ xr), .long t]) (rest := []) ⟨hx, hb, hml, hown, hts⟩ (c_W_fits l D k ow wc wl wb wk kk kf ku j5 a d ((xs_sum un a d) ^^^ xr) t hwc hj5 hwk H.size) (cwV 5 hts (xx_gV tw_206 tw_207 tw_208 tw_3 tw_209) rfl rfl rfl (by decide +kernel) ⟨Nat.le_of_ble_eq_true rfl, Nat.le_of_ble_eq_true rfl⟩) (xx_preV hK hN hP hD [12, 13, 14, 15, 16, 17, 18] (by decide) rfl 4 12 rfl rfl) rfl rfl hl.1 rfl (lv_room (Nat.le_of_ble_eq_true rfl)) dX5_result_45 ⟨Nat.le_of_ble_eq_true rfl, Nat.le_of_ble_eq_true rfl⟩) hP hD hS hA rfl rfl (by decide) (by decide) (fun r45 u45 H locs hw45 hP hD hS => ?_)
      rcases hw45 with ⟨rfl, hq45⟩ | ⟨rfl, hq45⟩
      · have hP : va_P D vwCl ((bT k ot tq ow oe oc ou oa to tt) ++ (bE k oe ec ew el ea ed et ex) ++ (bC k oc cc ca cl ch) ++ (bW k ow wc wl wb wk kk kf ku)) H := hP
        have hD : va_D A ((bT k ot tq ow oe oc ou oa to tt) ++ (bE k oe ec ew el ea ed et ex) ++ (bC k oc cc ca cl ch) ++ (bW k ow wc wl wb wk kk kf ku)) := hD
        refine lv_if_ne (tgt := 54) hx hb dX5_result_48 (by decide) (fun _ => ?_) (fun c => absurd c (by decide))
        refine lv_aload_n hx hb dX5_result_54 rfl (lv_at hl 1 rfl) ?_
        refine va_get (D := D) (ci := 5) (v := .ref (oe 0)) (C := RX5) (T := TX5) (N := 8) hx hb hts hinW hown hK hP 0 rfl rfl 2 (by decide) (hts _ tw_139) (fun _ h9 => h9) rfl dX5_result_55 ?_
        refine lv_iload_n hx hb dX5_result_58 rfl (lv_at hl 2 rfl) ?_
        refine lv_lload_n hx hb dX5_result_59 rfl (lv_at hl 3 rfl) ?_
        refine lv_lload hx hb dX5_result_60 (lv_at hl 4 rfl) ?_
        refine xx_calli ((bT k ot tq ow oe oc ou oa to tt) ++ (bC k oc cc ca cl ch) ++ (bW k ow wc wl wb wk kk kf ku)) [1, 2, 3, 4, 5, 6, 7] [0, 8, 9, 10, 11, 12, 13, 14, 15, 16, 17, 18] (va_runV (As := [.int (nI j5), .long a, .long d]) (rest := []) ⟨hx, hb, hml, hown, hts⟩ (c_E_like l D k oe ec ew el ea ed et ex j5 a d hec hew (by omega) H.size) (cwV 3 hts (xx_gV tw_211 tw_212 tw_213 tw_4 tw_214) rfl rfl rfl (by decide +kernel) ⟨Nat.le_of_ble_eq_true rfl, Nat.le_of_ble_eq_true rfl⟩) (xx_preV hK hN hP hD [1, 2, 3, 4, 5, 6, 7] (by decide) rfl 2 1 rfl rfl) rfl rfl hl.1 rfl (lv_room (Nat.le_of_ble_eq_true rfl)) dX5_result_62 ⟨Nat.le_of_ble_eq_true rfl, Nat.le_of_ble_eq_true rfl⟩) hP hD hS hA rfl rfl (by decide) (by decide) (fun r62 u62 H locs hw62 hP hD hS => ?_)
        rcases hw62 with ⟨rfl, hq62⟩ | ⟨rfl, hq62⟩
        · have hP : va_P D vwCl ((bT k ot tq ow oe oc ou oa to tt) ++ (bC k oc cc ca cl ch) ++ (bW k ow wc wl wb wk kk kf ku) ++ (bE k oe ec ew el ea ed et ex)) H := hP
          have hD : va_D A ((bT k ot tq ow oe oc ou oa to tt) ++ (bC k oc cc ca cl ch) ++ (bW k ow wc wl wb wk kk kf ku) ++ (bE k oe ec ew el ea ed et ex)) := hD
          refine lv_if_eq (tgt := 71) hx hb dX5_result_65 (by decide) (fun c => absurd c (by decide)) (fun _ => ?_)
          refine lv_bipush (v := (-3)) hx hb dX5_result_68 (by decide) ?_
          refine xx_iret ((ec, ew, el, ea, ed, et), (cc, ca, cl, ch)) hx hb hr hlocks hS hK (xx_subP hP [0, 5, 6, 7, 8, 9, 10, 11, 12, 13, 14, 15, 16, 17, 18, 1, 2, 3, 4] rfl) (hD.sub [0, 5, 6, 7, 8, 9, 10, 11, 12, 13, 14, 15, 16, 17, 18, 1, 2, 3, 4] (by decide) rfl) dX5_result_70 ?_
          exact Or.inr ⟨j5, ⟨hj5, rfl, hb5, xx_lnlt c15⟩, Or.inr (Or.inl ⟨rfl, hq45, hq62, rfl⟩)⟩
        · have hP : va_P D vwCl ((bT k ot tq ow oe oc ou oa to tt) ++ (bC k oc cc ca cl ch) ++ (bW k ow wc wl wb wk kk kf ku) ++ (bE k oe ec ew el ea ed et ex)) H := hP
          have hD : va_D A ((bT k ot tq ow oe oc ou oa to tt) ++ (bC k oc cc ca cl ch) ++ (bW k ow wc wl wb wk kk kf ku) ++ (bE k oe ec ew el ea ed et ex)) := hD
          refine lv_if_eq (tgt := 71) hx hb dX5_result_65 (by decide) (fun _ => ?_) (fun c => absurd c (by decide))
          refine lv_aload_n hx hb dX5_result_71 rfl (lv_at hl 1 rfl) ?_
          refine va_get (D := D) (ci := 5) (v := .ref (oe 0)) (C := RX5) (T := TX5) (N := 8) hx hb hts hinW hown hK hP 0 rfl rfl 2 (by decide) (hts _ tw_139) (fun _ h9 => h9) rfl dX5_result_72 ?_
          refine lv_iload_n hx hb dX5_result_75 rfl (lv_at hl 2 rfl) ?_
          refine lv_aload_n hx hb dX5_result_76 rfl (lv_at hl 1 rfl) ?_
          refine va_get (D := D) (ci := 5) (v := .ref (ow 0)) (C := RX5) (T := TX5) (N := 8) hx hb hts hinW hown hK hP 0 rfl rfl 1 (by decide) (hts _ tw_138) (fun _ h9 => h9) rfl dX5_result_77 ?_
          refine lv_iload_n hx hb dX5_result_80 rfl (lv_at hl 2 rfl) ?_
          refine xx_calli ((bT k ot tq ow oe oc ou oa to tt) ++ (bC k oc cc ca cl ch) ++ (bE k oe ec ew el ea ed et ex)) [5, 6, 7, 8, 9, 10, 11] [0, 1, 2, 3, 4, 12, 13, 14, 15, 16, 17, 18] (va_runV (As := [.int (nI j5)]) (rest := [.int (nI j5), .ref (oe 0)]) ⟨hx, hb, hml, hown, hts⟩ (c_W_levelOf l D k ow wc wl wb wk kk kf ku j5 hwc hj5 H.size) (cwV 1 hts (xx_gV tw_215 tw_216 tw_217 tw_3 tw_218) rfl rfl rfl (by decide +kernel) ⟨Nat.le_of_ble_eq_true rfl, Nat.le_of_ble_eq_true rfl⟩) (xx_preV hK hN hP hD [5, 6, 7, 8, 9, 10, 11] (by decide) rfl 4 5 rfl rfl) rfl rfl hl.1 rfl (lv_room (Nat.le_of_ble_eq_true rfl)) dX5_result_81 ⟨Nat.le_of_ble_eq_true rfl, Nat.le_of_ble_eq_true rfl⟩) hP hD hS hA rfl rfl (by decide) (by decide) (fun r81 u81 H locs hw81 hP hD hS => ?_)
          obtain rfl := hw81
          have hP : va_P D vwCl ((bT k ot tq ow oe oc ou oa to tt) ++ (bC k oc cc ca cl ch) ++ (bE k oe ec ew el ea ed et ex) ++ (bW k ow wc wl wb wk kk kf ku)) H := hP
          have hD : va_D A ((bT k ot tq ow oe oc ou oa to tt) ++ (bC k oc cc ca cl ch) ++ (bE k oe ec ew el ea ed et ex) ++ (bW k ow wc wl wb wk kk kf ku)) := hD
          refine lv_lload_n hx hb dX5_result_84 rfl (lv_at hl 3 rfl) ?_
          refine lv_lload hx hb dX5_result_85 (lv_at hl 4 rfl) ?_
          refine lv_lload hx hb dX5_result_87 (lv_at hl 7 rfl) ?_
          refine xx_calli ((bT k ot tq ow oe oc ou oa to tt) ++ (bC k oc cc ca cl ch) ++ (bW k ow wc wl wb wk kk kf ku)) [5, 6, 7, 8, 9, 10, 11] [0, 1, 2, 3, 4, 12, 13, 14, 15, 16, 17, 18] (va_runV (As := [.int (nI j5), .int (wl j5), .long a, .long d, .long t]) (rest := []) ⟨hx, hb, hml, hown, hts⟩ (c_E_add l D k oe ec ew el ea ed et ex j5 (wl j5) a d t (by omega) H.size) (cwV 5 hts (xx_gV tw_219 tw_220 tw_221 tw_4 tw_222) rfl rfl rfl (by decide +kernel) ⟨Nat.le_of_ble_eq_true rfl, Nat.le_of_ble_eq_true rfl⟩) (xx_preV hK hN hP hD [5, 6, 7, 8, 9, 10, 11] (by decide) rfl 2 5 rfl rfl) rfl rfl hl.1 rfl (lv_room (Nat.le_of_ble_eq_true rfl)) dX5_result_89 ⟨Nat.le_of_ble_eq_true rfl, Nat.le_of_ble_eq_true rfl⟩) hP hD hS hA rfl rfl (by decide) (by decide) (fun r89 u89 H locs hw89 hP hD hS => ?_)
          rcases hw89 with ⟨rfl, hq89, rfl⟩ | ⟨rfl, hq89, rfl⟩
          · have hP : va_P D vwCl ((bT k ot tq ow oe oc ou oa to tt) ++ (bC k oc cc ca cl ch) ++ (bW k ow wc wl wb wk kk kf ku) ++ (bE k oe ec ew el ea ed et ex)) H := hP
            have hD : va_D A ((bT k ot tq ow oe oc ou oa to tt) ++ (bC k oc cc ca cl ch) ++ (bW k ow wc wl wb wk kk kf ku) ++ (bE k oe ec ew el ea ed et ex)) := hD
            refine lv_istore (lv' := [(14, .int (-1)), (12, .long ((xs_sum un a d) ^^^ xr)), (0, .ref ot), (1, .int (nI j5)), (2, .long a), (4, .long d), (6, .long un), (8, .long xr), (10, .long t)]) hx hb dX5_result_92 hl (by decide) rfl (fun ls hl => ?_)
            refine lv_iload hx hb dX5_result_94 (lv_at hl 0 rfl) ?_
            refine lv_iconst (v := (-1)) hx hb dX5_result_96 (by decide) ?_
            refine lv_icmp_ne (tgt := 103) hx hb dX5_result_97 (by decide) (fun c => absurd c (by decide)) (fun _ => ?_)
            refine lv_bipush (v := (-4)) hx hb dX5_result_100 (by decide) ?_
            refine xx_iret ((ec, ew, el, ea, ed, et), (cc, ca, cl, ch)) hx hb hr hlocks hS hK (xx_subP hP [0, 5, 6, 7, 8, 9, 10, 11, 12, 13, 14, 15, 16, 17, 18, 1, 2, 3, 4] rfl) (hD.sub [0, 5, 6, 7, 8, 9, 10, 11, 12, 13, 14, 15, 16, 17, 18, 1, 2, 3, 4] (by decide) rfl) dX5_result_102 ?_
            exact Or.inr ⟨j5, ⟨hj5, rfl, hb5, xx_lnlt c15⟩, Or.inr (Or.inr (Or.inl ⟨rfl, hq45, hq62, hq89, rfl⟩))⟩
          · have hP : va_P D vwCl ((bT k ot tq ow oe oc ou oa to tt) ++ (bC k oc cc ca cl ch) ++ (bW k ow wc wl wb wk kk kf ku) ++ (bE k oe (ec + 1) (xu_N ew ec j5) (upd el ec (wl j5)) (vp_updL ea ec a) (vp_updL ed ec d) (vp_updL et ec t) ex)) H := hP
            have hD : va_D A ((bT k ot tq ow oe oc ou oa to tt) ++ (bC k oc cc ca cl ch) ++ (bW k ow wc wl wb wk kk kf ku) ++ (bE k oe (ec + 1) (xu_N ew ec j5) (upd el ec (wl j5)) (vp_updL ea ec a) (vp_updL ed ec d) (vp_updL et ec t) ex)) := hD
            refine lv_istore (lv' := [(14, .int (nI ec)), (12, .long ((xs_sum un a d) ^^^ xr)), (0, .ref ot), (1, .int (nI j5)), (2, .long a), (4, .long d), (6, .long un), (8, .long xr), (10, .long t)]) hx hb dX5_result_92 hl (by decide) rfl (fun ls hl => ?_)
            refine lv_iload hx hb dX5_result_94 (lv_at hl 0 rfl) ?_
            refine lv_iconst (v := (-1)) hx hb dX5_result_96 (by decide) ?_
            refine lv_icmp_ne (tgt := 103) hx hb dX5_result_97 (by decide) (fun _ => ?_) (fun c => absurd c (xx_nm1 (by omega)))
            refine lv_aload_n hx hb dX5_result_103 rfl (lv_at hl 2 rfl) ?_
            refine lv_iload hx hb dX5_result_104 (lv_at hl 0 rfl) ?_
            refine lv_lload_n hx hb dX5_result_106 rfl (lv_at hl 4 rfl) ?_
            refine xx_callv (bW k ow wc wl wb wk kk kf ku) [0, 12, 13, 14, 15, 16, 17, 18, 1, 2, 3, 4] [5, 6, 7, 8, 9, 10, 11] (va_runV (As := [.int (nI ec), .long a]) (rest := []) ⟨hx, hb, hml, hown, hts⟩ (c_T_note l D k ot tq ow oe oc ou oa to tt (ec + 1) (xu_N ew ec j5) (upd el ec (wl j5)) (vp_updL ea ec a) (vp_updL ed ec d) (vp_updL et ec t) ex cc ca cl ch ec a (by omega) hcc (by omega) H.size) (cwV 2 hts (xx_gV tw_223 tw_225 ts_0 tw_1 tw_226) rfl rfl rfl (by decide +kernel) ⟨Nat.le_of_ble_eq_true rfl, Nat.le_of_ble_eq_true rfl⟩) (xx_preV hK hN hP hD [0, 12, 13, 14, 15, 16, 17, 18, 1, 2, 3, 4] (by decide) rfl 5 0 rfl rfl) rfl rfl hl.1 rfl (lv_room (Nat.le_of_ble_eq_true rfl)) dX5_result_107 ⟨Nat.le_of_ble_eq_true rfl, Nat.le_of_ble_eq_true rfl⟩) hP hD hS hA rfl rfl (by decide) (by decide) (fun u107 H locs hw107 hP hD hS => ?_)
            have hP : va_P D vwCl ((bW k ow wc wl wb wk kk kf ku) ++ (bT k ot tq ow oe oc ou oa to tt) ++ (bE k oe (ec + 1) (xu_N ew ec j5) (upd el ec (wl j5)) (vp_updL ea ec a) (vp_updL ed ec d) (vp_updL et ec t) ex) ++ (bC k oc u107.1 u107.2.1 u107.2.2.1 u107.2.2.2)) H := hP
            have hD : va_D A ((bW k ow wc wl wb wk kk kf ku) ++ (bT k ot tq ow oe oc ou oa to tt) ++ (bE k oe (ec + 1) (xu_N ew ec j5) (upd el ec (wl j5)) (vp_updL ea ec a) (vp_updL ed ec d) (vp_updL et ec t) ex) ++ (bC k oc u107.1 u107.2.1 u107.2.2.1 u107.2.2.2)) := hD
            refine lv_iload hx hb dX5_result_110 (lv_at hl 0 rfl) ?_
            refine xx_iret ((ec + 1, (xu_N ew ec j5), (upd el ec (wl j5)), (vp_updL ea ec a), (vp_updL ed ec d), (vp_updL et ec t)), (u107.1, u107.2.1, u107.2.2.1, u107.2.2.2)) hx hb hr hlocks hS hK (xx_subP hP [7, 0, 1, 2, 3, 4, 5, 6, 8, 9, 10, 11, 12, 13, 14, 15, 16, 17, 18] rfl) (hD.sub [7, 0, 1, 2, 3, 4, 5, 6, 8, 9, 10, 11, 12, 13, 14, 15, 16, 17, 18] (by decide) rfl) dX5_result_112 ?_
            exact Or.inr ⟨j5, ⟨hj5, rfl, hb5, xx_lnlt c15⟩, Or.inr (Or.inr (Or.inr ⟨rfl, hq45, hq62, hq89, rfl, hw107⟩))⟩
      · have hP : va_P D vwCl ((bT k ot tq ow oe oc ou oa to tt) ++ (bE k oe ec ew el ea ed et ex) ++ (bC k oc cc ca cl ch) ++ (bW k ow wc wl wb wk kk kf ku)) H := hP
        have hD : va_D A ((bT k ot tq ow oe oc ou oa to tt) ++ (bE k oe ec ew el ea ed et ex) ++ (bC k oc cc ca cl ch) ++ (bW k ow wc wl wb wk kk kf ku)) := hD
        refine lv_if_ne (tgt := 54) hx hb dX5_result_48 (by decide) (fun c => absurd c (by decide)) (fun _ => ?_)
        refine lv_bipush (v := (-2)) hx hb dX5_result_51 (by decide) ?_
        refine xx_iret ((ec, ew, el, ea, ed, et), (cc, ca, cl, ch)) hx hb hr hlocks hS hK (xx_subP hP [0, 12, 13, 14, 15, 16, 17, 18, 1, 2, 3, 4, 5, 6, 7, 8, 9, 10, 11] rfl) (hD.sub [0, 12, 13, 14, 15, 16, 17, 18, 1, 2, 3, 4, 5, 6, 7, 8, 9, 10, 11] (by decide) rfl) dX5_result_53 ?_
        exact Or.inr ⟨j5, ⟨hj5, rfl, hb5, xx_lnlt c15⟩, Or.inl ⟨rfl, hq45, rfl⟩⟩
    · have c15 : ¬ (0 ≤ t) := fun h => c15 ((lg_cmp_ge t 0).mpr h)
      refine lv_iconst (v := (-1)) hx hb dX5_result_18 (by decide) ?_
      refine xx_iret ((ec, ew, el, ea, ed, et), (cc, ca, cl, ch)) hx hb hr hlocks hS hK (xx_subP hP [0, 12, 13, 14, 15, 16, 17, 18, 1, 2, 3, 4, 5, 6, 7, 8, 9, 10, 11] rfl) (hD.sub [0, 12, 13, 14, 15, 16, 17, 18, 1, 2, 3, 4, 5, 6, 7, 8, 9, 10, 11] (by decide) rfl) dX5_result_19 ?_
      first | exact Or.inl ⟨rfl, Or.inl hq5, rfl⟩ | exact Or.inl ⟨rfl, Or.inr (xx_lnle c15), rfl⟩
  · have hP : va_P D vwCl ((bT k ot tq ow oe oc ou oa to tt) ++ (bE k oe ec ew el ea ed et ex) ++ (bC k oc cc ca cl ch) ++ (bW k ow wc wl wb wk kk kf ku)) H := hP
    have hD : va_D A ((bT k ot tq ow oe oc ou oa to tt) ++ (bE k oe ec ew el ea ed et ex) ++ (bC k oc cc ca cl ch) ++ (bW k ow wc wl wb wk kk kf ku)) := hD
    refine lv_if_eq (tgt := 18) hx hb dX5_result_8 (by decide) (fun _ => ?_) (fun c => absurd c (by decide))
    refine lv_iconst (v := (-1)) hx hb dX5_result_18 (by decide) ?_
    refine xx_iret ((ec, ew, el, ea, ed, et), (cc, ca, cl, ch)) hx hb hr hlocks hS hK (xx_subP hP [0, 12, 13, 14, 15, 16, 17, 18, 1, 2, 3, 4, 5, 6, 7, 8, 9, 10, 11] rfl) (hD.sub [0, 12, 13, 14, 15, 16, 17, 18, 1, 2, 3, 4, 5, 6, 7, 8, 9, 10, 11] (by decide) rfl) dX5_result_19 ?_
    first | exact Or.inl ⟨rfl, Or.inl hq5, rfl⟩ | exact Or.inl ⟨rfl, Or.inr (xx_lnle c15), rfl⟩
end
section
theorem dX5_counted_0 : decode cX5_counted 0 = .ok (.iload_n 3, 1) := by decide +kernel
theorem dX5_counted_1 : decode cX5_counted 1 = .ok (.invokestatic 112, 3) := by decide +kernel
theorem dX5_counted_4 : decode cX5_counted 4 = .ok (.ifCond .eq 11, 3) := by decide +kernel
theorem dX5_counted_7 : decode cX5_counted 7 = .ok (.iload 4, 2) := by decide +kernel
theorem dX5_counted_9 : decode cX5_counted 9 = .ok (.invokestatic 112, 3) := by decide +kernel
theorem dX5_counted_12 : decode cX5_counted 12 = .ok (.ifCond .ne 5, 3) := by decide +kernel
theorem dX5_counted_15 : decode cX5_counted 15 = .ok (.iconst (-1), 1) := by decide +kernel
theorem dX5_counted_16 : decode cX5_counted 16 = .ok (.ireturn, 1) := by decide +kernel
theorem dX5_counted_17 : decode cX5_counted 17 = .ok (.aload_n 0, 1) := by decide +kernel
theorem dX5_counted_18 : decode cX5_counted 18 = .ok (.getfield 46, 3) := by decide +kernel
theorem dX5_counted_21 : decode cX5_counted 21 = .ok (.aload_n 0, 1) := by decide +kernel
theorem dX5_counted_22 : decode cX5_counted 22 = .ok (.getfield 46, 3) := by decide +kernel
theorem dX5_counted_25 : decode cX5_counted 25 = .ok (.iload_n 3, 1) := by decide +kernel
theorem dX5_counted_26 : decode cX5_counted 26 = .ok (.iload 4, 2) := by decide +kernel
theorem dX5_counted_28 : decode cX5_counted 28 = .ok (.invokevirtual 115, 3) := by decide +kernel
theorem dX5_counted_31 : decode cX5_counted 31 = .ok (.invokevirtual 133, 3) := by decide +kernel
theorem dX5_counted_34 : decode cX5_counted 34 = .ok (.istore 7, 2) := by decide +kernel
theorem dX5_counted_36 : decode cX5_counted 36 = .ok (.aload_n 0, 1) := by decide +kernel
theorem dX5_counted_37 : decode cX5_counted 37 = .ok (.getfield 32, 3) := by decide +kernel
theorem dX5_counted_40 : decode cX5_counted 40 = .ok (.lload_n 1, 1) := by decide +kernel
theorem dX5_counted_41 : decode cX5_counted 41 = .ok (.iload 7, 2) := by decide +kernel
theorem dX5_counted_43 : decode cX5_counted 43 = .ok (.lload 5, 2) := by decide +kernel
theorem dX5_counted_45 : decode cX5_counted 45 = .ok (.invokevirtual 134, 3) := by decide +kernel
theorem dX5_counted_48 : decode cX5_counted 48 = .ok (.ireturn, 1) := by decide +kernel
theorem dX5_take_0 : decode cX5_take 0 = .ok (.iload_n 3, 1) := by decide +kernel
theorem dX5_take_1 : decode cX5_take 1 = .ok (.invokestatic 112, 3) := by decide +kernel
theorem dX5_take_4 : decode cX5_take 4 = .ok (.ifCond .eq 18, 3) := by decide +kernel
theorem dX5_take_7 : decode cX5_take 7 = .ok (.iload 4, 2) := by decide +kernel
theorem dX5_take_9 : decode cX5_take 9 = .ok (.invokestatic 112, 3) := by decide +kernel
theorem dX5_take_12 : decode cX5_take 12 = .ok (.ifCond .eq 10, 3) := by decide +kernel
theorem dX5_take_15 : decode cX5_take 15 = .ok (.lload 5, 2) := by decide +kernel
theorem dX5_take_17 : decode cX5_take 17 = .ok (.lconst 0, 1) := by decide +kernel
theorem dX5_take_18 : decode cX5_take 18 = .ok (.lcmp, 1) := by decide +kernel
theorem dX5_take_19 : decode cX5_take 19 = .ok (.ifCond .ge 6, 3) := by decide +kernel
theorem dX5_take_22 : decode cX5_take 22 = .ok (.bipush (-2), 2) := by decide +kernel
theorem dX5_take_24 : decode cX5_take 24 = .ok (.ireturn, 1) := by decide +kernel
theorem dX5_take_25 : decode cX5_take 25 = .ok (.aload_n 0, 1) := by decide +kernel
theorem dX5_take_26 : decode cX5_take 26 = .ok (.getfield 46, 3) := by decide +kernel
theorem dX5_take_29 : decode cX5_take 29 = .ok (.iload_n 3, 1) := by decide +kernel
theorem dX5_take_30 : decode cX5_take 30 = .ok (.iload 4, 2) := by decide +kernel
theorem dX5_take_32 : decode cX5_take 32 = .ok (.invokevirtual 115, 3) := by decide +kernel
theorem dX5_take_35 : decode cX5_take 35 = .ok (.istore 7, 2) := by decide +kernel
theorem dX5_take_37 : decode cX5_take 37 = .ok (.aload_n 0, 1) := by decide +kernel
theorem dX5_take_38 : decode cX5_take 38 = .ok (.getfield 57, 3) := by decide +kernel
theorem dX5_take_41 : decode cX5_take 41 = .ok (.ifCond .eq 16, 3) := by decide +kernel
theorem dX5_take_44 : decode cX5_take 44 = .ok (.aload_n 0, 1) := by decide +kernel
theorem dX5_take_45 : decode cX5_take 45 = .ok (.getfield 32, 3) := by decide +kernel
theorem dX5_take_48 : decode cX5_take 48 = .ok (.lload_n 1, 1) := by decide +kernel
theorem dX5_take_49 : decode cX5_take 49 = .ok (.lload 5, 2) := by decide +kernel
theorem dX5_take_51 : decode cX5_take 51 = .ok (.invokevirtual 118, 3) := by decide +kernel
theorem dX5_take_54 : decode cX5_take 54 = .ok (.goto 4, 3) := by decide +kernel
theorem dX5_take_57 : decode cX5_take 57 = .ok (.iconst (-1), 1) := by decide +kernel
theorem dX5_take_58 : decode cX5_take 58 = .ok (.istore 8, 2) := by decide +kernel
theorem dX5_take_60 : decode cX5_take 60 = .ok (.iload 8, 2) := by decide +kernel
theorem dX5_take_62 : decode cX5_take 62 = .ok (.iconst (-1), 1) := by decide +kernel
theorem dX5_take_63 : decode cX5_take 63 = .ok (.if_icmp .eq 33, 3) := by decide +kernel
theorem dX5_take_66 : decode cX5_take 66 = .ok (.aload_n 0, 1) := by decide +kernel
theorem dX5_take_67 : decode cX5_take 67 = .ok (.getfield 53, 3) := by decide +kernel
theorem dX5_take_70 : decode cX5_take 70 = .ok (.iload_n 3, 1) := by decide +kernel
theorem dX5_take_71 : decode cX5_take 71 = .ok (.iload 4, 2) := by decide +kernel
theorem dX5_take_73 : decode cX5_take 73 = .ok (.iload 7, 2) := by decide +kernel
theorem dX5_take_75 : decode cX5_take 75 = .ok (.iconst 0, 1) := by decide +kernel
theorem dX5_take_76 : decode cX5_take 76 = .ok (.iload 8, 2) := by decide +kernel
theorem dX5_take_78 : decode cX5_take 78 = .ok (.invokevirtual 122, 3) := by decide +kernel
theorem dX5_take_81 : decode cX5_take 81 = .ok (.aload_n 0, 1) := by decide +kernel
theorem dX5_take_82 : decode cX5_take 82 = .ok (.aload_n 0, 1) := by decide +kernel
theorem dX5_take_83 : decode cX5_take 83 = .ok (.getfield 32, 3) := by decide +kernel
theorem dX5_take_86 : decode cX5_take 86 = .ok (.iload 8, 2) := by decide +kernel
theorem dX5_take_88 : decode cX5_take 88 = .ok (.invokevirtual 125, 3) := by decide +kernel
theorem dX5_take_91 : decode cX5_take 91 = .ok (.putfield 61, 3) := by decide +kernel
theorem dX5_take_94 : decode cX5_take 94 = .ok (.iconst 2, 1) := by decide +kernel
theorem dX5_take_95 : decode cX5_take 95 = .ok (.ireturn, 1) := by decide +kernel
theorem dX5_take_96 : decode cX5_take 96 = .ok (.aload_n 0, 1) := by decide +kernel
theorem dX5_take_97 : decode cX5_take 97 = .ok (.getfield 39, 3) := by decide +kernel
theorem dX5_take_100 : decode cX5_take 100 = .ok (.lload_n 1, 1) := by decide +kernel
theorem dX5_take_101 : decode cX5_take 101 = .ok (.invokevirtual 129, 3) := by decide +kernel
theorem dX5_take_104 : decode cX5_take 104 = .ok (.ifCond .eq 5, 3) := by decide +kernel
theorem dX5_take_107 : decode cX5_take 107 = .ok (.iconst 0, 1) := by decide +kernel
theorem dX5_take_108 : decode cX5_take 108 = .ok (.ireturn, 1) := by decide +kernel
theorem dX5_take_109 : decode cX5_take 109 = .ok (.aload_n 0, 1) := by decide +kernel
theorem dX5_take_110 : decode cX5_take 110 = .ok (.getfield 46, 3) := by decide +kernel
theorem dX5_take_113 : decode cX5_take 113 = .ok (.iload 7, 2) := by decide +kernel
theorem dX5_take_115 : decode cX5_take 115 = .ok (.invokevirtual 133, 3) := by decide +kernel
theorem dX5_take_118 : decode cX5_take 118 = .ok (.istore 9, 2) := by decide +kernel
theorem dX5_take_120 : decode cX5_take 120 = .ok (.aload_n 0, 1) := by decide +kernel
theorem dX5_take_121 : decode cX5_take 121 = .ok (.getfield 32, 3) := by decide +kernel
theorem dX5_take_124 : decode cX5_take 124 = .ok (.lload_n 1, 1) := by decide +kernel
theorem dX5_take_125 : decode cX5_take 125 = .ok (.iload 9, 2) := by decide +kernel
theorem dX5_take_127 : decode cX5_take 127 = .ok (.lload 5, 2) := by decide +kernel
theorem dX5_take_129 : decode cX5_take 129 = .ok (.invokevirtual 134, 3) := by decide +kernel
theorem dX5_take_132 : decode cX5_take 132 = .ok (.istore 10, 2) := by decide +kernel
theorem dX5_take_134 : decode cX5_take 134 = .ok (.iload 10, 2) := by decide +kernel
theorem dX5_take_136 : decode cX5_take 136 = .ok (.aload_n 0, 1) := by decide +kernel
theorem dX5_take_137 : decode cX5_take 137 = .ok (.getfield 46, 3) := by decide +kernel
theorem dX5_take_140 : decode cX5_take 140 = .ok (.iload 7, 2) := by decide +kernel
theorem dX5_take_142 : decode cX5_take 142 = .ok (.aload_n 0, 1) := by decide +kernel
theorem dX5_take_143 : decode cX5_take 143 = .ok (.getfield 18, 3) := by decide +kernel
theorem dX5_take_146 : decode cX5_take 146 = .ok (.invokevirtual 138, 3) := by decide +kernel
theorem dX5_take_149 : decode cX5_take 149 = .ok (.if_icmp .lt 18, 3) := by decide +kernel
theorem dX5_take_152 : decode cX5_take 152 = .ok (.aload_n 0, 1) := by decide +kernel
theorem dX5_take_153 : decode cX5_take 153 = .ok (.getfield 32, 3) := by decide +kernel
theorem dX5_take_156 : decode cX5_take 156 = .ok (.lload_n 1, 1) := by decide +kernel
theorem dX5_take_157 : decode cX5_take 157 = .ok (.iload 9, 2) := by decide +kernel
theorem dX5_take_159 : decode cX5_take 159 = .ok (.lload 5, 2) := by decide +kernel
theorem dX5_take_161 : decode cX5_take 161 = .ok (.invokevirtual 141, 3) := by decide +kernel
theorem dX5_take_164 : decode cX5_take 164 = .ok (.ifCond .ne 5, 3) := by decide +kernel
theorem dX5_take_167 : decode cX5_take 167 = .ok (.iconst (-1), 1) := by decide +kernel
theorem dX5_take_168 : decode cX5_take 168 = .ok (.ireturn, 1) := by decide +kernel
theorem dX5_take_169 : decode cX5_take 169 = .ok (.aload_n 0, 1) := by decide +kernel
theorem dX5_take_170 : decode cX5_take 170 = .ok (.getfield 32, 3) := by decide +kernel
theorem dX5_take_173 : decode cX5_take 173 = .ok (.lload_n 1, 1) := by decide +kernel
theorem dX5_take_174 : decode cX5_take 174 = .ok (.iload 9, 2) := by decide +kernel
theorem dX5_take_176 : decode cX5_take 176 = .ok (.lload 5, 2) := by decide +kernel
theorem dX5_take_178 : decode cX5_take 178 = .ok (.invokevirtual 145, 3) := by decide +kernel
theorem dX5_take_181 : decode cX5_take 181 = .ok (.istore 11, 2) := by decide +kernel
theorem dX5_take_183 : decode cX5_take 183 = .ok (.aload_n 0, 1) := by decide +kernel
theorem dX5_take_184 : decode cX5_take 184 = .ok (.getfield 53, 3) := by decide +kernel
theorem dX5_take_187 : decode cX5_take 187 = .ok (.iload_n 3, 1) := by decide +kernel
theorem dX5_take_188 : decode cX5_take 188 = .ok (.iload 4, 2) := by decide +kernel
theorem dX5_take_190 : decode cX5_take 190 = .ok (.iload 7, 2) := by decide +kernel
theorem dX5_take_192 : decode cX5_take 192 = .ok (.iload 10, 2) := by decide +kernel
theorem dX5_take_194 : decode cX5_take 194 = .ok (.iload 11, 2) := by decide +kernel
theorem dX5_take_196 : decode cX5_take 196 = .ok (.invokevirtual 122, 3) := by decide +kernel
theorem dX5_take_199 : decode cX5_take 199 = .ok (.aload_n 0, 1) := by decide +kernel
theorem dX5_take_200 : decode cX5_take 200 = .ok (.aload_n 0, 1) := by decide +kernel
theorem dX5_take_201 : decode cX5_take 201 = .ok (.getfield 32, 3) := by decide +kernel
theorem dX5_take_204 : decode cX5_take 204 = .ok (.iload 11, 2) := by decide +kernel
theorem dX5_take_206 : decode cX5_take 206 = .ok (.invokevirtual 125, 3) := by decide +kernel
theorem dX5_take_209 : decode cX5_take 209 = .ok (.putfield 61, 3) := by decide +kernel
theorem dX5_take_212 : decode cX5_take 212 = .ok (.iconst 1, 1) := by decide +kernel
theorem dX5_take_213 : decode cX5_take 213 = .ok (.ireturn, 1) := by decide +kernel
def p_T_counted (ot : Nat) (tq : Int32) (ow : Nat → Nat) (oe : Nat → Nat) (oc : Nat → Nat) (ou : Nat → Nat) (oa : Nat → Nat) (to : Bool) (tt : Int64) (ec : Nat) (ew : Nat → Nat) (el : Nat → Int32) (ea : Nat → Int64) (ed : Nat → Int64) (et : Nat → Int64) (ex : Nat → Bool) (uc : Nat) (ut : Nat → Int32) (ub : Nat → Int32) (ul : Nat → Int32) (uw : Nat → Int32) (a : Int64) (t : Int32) (b : Int32) (tm : Int64) : Int32 → Unit → Prop := fun r u => (r = (-1) ∧ ¬ (ixN 8 t ∧ ixN 8 b)) ∨ ((ixN 8 t ∧ ixN 8 b) ∧ ∃ q lv, p_U_best ou uc ut ub ul uw t b q () ∧ p_U_level ou uc ut ub ul uw q lv () ∧ r = xs_pop (xs_seen (fun j => decide (ex j = false ∧ ea j = a ∧ ¬ (el j < lv) ∧ ¬ (tm < et j))) ew ec))
set_option maxHeartbeats 4000000 in
set_option maxRecDepth 100000 in
theorem c_T_counted (l : Launch) (D : va_G) (k : Nat → ClassId) (ot : Nat) (tq : Int32) (ow : Nat → Nat) (oe : Nat → Nat) (oc : Nat → Nat) (ou : Nat → Nat) (oa : Nat → Nat) (to : Bool) (tt : Int64) (ec : Nat) (ew : Nat → Nat) (el : Nat → Int32) (ea : Nat → Int64) (ed : Nat → Int64) (et : Nat → Int64) (ex : Nat → Bool) (uc : Nat) (ut : Nat → Int32) (ub : Nat → Int32) (ul : Nat → Int32) (uw : Nat → Int32) (a : Int64) (t : Int32) (b : Int32) (tm : Int64) (hec : ec ≤ 100) (hew : ∀ i, ew i < 12) (huc : uc ≤ 20) : xx_Ci l yX5_counted (.code yX5_counted cX5_counted 8 (some .int) :: xall) ({ frames := 3, cells := 0, slots := 0, locals := 74 } : Room) D vwCl (xT k) [.ref ot, .long a, .int t, .int b, .long tm] ((bT k ot tq ow oe oc ou oa to tt) ++ (bE k oe ec ew el ea ed et ex) ++ (bU k ou uc ut ub ul uw)) (p_T_counted ot tq ow oe oc ou oa to tt ec ew el ea ed et ex uc ut ub ul uw a t b tm) (fun (u : Unit) => (bT k ot tq ow oe oc ou oa to tt) ++ (bE k oe ec ew el ea ed et ex) ++ (bU k ou uc ut ub ul uw)) 0 0 := by
  intro sz
  refine xx_met (Qf := fun A => va_Qi (p_T_counted ot tq ow oe oc ou oa to tt ec ew el ea ed et ex uc ut ub ul uw a t b tm) (xx_B D vwCl (xT k) A (fun (u : Unit) => (bT k ot tq ow oe oc ou oa to tt) ++ (bE k oe ec ew el ea ed et ex) ++ (bU k ou uc ut ub ul uw))) A) (cc := cX5_counted) (maxL := 8) (ret := (some .int)) (by decide) rfl (Nat.le_of_ble_eq_true rfl) ?_
  intro p e s m below meth c A ls hx hb hr hts hown hlocks hin hml hA hS hP hD hK hN hl
  have hl : lv_has ls 8 [(0, .ref ot), (1, .long a), (3, .int t), (4, .int b), (5, .long tm)] := hl
  have hown : s.vm.findClass RX5 = some m.cls := hown
  have hinW := inX5
  refine lv_iload_n hx hb dX5_counted_0 rfl (lv_at hl 2 rfl) ?_
  refine xx_calli ((bT k ot tq ow oe oc ou oa to tt) ++ (bE k oe ec ew el ea ed et ex) ++ (bU k ou uc ut ub ul uw)) [] [0, 1, 2, 3, 4, 5, 6, 7, 8, 9, 10, 11, 12] (va_runS (As := [.int t]) (rest := []) ⟨hx, hb, hml, hown, hts⟩ (c_isPlace l D k t s.heap.size) (va_cwS 1 hts (xx_gS tw_271 tw_272 tw_1 tw_273) rfl rfl rfl (by decide +kernel) ⟨Nat.le_of_ble_eq_true rfl, Nat.le_of_ble_eq_true rfl⟩) (xx_preS hK hN hP hD [] (by decide) rfl) rfl rfl hl.1 rfl (lv_room (Nat.le_of_ble_eq_true rfl)) dX5_counted_1 ⟨Nat.le_of_ble_eq_true rfl, Nat.le_of_ble_eq_true rfl⟩) hP hD hS hA rfl rfl (by decide) (by decide) (fun r1 u1 H locs hw1 hP hD hS => ?_)
  rcases hw1 with ⟨rfl, hq1⟩ | ⟨rfl, hq1⟩
  · have hP : va_P D vwCl ((bT k ot tq ow oe oc ou oa to tt) ++ (bE k oe ec ew el ea ed et ex) ++ (bU k ou uc ut ub ul uw)) H := hP
    have hD : va_D A ((bT k ot tq ow oe oc ou oa to tt) ++ (bE k oe ec ew el ea ed et ex) ++ (bU k ou uc ut ub ul uw)) := hD
    refine lv_if_eq (tgt := 15) hx hb dX5_counted_4 (by decide) (fun c => absurd c (by decide)) (fun _ => ?_)
    refine lv_iload hx hb dX5_counted_7 (lv_at hl 3 rfl) ?_
    refine xx_calli ((bT k ot tq ow oe oc ou oa to tt) ++ (bE k oe ec ew el ea ed et ex) ++ (bU k ou uc ut ub ul uw)) [] [0, 1, 2, 3, 4, 5, 6, 7, 8, 9, 10, 11, 12] (va_runS (As := [.int b]) (rest := []) ⟨hx, hb, hml, hown, hts⟩ (c_isPlace l D k b H.size) (va_cwS 1 hts (xx_gS tw_271 tw_272 tw_1 tw_273) rfl rfl rfl (by decide +kernel) ⟨Nat.le_of_ble_eq_true rfl, Nat.le_of_ble_eq_true rfl⟩) (xx_preS hK hN hP hD [] (by decide) rfl) rfl rfl hl.1 rfl (lv_room (Nat.le_of_ble_eq_true rfl)) dX5_counted_9 ⟨Nat.le_of_ble_eq_true rfl, Nat.le_of_ble_eq_true rfl⟩) hP hD hS hA rfl rfl (by decide) (by decide) (fun r9 u9 H locs hw9 hP hD hS => ?_)
    rcases hw9 with ⟨rfl, hq9⟩ | ⟨rfl, hq9⟩
    · have hP : va_P D vwCl ((bT k ot tq ow oe oc ou oa to tt) ++ (bE k oe ec ew el ea ed et ex) ++ (bU k ou uc ut ub ul uw)) H := hP
      have hD : va_D A ((bT k ot tq ow oe oc ou oa to tt) ++ (bE k oe ec ew el ea ed et ex) ++ (bU k ou uc ut ub ul uw)) := hD
      refine lv_if_ne (tgt := 17) hx hb dX5_counted_12 (by decide) (fun _ => ?_) (fun c => absurd c (by decide))
      refine lv_aload_n hx hb dX5_counted_17 rfl (lv_at hl 0 rfl) ?_
      refine va_get (D := D) (ci := 5) (v := .ref (ou 0)) (C := RX5) (T := TX5) (N := 8) hx hb hts hinW hown hK hP 0 rfl rfl 4 (by decide) (hts _ tw_141) (fun _ h9 => h9) rfl dX5_counted_18 ?_
      refine lv_aload_n hx hb dX5_counted_21 rfl (lv_at hl 0 rfl) ?_
      refine va_get (D := D) (ci := 5) (v := .ref (ou 0)) (C := RX5) (T := TX5) (N := 8) hx hb hts hinW hown hK hP 0 rfl rfl 4 (by decide) (hts _ tw_141) (fun _ h9 => h9) rfl dX5_counted_22 ?_
      refine lv_iload_n hx hb dX5_counted_25 rfl (lv_at hl 2 rfl) ?_
      refine lv_iload hx hb dX5_counted_26 (lv_at hl 3 rfl) ?_
      refine xx_calli ((bT k ot tq ow oe oc ou oa to tt) ++ (bE k oe ec ew el ea ed et ex)) [8, 9, 10, 11, 12] [0, 1, 2, 3, 4, 5, 6, 7] (va_runV (As := [.int t, .int b]) (rest := [.ref (ou 0)]) ⟨hx, hb, hml, hown, hts⟩ (c_U_best l D k ou uc ut ub ul uw t b (by omega) H.size) (cwV 2 hts (xx_gV tw_279 tw_280 tw_281 tw_6 tw_282) rfl rfl rfl (by decide +kernel) ⟨Nat.le_of_ble_eq_true rfl, Nat.le_of_ble_eq_true rfl⟩) (xx_preV hK hN hP hD [8, 9, 10, 11, 12] (by decide) rfl 3 8 rfl rfl) rfl rfl hl.1 rfl (lv_room (Nat.le_of_ble_eq_true rfl)) dX5_counted_28 ⟨Nat.le_of_ble_eq_true rfl, Nat.le_of_ble_eq_true rfl⟩) hP hD hS hA rfl rfl (by decide) (by decide) (fun r28 u28 H locs hw28 hP hD hS => ?_)
      have hP : va_P D vwCl ((bT k ot tq ow oe oc ou oa to tt) ++ (bE k oe ec ew el ea ed et ex) ++ (bU k ou uc ut ub ul uw)) H := hP
      have hD : va_D A ((bT k ot tq ow oe oc ou oa to tt) ++ (bE k oe ec ew el ea ed et ex) ++ (bU k ou uc ut ub ul uw)) := hD
      refine xx_calli ((bT k ot tq ow oe oc ou oa to tt) ++ (bE k oe ec ew el ea ed et ex)) [8, 9, 10, 11, 12] [0, 1, 2, 3, 4, 5, 6, 7] (va_runV (As := [.int r28]) (rest := []) ⟨hx, hb, hml, hown, hts⟩ (c_U_level l D k ou uc ut ub ul uw r28 (by omega) H.size) (cwV 1 hts (xx_gV tw_315 tw_316 tw_317 tw_6 tw_318) rfl rfl rfl (by decide +kernel) ⟨Nat.le_of_ble_eq_true rfl, Nat.le_of_ble_eq_true rfl⟩) (xx_preV hK hN hP hD [8, 9, 10, 11, 12] (by decide) rfl 3 8 rfl rfl) rfl rfl hl.1 rfl (lv_room (Nat.le_of_ble_eq_true rfl)) dX5_counted_31 ⟨Nat.le_of_ble_eq_true rfl, Nat.le_of_ble_eq_true rfl⟩) hP hD hS hA rfl rfl (by decide) (by decide) (fun r31 u31 H locs hw31 hP hD hS => ?_)
      have hP : va_P D vwCl ((bT k ot tq ow oe oc ou oa to tt) ++ (bE k oe ec ew el ea ed et ex) ++ (bU k ou uc ut ub ul uw)) H := hP
      have hD : va_D A ((bT k ot tq ow oe oc ou oa to tt) ++ (bE k oe ec ew el ea ed et ex) ++ (bU k ou uc ut ub ul uw)) := hD
      refine lv_istore (lv' := [(7, .int r31), (0, .ref ot), (1, .long a), (3, .int t), (4, .int b), (5, .long tm)]) hx hb dX5_counted_34 hl (by decide) rfl (fun ls hl => ?_)
      refine lv_aload_n hx hb dX5_counted_36 rfl (lv_at hl 1 rfl) ?_
      refine va_get (D := D) (ci := 5) (v := .ref (oe 0)) (C := RX5) (T := TX5) (N := 8) hx hb hts hinW hown hK hP 0 rfl rfl 2 (by decide) (hts _ tw_139) (fun _ h9 => h9) rfl dX5_counted_37 ?_
      refine lv_lload_n hx hb dX5_counted_40 rfl (lv_at hl 2 rfl) ?_
      refine lv_iload hx hb dX5_counted_41 (lv_at hl 0 rfl) ?_
      refine lv_lload hx hb dX5_counted_43 (lv_at hl 5 rfl) ?_
      refine xx_calli ((bT k ot tq ow oe oc ou oa to tt) ++ (bU k ou uc ut ub ul uw)) [1, 2, 3, 4, 5, 6, 7] [0, 8, 9, 10, 11, 12] (va_runV (As := [.long a, .int r31, .long tm]) (rest := []) ⟨hx, hb, hml, hown, hts⟩ (c_E_count l D k oe ec ew el ea ed et ex a r31 tm hec hew H.size) (cwV 3 hts (xx_gV tw_319 tw_320 tw_321 tw_4 tw_322) rfl rfl rfl (by decide +kernel) ⟨Nat.le_of_ble_eq_true rfl, Nat.le_of_ble_eq_true rfl⟩) (xx_preV hK hN hP hD [1, 2, 3, 4, 5, 6, 7] (by decide) rfl 2 1 rfl rfl) rfl rfl hl.1 rfl (lv_room (Nat.le_of_ble_eq_true rfl)) dX5_counted_45 ⟨Nat.le_of_ble_eq_true rfl, Nat.le_of_ble_eq_true rfl⟩) hP hD hS hA rfl rfl (by decide) (by decide) (fun r45 u45 H locs hw45 hP hD hS => ?_)
      obtain rfl := hw45
      have hP : va_P D vwCl ((bT k ot tq ow oe oc ou oa to tt) ++ (bU k ou uc ut ub ul uw) ++ (bE k oe ec ew el ea ed et ex)) H := hP
      have hD : va_D A ((bT k ot tq ow oe oc ou oa to tt) ++ (bU k ou uc ut ub ul uw) ++ (bE k oe ec ew el ea ed et ex)) := hD
      refine xx_iret () hx hb hr hlocks hS hK (xx_subP hP [0, 6, 7, 8, 9, 10, 11, 12, 1, 2, 3, 4, 5] rfl) (hD.sub [0, 6, 7, 8, 9, 10, 11, 12, 1, 2, 3, 4, 5] (by decide) rfl) dX5_counted_48 ?_
      exact Or.inr ⟨⟨hq1, hq9⟩, r28, r31, hw28, hw31, rfl⟩
    · have hP : va_P D vwCl ((bT k ot tq ow oe oc ou oa to tt) ++ (bE k oe ec ew el ea ed et ex) ++ (bU k ou uc ut ub ul uw)) H := hP
      have hD : va_D A ((bT k ot tq ow oe oc ou oa to tt) ++ (bE k oe ec ew el ea ed et ex) ++ (bU k ou uc ut ub ul uw)) := hD
      refine lv_if_ne (tgt := 17) hx hb dX5_counted_12 (by decide) (fun c => absurd c (by decide)) (fun _ => ?_)
      refine lv_iconst (v := (-1)) hx hb dX5_counted_15 (by decide) ?_
      refine xx_iret () hx hb hr hlocks hS hK hP hD dX5_counted_16 ?_
      first | exact Or.inl ⟨rfl, fun h => hq1 h.1⟩ | exact Or.inl ⟨rfl, fun h => hq9 h.2⟩
  · have hP : va_P D vwCl ((bT k ot tq ow oe oc ou oa to tt) ++ (bE k oe ec ew el ea ed et ex) ++ (bU k ou uc ut ub ul uw)) H := hP
    have hD : va_D A ((bT k ot tq ow oe oc ou oa to tt) ++ (bE k oe ec ew el ea ed et ex) ++ (bU k ou uc ut ub ul uw)) := hD
    refine lv_if_eq (tgt := 15) hx hb dX5_counted_4 (by decide) (fun _ => ?_) (fun c => absurd c (by decide))
    refine lv_iconst (v := (-1)) hx hb dX5_counted_15 (by decide) ?_
    refine xx_iret () hx hb hr hlocks hS hK hP hD dX5_counted_16 ?_
    first | exact Or.inl ⟨rfl, fun h => hq1 h.1⟩ | exact Or.inl ⟨rfl, fun h => hq9 h.2⟩
def p_T_take (ot : Nat) (tq : Int32) (ow : Nat → Nat) (oe : Nat → Nat) (oc : Nat → Nat) (ou : Nat → Nat) (oa : Nat → Nat) (to : Bool) (tt : Int64) (ec : Nat) (ew : Nat → Nat) (el : Nat → Int32) (ea : Nat → Int64) (ed : Nat → Int64) (et : Nat → Int64) (ex : Nat → Bool) (cc : Nat) (ca : Nat → Int64) (cl : Nat → Int32) (ch : Nat → Int32) (uc : Nat) (ut : Nat → Int32) (ub : Nat → Int32) (ul : Nat → Int32) (uw : Nat → Int32) (ac : Nat) (as : Nat → Int32) (a : Int64) (t : Int32) (b : Int32) (tm : Int64) : Int32 → (Int64 × Nat × (Nat → Int32)) → Prop := fun r u => (r = (-2) ∧ ¬ ((ixN 8 t ∧ ixN 8 b) ∧ ¬ tm < 0) ∧ u = (tt, ac, as)) ∨ (((ixN 8 t ∧ ixN 8 b) ∧ ¬ tm < 0) ∧ ∃ q, p_U_best ou uc ut ub ul uw t b q () ∧ ((to = true ∧ ∃ o, (o < ec ∧ (el o = 0 ∧ (ex o = false ∧ ea o = a ∧ ¬ (el o < nI 0) ∧ ¬ (tm < et o))) ∧ ∀ j, j < ec → (el j = 0 ∧ (ex j = false ∧ ea j = a ∧ ¬ (el j < nI 0) ∧ ¬ (tm < et j))) → ¬ (et o < et j) ∧ (o < j → et j < et o)) ∧ r = nI 2 ∧ u.1 = ed o ∧ p_A_add oa ac as t b q (nI 0) (nI o) u.2) ∨ (¬ (to = true ∧ ∃ j, j < ec ∧ (el j = 0 ∧ (ex j = false ∧ ea j = a ∧ ¬ (el j < nI 0) ∧ ¬ (tm < et j)))) ∧ (((∃ i, i < cc ∧ ca i = a) ∧ r = nI 0 ∧ u = (tt, ac, as)) ∨ ((¬ ∃ i, i < cc ∧ ca i = a) ∧ ∃ lv wt, p_U_level ou uc ut ub ul uw q lv () ∧ p_U_wanted ou uc ut ub ul uw q tq wt () ∧ ((r = (-1) ∧ ¬ (¬ xs_pop (xs_seen (fun j => decide (ex j = false ∧ ea j = a ∧ ¬ (el j < lv) ∧ ¬ (tm < et j))) ew ec) < wt ∧ (∀ i, i < ec → (ex i = false ∧ ea i = a ∧ ¬ (el i < lv) ∧ ¬ (tm < et i)) → ∀ j, j < ec → (ex j = false ∧ ea j = a ∧ ¬ (el j < lv) ∧ ¬ (tm < et j)) → ed i = ed j)) ∧ u = (tt, ac, as)) ∨ (r = nI 1 ∧ (¬ xs_pop (xs_seen (fun j => decide (ex j = false ∧ ea j = a ∧ ¬ (el j < lv) ∧ ¬ (tm < et j))) ew ec) < wt ∧ (∀ i, i < ec → (ex i = false ∧ ea i = a ∧ ¬ (el i < lv) ∧ ¬ (tm < et i)) → ∀ j, j < ec → (ex j = false ∧ ea j = a ∧ ¬ (el j < lv) ∧ ¬ (tm < et j)) → ed i = ed j)) ∧ ∃ f, p_E_first oe ec ew el ea ed et ex a lv tm f () ∧ p_E_digest oe ec ew el ea ed et ex f u.1 () ∧ p_A_add oa ac as t b q (xs_pop (xs_seen (fun j => decide (ex j = false ∧ ea j = a ∧ ¬ (el j < lv) ∧ ¬ (tm < et j))) ew ec)) f u.2)))))))
set_option maxHeartbeats 4000000 in
set_option maxRecDepth 100000 in
theorem c_T_take (l : Launch) (D : va_G) (k : Nat → ClassId) (ot : Nat) (tq : Int32) (ow : Nat → Nat) (oe : Nat → Nat) (oc : Nat → Nat) (ou : Nat → Nat) (oa : Nat → Nat) (to : Bool) (tt : Int64) (ec : Nat) (ew : Nat → Nat) (el : Nat → Int32) (ea : Nat → Int64) (ed : Nat → Int64) (et : Nat → Int64) (ex : Nat → Bool) (cc : Nat) (ca : Nat → Int64) (cl : Nat → Int32) (ch : Nat → Int32) (uc : Nat) (ut : Nat → Int32) (ub : Nat → Int32) (ul : Nat → Int32) (uw : Nat → Int32) (ac : Nat) (as : Nat → Int32) (a : Int64) (t : Int32) (b : Int32) (tm : Int64) (hec : ec ≤ 100) (hew : ∀ i, ew i < 12) (hcc : cc ≤ 50) (huc : uc ≤ 20) (hac : ac ≤ 200) : xx_Ci l yX5_take (.code yX5_take cX5_take 12 (some .int) :: xall) ({ frames := 4, cells := 0, slots := 0, locals := 101 } : Room) D vwCl (xT k) [.ref ot, .long a, .int t, .int b, .long tm] ((bT k ot tq ow oe oc ou oa to tt) ++ (bE k oe ec ew el ea ed et ex) ++ (bC k oc cc ca cl ch) ++ (bU k ou uc ut ub ul uw) ++ (bA k oa ac as)) (p_T_take ot tq ow oe oc ou oa to tt ec ew el ea ed et ex cc ca cl ch uc ut ub ul uw ac as a t b tm) (fun (u : Int64 × Nat × (Nat → Int32)) => (bT k ot tq ow oe oc ou oa to u.1) ++ (bE k oe ec ew el ea ed et ex) ++ (bC k oc cc ca cl ch) ++ (bU k ou uc ut ub ul uw) ++ (bA k oa u.2.1 u.2.2)) 0 0 := by
  intro sz
  refine xx_met (Qf := fun A => va_Qi (p_T_take ot tq ow oe oc ou oa to tt ec ew el ea ed et ex cc ca cl ch uc ut ub ul uw ac as a t b tm) (xx_B D vwCl (xT k) A (fun (u : Int64 × Nat × (Nat → Int32)) => (bT k ot tq ow oe oc ou oa to u.1) ++ (bE k oe ec ew el ea ed et ex) ++ (bC k oc cc ca cl ch) ++ (bU k ou uc ut ub ul uw) ++ (bA k oa u.2.1 u.2.2))) A) (cc := cX5_take) (maxL := 12) (ret := (some .int)) (by decide) rfl (Nat.le_of_ble_eq_true rfl) ?_
  intro p e s m below meth c A ls hx hb hr hts hown hlocks hin hml hA hS hP hD hK hN hl
  have hl : lv_has ls 12 [(0, .ref ot), (1, .long a), (3, .int t), (4, .int b), (5, .long tm)] := hl
  have hown : s.vm.findClass RX5 = some m.cls := hown
  have hinW := inX5
  refine lv_iload_n hx hb dX5_take_0 rfl (lv_at hl 2 rfl) ?_
  refine xx_calli ((bT k ot tq ow oe oc ou oa to tt) ++ (bE k oe ec ew el ea ed et ex) ++ (bC k oc cc ca cl ch) ++ (bU k ou uc ut ub ul uw) ++ (bA k oa ac as)) [] [0, 1, 2, 3, 4, 5, 6, 7, 8, 9, 10, 11, 12, 13, 14, 15, 16, 17, 18] (va_runS (As := [.int t]) (rest := []) ⟨hx, hb, hml, hown, hts⟩ (c_isPlace l D k t s.heap.size) (va_cwS 1 hts (xx_gS tw_271 tw_272 tw_1 tw_273) rfl rfl rfl (by decide +kernel) ⟨Nat.le_of_ble_eq_true rfl, Nat.le_of_ble_eq_true rfl⟩) (xx_preS hK hN hP hD [] (by decide) rfl) rfl rfl hl.1 rfl (lv_room (Nat.le_of_ble_eq_true rfl)) dX5_take_1 ⟨Nat.le_of_ble_eq_true rfl, Nat.le_of_ble_eq_true rfl⟩) hP hD hS hA rfl rfl (by decide) (by decide) (fun r1 u1 H locs hw1 hP hD hS => ?_)
  rcases hw1 with ⟨rfl, hq1⟩ | ⟨rfl, hq1⟩
  · have hP : va_P D vwCl ((bT k ot tq ow oe oc ou oa to tt) ++ (bE k oe ec ew el ea ed et ex) ++ (bC k oc cc ca cl ch) ++ (bU k ou uc ut ub ul uw) ++ (bA k oa ac as)) H := hP
    have hD : va_D A ((bT k ot tq ow oe oc ou oa to tt) ++ (bE k oe ec ew el ea ed et ex) ++ (bC k oc cc ca cl ch) ++ (bU k ou uc ut ub ul uw) ++ (bA k oa ac as)) := hD
    refine lv_if_eq (tgt := 22) hx hb dX5_take_4 (by decide) (fun c => absurd c (by decide)) (fun _ => ?_)
    refine lv_iload hx hb dX5_take_7 (lv_at hl 3 rfl) ?_
    refine xx_calli ((bT k ot tq ow oe oc ou oa to tt) ++ (bE k oe ec ew el ea ed et ex) ++ (bC k oc cc ca cl ch) ++ (bU k ou uc ut ub ul uw) ++ (bA k oa ac as)) [] [0, 1, 2, 3, 4, 5, 6, 7, 8, 9, 10, 11, 12, 13, 14, 15, 16, 17, 18] (va_runS (As := [.int b]) (rest := []) ⟨hx, hb, hml, hown, hts⟩ (c_isPlace l D k b H.size) (va_cwS 1 hts (xx_gS tw_271 tw_272 tw_1 tw_273) rfl rfl rfl (by decide +kernel) ⟨Nat.le_of_ble_eq_true rfl, Nat.le_of_ble_eq_true rfl⟩) (xx_preS hK hN hP hD [] (by decide) rfl) rfl rfl hl.1 rfl (lv_room (Nat.le_of_ble_eq_true rfl)) dX5_take_9 ⟨Nat.le_of_ble_eq_true rfl, Nat.le_of_ble_eq_true rfl⟩) hP hD hS hA rfl rfl (by decide) (by decide) (fun r9 u9 H locs hw9 hP hD hS => ?_)
    rcases hw9 with ⟨rfl, hq9⟩ | ⟨rfl, hq9⟩
    · have hP : va_P D vwCl ((bT k ot tq ow oe oc ou oa to tt) ++ (bE k oe ec ew el ea ed et ex) ++ (bC k oc cc ca cl ch) ++ (bU k ou uc ut ub ul uw) ++ (bA k oa ac as)) H := hP
      have hD : va_D A ((bT k ot tq ow oe oc ou oa to tt) ++ (bE k oe ec ew el ea ed et ex) ++ (bC k oc cc ca cl ch) ++ (bU k ou uc ut ub ul uw) ++ (bA k oa ac as)) := hD
      refine lv_if_eq (tgt := 22) hx hb dX5_take_12 (by decide) (fun c => absurd c (by decide)) (fun _ => ?_)
      refine lv_lload hx hb dX5_take_15 (lv_at hl 4 rfl) ?_
      refine lv_lconst (v := 0) hx hb dX5_take_17 (by decide) ?_
      refine W.lcmp hx hb dX5_take_18 ?_
      refine lv_if_ge (tgt := 25) hx hb dX5_take_19 (by decide) (fun c19 => ?_) (fun c19 => ?_)
      · have c19 : 0 ≤ tm := (lg_cmp_ge tm 0).mp c19
        refine lv_aload_n hx hb dX5_take_25 rfl (lv_at hl 0 rfl) ?_
        refine va_get (D := D) (ci := 5) (v := .ref (ou 0)) (C := RX5) (T := TX5) (N := 8) hx hb hts hinW hown hK hP 0 rfl rfl 4 (by decide) (hts _ tw_141) (fun _ h9 => h9) rfl dX5_take_26 ?_
        refine lv_iload_n hx hb dX5_take_29 rfl (lv_at hl 2 rfl) ?_
        refine lv_iload hx hb dX5_take_30 (lv_at hl 3 rfl) ?_
        refine xx_calli ((bT k ot tq ow oe oc ou oa to tt) ++ (bE k oe ec ew el ea ed et ex) ++ (bC k oc cc ca cl ch) ++ (bA k oa ac as)) [12, 13, 14, 15, 16] [0, 1, 2, 3, 4, 5, 6, 7, 8, 9, 10, 11, 17, 18] (va_runV (As := [.int t, .int b]) (rest := []) ⟨hx, hb, hml, hown, hts⟩ (c_U_best l D k ou uc ut ub ul uw t b (by omega) H.size) (cwV 2 hts (xx_gV tw_279 tw_280 tw_281 tw_6 tw_282) rfl rfl rfl (by decide +kernel) ⟨Nat.le_of_ble_eq_true rfl, Nat.le_of_ble_eq_true rfl⟩) (xx_preV hK hN hP hD [12, 13, 14, 15, 16] (by decide) rfl 3 12 rfl rfl) rfl rfl hl.1 rfl (lv_room (Nat.le_of_ble_eq_true rfl)) dX5_take_32 ⟨Nat.le_of_ble_eq_true rfl, Nat.le_of_ble_eq_true rfl⟩) hP hD hS hA rfl rfl (by decide) (by decide) (fun r32 u32 H locs hw32 hP hD hS => ?_)
        have hP : va_P D vwCl ((bT k ot tq ow oe oc ou oa to tt) ++ (bE k oe ec ew el ea ed et ex) ++ (bC k oc cc ca cl ch) ++ (bA k oa ac as) ++ (bU k ou uc ut ub ul uw)) H := hP
        have hD : va_D A ((bT k ot tq ow oe oc ou oa to tt) ++ (bE k oe ec ew el ea ed et ex) ++ (bC k oc cc ca cl ch) ++ (bA k oa ac as) ++ (bU k ou uc ut ub ul uw)) := hD
        refine lv_istore (lv' := [(7, .int r32), (0, .ref ot), (1, .long a), (3, .int t), (4, .int b), (5, .long tm)]) hx hb dX5_take_35 hl (by decide) rfl (fun ls hl => ?_)
        refine lv_aload_n hx hb dX5_take_37 rfl (lv_at hl 1 rfl) ?_
        refine va_get (D := D) (ci := 5) (v := .int (bI to)) (C := RX5) (T := TX5) (N := 8) hx hb hts hinW hown hK hP 0 rfl rfl 6 (by decide) (hts _ tw_143) (fun _ h9 => h9) rfl dX5_take_38 ?_
        refine lv_if_eq (tgt := 57) hx hb dX5_take_41 (by decide) (fun c41 => ?_) (fun c41 => ?_)
        · have c41 : to = false := bI_eq c41
          refine lv_iconst (v := (-1)) hx hb dX5_take_57 (by decide) ?_
          refine lv_istore (lv' := [(8, .int (-1)), (7, .int r32), (0, .ref ot), (1, .long a), (3, .int t), (4, .int b), (5, .long tm)]) hx hb dX5_take_58 hl (by decide) rfl (fun ls hl => ?_)
          refine lv_iload hx hb dX5_take_60 (lv_at hl 0 rfl) ?_
          refine lv_iconst (v := (-1)) hx hb dX5_take_62 (by decide) ?_
          refine lv_icmp_eq (tgt := 96) hx hb dX5_take_63 (by decide) (fun _ => ?_) (fun c => absurd c (by decide))
          refine lv_aload_n hx hb dX5_take_96 rfl (lv_at hl 2 rfl) ?_
          refine va_get (D := D) (ci := 5) (v := .ref (oc 0)) (C := RX5) (T := TX5) (N := 8) hx hb hts hinW hown hK hP 0 rfl rfl 3 (by decide) (hts _ tw_140) (fun _ h9 => h9) rfl dX5_take_97 ?_
          refine lv_lload_n hx hb dX5_take_100 rfl (lv_at hl 3 rfl) ?_
          refine xx_calli ((bT k ot tq ow oe oc ou oa to tt) ++ (bE k oe ec ew el ea ed et ex) ++ (bA k oa ac as) ++ (bU k ou uc ut ub ul uw)) [8, 9, 10, 11] [0, 1, 2, 3, 4, 5, 6, 7, 12, 13, 14, 15, 16, 17, 18] (va_runV (As := [.long a]) (rest := []) ⟨hx, hb, hml, hown, hts⟩ (c_C_has l D k oc cc ca cl ch a (by omega) H.size) (cwV 1 hts (xx_gV tw_227 tw_228 tw_229 tw_5 tw_230) rfl rfl rfl (by decide +kernel) ⟨Nat.le_of_ble_eq_true rfl, Nat.le_of_ble_eq_true rfl⟩) (xx_preV hK hN hP hD [8, 9, 10, 11] (by decide) rfl 1 8 rfl rfl) rfl rfl hl.1 rfl (lv_room (Nat.le_of_ble_eq_true rfl)) dX5_take_101 ⟨Nat.le_of_ble_eq_true rfl, Nat.le_of_ble_eq_true rfl⟩) hP hD hS hA rfl rfl (by decide) (by decide) (fun r101 u101 H locs hw101 hP hD hS => ?_)
          rcases hw101 with ⟨rfl, hq101⟩ | ⟨rfl, hq101⟩
          · have hP : va_P D vwCl ((bT k ot tq ow oe oc ou oa to tt) ++ (bE k oe ec ew el ea ed et ex) ++ (bA k oa ac as) ++ (bU k ou uc ut ub ul uw) ++ (bC k oc cc ca cl ch)) H := hP
            have hD : va_D A ((bT k ot tq ow oe oc ou oa to tt) ++ (bE k oe ec ew el ea ed et ex) ++ (bA k oa ac as) ++ (bU k ou uc ut ub ul uw) ++ (bC k oc cc ca cl ch)) := hD
            refine lv_if_eq (tgt := 109) hx hb dX5_take_104 (by decide) (fun c => absurd c (by decide)) (fun _ => ?_)
            refine lv_iconst (v := (nI 0)) hx hb dX5_take_107 (by decide) ?_
            refine xx_iret (tt, ac, as) hx hb hr hlocks hS hK (xx_subP hP [0, 1, 2, 3, 4, 5, 6, 7, 15, 16, 17, 18, 10, 11, 12, 13, 14, 8, 9] rfl) (hD.sub [0, 1, 2, 3, 4, 5, 6, 7, 15, 16, 17, 18, 10, 11, 12, 13, 14, 8, 9] (by decide) rfl) dX5_take_108 ?_
            first | exact Or.inr ⟨⟨⟨hq1, hq9⟩, xx_lnlt c19⟩, r32, hw32, Or.inr ⟨fun h => xx_tf h.1 c41, Or.inl ⟨hq101, rfl, rfl⟩⟩⟩ | exact Or.inr ⟨⟨⟨hq1, hq9⟩, xx_lnlt c19⟩, r32, hw32, Or.inr ⟨fun ⟨_, j, z1, z2⟩ => hq51 j z1 z2, Or.inl ⟨hq101, rfl, rfl⟩⟩⟩
          · have hP : va_P D vwCl ((bT k ot tq ow oe oc ou oa to tt) ++ (bE k oe ec ew el ea ed et ex) ++ (bA k oa ac as) ++ (bU k ou uc ut ub ul uw) ++ (bC k oc cc ca cl ch)) H := hP
            have hD : va_D A ((bT k ot tq ow oe oc ou oa to tt) ++ (bE k oe ec ew el ea ed et ex) ++ (bA k oa ac as) ++ (bU k ou uc ut ub ul uw) ++ (bC k oc cc ca cl ch)) := hD
            refine lv_if_eq (tgt := 109) hx hb dX5_take_104 (by decide) (fun _ => ?_) (fun c => absurd c (by decide))
            refine lv_aload_n hx hb dX5_take_109 rfl (lv_at hl 2 rfl) ?_
            refine va_get (D := D) (ci := 5) (v := .ref (ou 0)) (C := RX5) (T := TX5) (N := 8) hx hb hts hinW hown hK hP 0 rfl rfl 4 (by decide) (hts _ tw_141) (fun _ h9 => h9) rfl dX5_take_110 ?_
            refine lv_iload hx hb dX5_take_113 (lv_at hl 1 rfl) ?_
            refine xx_calli ((bT k ot tq ow oe oc ou oa to tt) ++ (bE k oe ec ew el ea ed et ex) ++ (bA k oa ac as) ++ (bC k oc cc ca cl ch)) [10, 11, 12, 13, 14] [0, 1, 2, 3, 4, 5, 6, 7, 8, 9, 15, 16, 17, 18] (va_runV (As := [.int r32]) (rest := []) ⟨hx, hb, hml, hown, hts⟩ (c_U_level l D k ou uc ut ub ul uw r32 (by omega) H.size) (cwV 1 hts (xx_gV tw_315 tw_316 tw_317 tw_6 tw_318) rfl rfl rfl (by decide +kernel) ⟨Nat.le_of_ble_eq_true rfl, Nat.le_of_ble_eq_true rfl⟩) (xx_preV hK hN hP hD [10, 11, 12, 13, 14] (by decide) rfl 3 10 rfl rfl) rfl rfl hl.1 rfl (lv_room (Nat.le_of_ble_eq_true rfl)) dX5_take_115 ⟨Nat.le_of_ble_eq_true rfl, Nat.le_of_ble_eq_true rfl⟩) hP hD hS hA rfl rfl (by decide) (by decide) (fun r115 u115 H locs hw115 hP hD hS => ?_)
            have hP : va_P D vwCl ((bT k ot tq ow oe oc ou oa to tt) ++ (bE k oe ec ew el ea ed et ex) ++ (bA k oa ac as) ++ (bC k oc cc ca cl ch) ++ (bU k ou uc ut ub ul uw)) H := hP
            have hD : va_D A ((bT k ot tq ow oe oc ou oa to tt) ++ (bE k oe ec ew el ea ed et ex) ++ (bA k oa ac as) ++ (bC k oc cc ca cl ch) ++ (bU k ou uc ut ub ul uw)) := hD
            refine lv_istore (lv' := [(9, .int r115), (8, .int (-1)), (7, .int r32), (0, .ref ot), (1, .long a), (3, .int t), (4, .int b), (5, .long tm)]) hx hb dX5_take_118 hl (by decide) rfl (fun ls hl => ?_)
            refine lv_aload_n hx hb dX5_take_120 rfl (lv_at hl 3 rfl) ?_
            refine va_get (D := D) (ci := 5) (v := .ref (oe 0)) (C := RX5) (T := TX5) (N := 8) hx hb hts hinW hown hK hP 0 rfl rfl 2 (by decide) (hts _ tw_139) (fun _ h9 => h9) rfl dX5_take_121 ?_
            refine lv_lload_n hx hb dX5_take_124 rfl (lv_at hl 4 rfl) ?_
            refine lv_iload hx hb dX5_take_125 (lv_at hl 0 rfl) ?_
            refine lv_lload hx hb dX5_take_127 (lv_at hl 7 rfl) ?_
            refine xx_calli ((bT k ot tq ow oe oc ou oa to tt) ++ (bA k oa ac as) ++ (bC k oc cc ca cl ch) ++ (bU k ou uc ut ub ul uw)) [1, 2, 3, 4, 5, 6, 7] [0, 8, 9, 10, 11, 12, 13, 14, 15, 16, 17, 18] (va_runV (As := [.long a, .int r115, .long tm]) (rest := []) ⟨hx, hb, hml, hown, hts⟩ (c_E_count l D k oe ec ew el ea ed et ex a r115 tm hec hew H.size) (cwV 3 hts (xx_gV tw_319 tw_320 tw_321 tw_4 tw_322) rfl rfl rfl (by decide +kernel) ⟨Nat.le_of_ble_eq_true rfl, Nat.le_of_ble_eq_true rfl⟩) (xx_preV hK hN hP hD [1, 2, 3, 4, 5, 6, 7] (by decide) rfl 2 1 rfl rfl) rfl rfl hl.1 rfl (lv_room (Nat.le_of_ble_eq_true rfl)) dX5_take_129 ⟨Nat.le_of_ble_eq_true rfl, Nat.le_of_ble_eq_true rfl⟩) hP hD hS hA rfl rfl (by decide) (by decide) (fun r129 u129 H locs hw129 hP hD hS => ?_)
            obtain rfl := hw129
            have hP : va_P D vwCl ((bT k ot tq ow oe oc ou oa to tt) ++ (bA k oa ac as) ++ (bC k oc cc ca cl ch) ++ (bU k ou uc ut ub ul uw) ++ (bE k oe ec ew el ea ed et ex)) H := hP
            have hD : va_D A ((bT k ot tq ow oe oc ou oa to tt) ++ (bA k oa ac as) ++ (bC k oc cc ca cl ch) ++ (bU k ou uc ut ub ul uw) ++ (bE k oe ec ew el ea ed et ex)) := hD
            refine lv_istore (lv' := [(10, .int (xs_pop (xs_seen (fun z9 => decide (ex z9 = false ∧ ea z9 = a ∧ ¬ (el z9 < r115) ∧ ¬ (tm < et z9))) ew ec))), (9, .int r115), (8, .int (-1)), (7, .int r32), (0, .ref ot), (1, .long a), (3, .int t), (4, .int b), (5, .long tm)]) hx hb dX5_take_132 hl (by decide) rfl (fun ls hl => ?_)
            refine lv_iload hx hb dX5_take_134 (lv_at hl 0 rfl) ?_
            refine lv_aload_n hx hb dX5_take_136 rfl (lv_at hl 4 rfl) ?_
            refine va_get (D := D) (ci := 5) (v := .ref (ou 0)) (C := RX5) (T := TX5) (N := 8) hx hb hts hinW hown hK hP 0 rfl rfl 4 (by decide) (hts _ tw_141) (fun _ h9 => h9) rfl dX5_take_137 ?_
            refine lv_iload hx hb dX5_take_140 (lv_at hl 3 rfl) ?_
            refine lv_aload_n hx hb dX5_take_142 rfl (lv_at hl 4 rfl) ?_
            refine va_get (D := D) (ci := 5) (v := .int tq) (C := RX5) (T := TX5) (N := 8) hx hb hts hinW hown hK hP 0 rfl rfl 0 (by decide) (hts _ tw_137) (fun _ h9 => h9) rfl dX5_take_143 ?_
            refine xx_calli ((bT k ot tq ow oe oc ou oa to tt) ++ (bA k oa ac as) ++ (bC k oc cc ca cl ch) ++ (bE k oe ec ew el ea ed et ex)) [7, 8, 9, 10, 11] [0, 1, 2, 3, 4, 5, 6, 12, 13, 14, 15, 16, 17, 18] (va_runV (As := [.int r32, .int tq]) (rest := [.int (xs_pop (xs_seen (fun z9 => decide (ex z9 = false ∧ ea z9 = a ∧ ¬ (el z9 < r115) ∧ ¬ (tm < et z9))) ew ec))]) ⟨hx, hb, hml, hown, hts⟩ (c_U_wanted l D k ou uc ut ub ul uw r32 tq (by omega) H.size) (cwV 2 hts (xx_gV tw_329 tw_330 tw_331 tw_6 tw_332) rfl rfl rfl (by decide +kernel) ⟨Nat.le_of_ble_eq_true rfl, Nat.le_of_ble_eq_true rfl⟩) (xx_preV hK hN hP hD [7, 8, 9, 10, 11] (by decide) rfl 3 7 rfl rfl) rfl rfl hl.1 rfl (lv_room (Nat.le_of_ble_eq_true rfl)) dX5_take_146 ⟨Nat.le_of_ble_eq_true rfl, Nat.le_of_ble_eq_true rfl⟩) hP hD hS hA rfl rfl (by decide) (by decide) (fun r146 u146 H locs hw146 hP hD hS => ?_)
            have hP : va_P D vwCl ((bT k ot tq ow oe oc ou oa to tt) ++ (bA k oa ac as) ++ (bC k oc cc ca cl ch) ++ (bE k oe ec ew el ea ed et ex) ++ (bU k ou uc ut ub ul uw)) H := hP
            have hD : va_D A ((bT k ot tq ow oe oc ou oa to tt) ++ (bA k oa ac as) ++ (bC k oc cc ca cl ch) ++ (bE k oe ec ew el ea ed et ex) ++ (bU k ou uc ut ub ul uw)) := hD
            refine lv_icmp_lt (tgt := 167) hx hb dX5_take_149 (by decide) (fun c149 => ?_) (fun c149 => ?_)
            · refine lv_iconst (v := (-1)) hx hb dX5_take_167 (by decide) ?_
              refine xx_iret (tt, ac, as) hx hb hr hlocks hS hK (xx_subP hP [0, 7, 8, 9, 10, 11, 12, 13, 3, 4, 5, 6, 14, 15, 16, 17, 18, 1, 2] rfl) (hD.sub [0, 7, 8, 9, 10, 11, 12, 13, 3, 4, 5, 6, 14, 15, 16, 17, 18, 1, 2] (by decide) rfl) dX5_take_168 ?_
              first | exact Or.inr ⟨⟨⟨hq1, hq9⟩, xx_lnlt c19⟩, r32, hw32, Or.inr ⟨fun h => xx_tf h.1 c41, Or.inr ⟨hq101, r115, r146, hw115, hw146, Or.inl ⟨rfl, fun h => h.1 c149, rfl⟩⟩⟩⟩ | exact Or.inr ⟨⟨⟨hq1, hq9⟩, xx_lnlt c19⟩, r32, hw32, Or.inr ⟨fun h => xx_tf h.1 c41, Or.inr ⟨hq101, r115, r146, hw115, hw146, Or.inl ⟨rfl, fun h => hq161 h.2, rfl⟩⟩⟩⟩ | exact Or.inr ⟨⟨⟨hq1, hq9⟩, xx_lnlt c19⟩, r32, hw32, Or.inr ⟨fun ⟨_, j, z1, z2⟩ => hq51 j z1 z2, Or.inr ⟨hq101, r115, r146, hw115, hw146, Or.inl ⟨rfl, fun h => h.1 c149, rfl⟩⟩⟩⟩ | exact Or.inr ⟨⟨⟨hq1, hq9⟩, xx_lnlt c19⟩, r32, hw32, Or.inr ⟨fun ⟨_, j, z1, z2⟩ => hq51 j z1 z2, Or.inr ⟨hq101, r115, r146, hw115, hw146, Or.inl ⟨rfl, fun h => hq161 h.2, rfl⟩⟩⟩⟩
            · refine lv_aload_n hx hb dX5_take_152 rfl (lv_at hl 4 rfl) ?_
              refine va_get (D := D) (ci := 5) (v := .ref (oe 0)) (C := RX5) (T := TX5) (N := 8) hx hb hts hinW hown hK hP 0 rfl rfl 2 (by decide) (hts _ tw_139) (fun _ h9 => h9) rfl dX5_take_153 ?_
              refine lv_lload_n hx hb dX5_take_156 rfl (lv_at hl 5 rfl) ?_
              refine lv_iload hx hb dX5_take_157 (lv_at hl 1 rfl) ?_
              refine lv_lload hx hb dX5_take_159 (lv_at hl 8 rfl) ?_
              refine xx_calli ((bT k ot tq ow oe oc ou oa to tt) ++ (bA k oa ac as) ++ (bC k oc cc ca cl ch) ++ (bU k ou uc ut ub ul uw)) [7, 8, 9, 10, 11, 12, 13] [0, 1, 2, 3, 4, 5, 6, 14, 15, 16, 17, 18] (va_runV (As := [.long a, .int r115, .long tm]) (rest := []) ⟨hx, hb, hml, hown, hts⟩ (c_E_one l D k oe ec ew el ea ed et ex a r115 tm (by omega) H.size) (cwV 3 hts (xx_gV tw_333 tw_334 tw_335 tw_4 tw_336) rfl rfl rfl (by decide +kernel) ⟨Nat.le_of_ble_eq_true rfl, Nat.le_of_ble_eq_true rfl⟩) (xx_preV hK hN hP hD [7, 8, 9, 10, 11, 12, 13] (by decide) rfl 2 7 rfl rfl) rfl rfl hl.1 rfl (lv_room (Nat.le_of_ble_eq_true rfl)) dX5_take_161 ⟨Nat.le_of_ble_eq_true rfl, Nat.le_of_ble_eq_true rfl⟩) hP hD hS hA rfl rfl (by decide) (by decide) (fun r161 u161 H locs hw161 hP hD hS => ?_)
              rcases hw161 with ⟨rfl, hq161⟩ | ⟨rfl, hq161⟩
              · have hP : va_P D vwCl ((bT k ot tq ow oe oc ou oa to tt) ++ (bA k oa ac as) ++ (bC k oc cc ca cl ch) ++ (bU k ou uc ut ub ul uw) ++ (bE k oe ec ew el ea ed et ex)) H := hP
                have hD : va_D A ((bT k ot tq ow oe oc ou oa to tt) ++ (bA k oa ac as) ++ (bC k oc cc ca cl ch) ++ (bU k ou uc ut ub ul uw) ++ (bE k oe ec ew el ea ed et ex)) := hD
                refine lv_if_ne (tgt := 169) hx hb dX5_take_164 (by decide) (fun _ => ?_) (fun c => absurd c (by decide))
                refine lv_aload_n hx hb dX5_take_169 rfl (lv_at hl 4 rfl) ?_
                refine va_get (D := D) (ci := 5) (v := .ref (oe 0)) (C := RX5) (T := TX5) (N := 8) hx hb hts hinW hown hK hP 0 rfl rfl 2 (by decide) (hts _ tw_139) (fun _ h9 => h9) rfl dX5_take_170 ?_
                refine lv_lload_n hx hb dX5_take_173 rfl (lv_at hl 5 rfl) ?_
                refine lv_iload hx hb dX5_take_174 (lv_at hl 1 rfl) ?_
                refine lv_lload hx hb dX5_take_176 (lv_at hl 8 rfl) ?_
                refine xx_calli ((bT k ot tq ow oe oc ou oa to tt) ++ (bA k oa ac as) ++ (bC k oc cc ca cl ch) ++ (bU k ou uc ut ub ul uw)) [12, 13, 14, 15, 16, 17, 18] [0, 1, 2, 3, 4, 5, 6, 7, 8, 9, 10, 11] (va_runV (As := [.long a, .int r115, .long tm]) (rest := []) ⟨hx, hb, hml, hown, hts⟩ (c_E_first l D k oe ec ew el ea ed et ex a r115 tm (by omega) H.size) (cwV 3 hts (xx_gV tw_342 tw_338 tw_339 tw_4 tw_340) rfl rfl rfl (by decide +kernel) ⟨Nat.le_of_ble_eq_true rfl, Nat.le_of_ble_eq_true rfl⟩) (xx_preV hK hN hP hD [12, 13, 14, 15, 16, 17, 18] (by decide) rfl 2 12 rfl rfl) rfl rfl hl.1 rfl (lv_room (Nat.le_of_ble_eq_true rfl)) dX5_take_178 ⟨Nat.le_of_ble_eq_true rfl, Nat.le_of_ble_eq_true rfl⟩) hP hD hS hA rfl rfl (by decide) (by decide) (fun r178 u178 H locs hw178 hP hD hS => ?_)
                have hP : va_P D vwCl ((bT k ot tq ow oe oc ou oa to tt) ++ (bA k oa ac as) ++ (bC k oc cc ca cl ch) ++ (bU k ou uc ut ub ul uw) ++ (bE k oe ec ew el ea ed et ex)) H := hP
                have hD : va_D A ((bT k ot tq ow oe oc ou oa to tt) ++ (bA k oa ac as) ++ (bC k oc cc ca cl ch) ++ (bU k ou uc ut ub ul uw) ++ (bE k oe ec ew el ea ed et ex)) := hD
                refine lv_istore (lv' := [(11, .int r178), (10, .int (xs_pop (xs_seen (fun z9 => decide (ex z9 = false ∧ ea z9 = a ∧ ¬ (el z9 < r115) ∧ ¬ (tm < et z9))) ew ec))), (9, .int r115), (8, .int (-1)), (7, .int r32), (0, .ref ot), (1, .long a), (3, .int t), (4, .int b), (5, .long tm)]) hx hb dX5_take_181 hl (by decide) rfl (fun ls hl => ?_)
                refine lv_aload_n hx hb dX5_take_183 rfl (lv_at hl 5 rfl) ?_
                refine va_get (D := D) (ci := 5) (v := .ref (oa 0)) (C := RX5) (T := TX5) (N := 8) hx hb hts hinW hown hK hP 0 rfl rfl 5 (by decide) (hts _ tw_142) (fun _ h9 => h9) rfl dX5_take_184 ?_
                refine lv_iload_n hx hb dX5_take_187 rfl (lv_at hl 7 rfl) ?_
                refine lv_iload hx hb dX5_take_188 (lv_at hl 8 rfl) ?_
                refine lv_iload hx hb dX5_take_190 (lv_at hl 4 rfl) ?_
                refine lv_iload hx hb dX5_take_192 (lv_at hl 1 rfl) ?_
                refine lv_iload hx hb dX5_take_194 (lv_at hl 0 rfl) ?_
                refine xx_callv ((bT k ot tq ow oe oc ou oa to tt) ++ (bC k oc cc ca cl ch) ++ (bU k ou uc ut ub ul uw) ++ (bE k oe ec ew el ea ed et ex)) [1, 2] [0, 3, 4, 5, 6, 7, 8, 9, 10, 11, 12, 13, 14, 15, 16, 17, 18] (va_runV (As := [.int t, .int b, .int r32, .int (xs_pop (xs_seen (fun z9 => decide (ex z9 = false ∧ ea z9 = a ∧ ¬ (el z9 < r115) ∧ ¬ (tm < et z9))) ew ec)), .int r178]) (rest := []) ⟨hx, hb, hml, hown, hts⟩ (c_A_add l D k oa ac as t b r32 (xs_pop (xs_seen (fun z9 => decide (ex z9 = false ∧ ea z9 = a ∧ ¬ (el z9 < r115) ∧ ¬ (tm < et z9))) ew ec)) r178 (by omega) H.size) (cwV 5 hts (xx_gV tw_307 tw_308 tw_309 tw_7 tw_310) rfl rfl rfl (by decide +kernel) ⟨Nat.le_of_ble_eq_true rfl, Nat.le_of_ble_eq_true rfl⟩) (xx_preV hK hN hP hD [1, 2] (by decide) rfl 0 1 rfl rfl) rfl rfl hl.1 rfl (lv_room (Nat.le_of_ble_eq_true rfl)) dX5_take_196 ⟨Nat.le_of_ble_eq_true rfl, Nat.le_of_ble_eq_true rfl⟩) hP hD hS hA rfl rfl (by decide) (by decide) (fun u196 H locs hw196 hP hD hS => ?_)
                have hP : va_P D vwCl ((bT k ot tq ow oe oc ou oa to tt) ++ (bC k oc cc ca cl ch) ++ (bU k ou uc ut ub ul uw) ++ (bE k oe ec ew el ea ed et ex) ++ (bA k oa u196.1 u196.2)) H := hP
                have hD : va_D A ((bT k ot tq ow oe oc ou oa to tt) ++ (bC k oc cc ca cl ch) ++ (bU k ou uc ut ub ul uw) ++ (bE k oe ec ew el ea ed et ex) ++ (bA k oa u196.1 u196.2)) := hD
                refine lv_aload_n hx hb dX5_take_199 rfl (lv_at hl 5 rfl) ?_
                refine lv_aload_n hx hb dX5_take_200 rfl (lv_at hl 5 rfl) ?_
                refine va_get (D := D) (ci := 5) (v := .ref (oe 0)) (C := RX5) (T := TX5) (N := 8) hx hb hts hinW hown hK hP 0 rfl rfl 2 (by decide) (hts _ tw_139) (fun _ h9 => h9) rfl dX5_take_201 ?_
                refine lv_iload hx hb dX5_take_204 (lv_at hl 0 rfl) ?_
                refine xx_calll ((bT k ot tq ow oe oc ou oa to tt) ++ (bC k oc cc ca cl ch) ++ (bU k ou uc ut ub ul uw) ++ (bA k oa u196.1 u196.2)) [10, 11, 12, 13, 14, 15, 16] [0, 1, 2, 3, 4, 5, 6, 7, 8, 9, 17, 18] (va_runV (As := [.int r178]) (rest := [.ref ot]) ⟨hx, hb, hml, hown, hts⟩ (c_E_digest l D k oe ec ew el ea ed et ex r178 (by omega) H.size) (cwV 1 hts (xx_gV tw_311 tw_312 tw_313 tw_4 tw_314) rfl rfl rfl (by decide +kernel) ⟨Nat.le_of_ble_eq_true rfl, Nat.le_of_ble_eq_true rfl⟩) (xx_preV hK hN hP hD [10, 11, 12, 13, 14, 15, 16] (by decide) rfl 2 10 rfl rfl) rfl rfl hl.1 rfl (lv_room (Nat.le_of_ble_eq_true rfl)) dX5_take_206 ⟨Nat.le_of_ble_eq_true rfl, Nat.le_of_ble_eq_true rfl⟩) hP hD hS hA rfl rfl (by decide) (by decide) (fun r206 u206 H locs hw206 hP hD hS => ?_)
                have hP : va_P D vwCl ((bT k ot tq ow oe oc ou oa to tt) ++ (bC k oc cc ca cl ch) ++ (bU k ou uc ut ub ul uw) ++ (bA k oa u196.1 u196.2) ++ (bE k oe ec ew el ea ed et ex)) H := hP
                have hD : va_D A ((bT k ot tq ow oe oc ou oa to tt) ++ (bC k oc cc ca cl ch) ++ (bU k ou uc ut ub ul uw) ++ (bA k oa u196.1 u196.2) ++ (bE k oe ec ew el ea ed et ex)) := hD
                refine va_put (D := D) (ci := 5) (v := .long r206) (ty := .long) (C := RX5) (T := TX5) (N := 8) hx hb hts hinW tyX5 tyX5_ok nmX5 hown hK hP hD hS 0 rfl rfl 7 (by decide) (hts _ tw_144) (fun _ h9 => h9) rfl (by decide +kernel) rfl rfl (Nat.le_of_ble_eq_true rfl) dX5_take_209 (fun H locs hP hD hS => ?_)
                have hP : va_P D vwCl ((bT k ot tq ow oe oc ou oa to r206) ++ (bC k oc cc ca cl ch) ++ (bU k ou uc ut ub ul uw) ++ (bA k oa u196.1 u196.2) ++ (bE k oe ec ew el ea ed et ex)) H := hP
                have hD : va_D A ((bT k ot tq ow oe oc ou oa to r206) ++ (bC k oc cc ca cl ch) ++ (bU k ou uc ut ub ul uw) ++ (bA k oa u196.1 u196.2) ++ (bE k oe ec ew el ea ed et ex)) := hD
                refine lv_iconst (v := (nI 1)) hx hb dX5_take_212 (by decide) ?_
                refine xx_iret (r206, u196.1, u196.2) hx hb hr hlocks hS hK (xx_subP hP [0, 12, 13, 14, 15, 16, 17, 18, 1, 2, 3, 4, 5, 6, 7, 8, 9, 10, 11] rfl) (hD.sub [0, 12, 13, 14, 15, 16, 17, 18, 1, 2, 3, 4, 5, 6, 7, 8, 9, 10, 11] (by decide) rfl) dX5_take_213 ?_
                first | exact Or.inr ⟨⟨⟨hq1, hq9⟩, xx_lnlt c19⟩, r32, hw32, Or.inr ⟨fun h => xx_tf h.1 c41, Or.inr ⟨hq101, r115, r146, hw115, hw146, Or.inr ⟨rfl, ⟨c149, hq161⟩, r178, hw178, hw206, hw196⟩⟩⟩⟩ | exact Or.inr ⟨⟨⟨hq1, hq9⟩, xx_lnlt c19⟩, r32, hw32, Or.inr ⟨fun ⟨_, j, z1, z2⟩ => hq51 j z1 z2, Or.inr ⟨hq101, r115, r146, hw115, hw146, Or.inr ⟨rfl, ⟨c149, hq161⟩, r178, hw178, hw206, hw196⟩⟩⟩⟩
              · have hP : va_P D vwCl ((bT k ot tq ow oe oc ou oa to tt) ++ (bA k oa ac as) ++ (bC k oc cc ca cl ch) ++ (bU k ou uc ut ub ul uw) ++ (bE k oe ec ew el ea ed et ex)) H := hP
                have hD : va_D A ((bT k ot tq ow oe oc ou oa to tt) ++ (bA k oa ac as) ++ (bC k oc cc ca cl ch) ++ (bU k ou uc ut ub ul uw) ++ (bE k oe ec ew el ea ed et ex)) := hD
                refine lv_if_ne (tgt := 169) hx hb dX5_take_164 (by decide) (fun c => absurd c (by decide)) (fun _ => ?_)
                refine lv_iconst (v := (-1)) hx hb dX5_take_167 (by decide) ?_
                refine xx_iret (tt, ac, as) hx hb hr hlocks hS hK (xx_subP hP [0, 12, 13, 14, 15, 16, 17, 18, 3, 4, 5, 6, 7, 8, 9, 10, 11, 1, 2] rfl) (hD.sub [0, 12, 13, 14, 15, 16, 17, 18, 3, 4, 5, 6, 7, 8, 9, 10, 11, 1, 2] (by decide) rfl) dX5_take_168 ?_
                first | exact Or.inr ⟨⟨⟨hq1, hq9⟩, xx_lnlt c19⟩, r32, hw32, Or.inr ⟨fun h => xx_tf h.1 c41, Or.inr ⟨hq101, r115, r146, hw115, hw146, Or.inl ⟨rfl, fun h => h.1 c149, rfl⟩⟩⟩⟩ | exact Or.inr ⟨⟨⟨hq1, hq9⟩, xx_lnlt c19⟩, r32, hw32, Or.inr ⟨fun h => xx_tf h.1 c41, Or.inr ⟨hq101, r115, r146, hw115, hw146, Or.inl ⟨rfl, fun h => hq161 h.2, rfl⟩⟩⟩⟩ | exact Or.inr ⟨⟨⟨hq1, hq9⟩, xx_lnlt c19⟩, r32, hw32, Or.inr ⟨fun ⟨_, j, z1, z2⟩ => hq51 j z1 z2, Or.inr ⟨hq101, r115, r146, hw115, hw146, Or.inl ⟨rfl, fun h => h.1 c149, rfl⟩⟩⟩⟩ | exact Or.inr ⟨⟨⟨hq1, hq9⟩, xx_lnlt c19⟩, r32, hw32, Or.inr ⟨fun ⟨_, j, z1, z2⟩ => hq51 j z1 z2, Or.inr ⟨hq101, r115, r146, hw115, hw146, Or.inl ⟨rfl, fun h => hq161 h.2, rfl⟩⟩⟩⟩
        · have c41 : to = true := bI_ne c41
          refine lv_aload_n hx hb dX5_take_44 rfl (lv_at hl 1 rfl) ?_
          refine va_get (D := D) (ci := 5) (v := .ref (oe 0)) (C := RX5) (T := TX5) (N := 8) hx hb hts hinW hown hK hP 0 rfl rfl 2 (by decide) (hts _ tw_139) (fun _ h9 => h9) rfl dX5_take_45 ?_
          refine lv_lload_n hx hb dX5_take_48 rfl (lv_at hl 2 rfl) ?_
          refine lv_lload hx hb dX5_take_49 (lv_at hl 5 rfl) ?_
          refine xx_calli ((bT k ot tq ow oe oc ou oa to tt) ++ (bC k oc cc ca cl ch) ++ (bA k oa ac as) ++ (bU k ou uc ut ub ul uw)) [1, 2, 3, 4, 5, 6, 7] [0, 8, 9, 10, 11, 12, 13, 14, 15, 16, 17, 18] (va_runV (As := [.long a, .long tm]) (rest := []) ⟨hx, hb, hml, hown, hts⟩ (c_E_own l D k oe ec ew el ea ed et ex a tm (by omega) H.size) (cwV 2 hts (xx_gV tw_299 tw_300 tw_301 tw_4 tw_302) rfl rfl rfl (by decide +kernel) ⟨Nat.le_of_ble_eq_true rfl, Nat.le_of_ble_eq_true rfl⟩) (xx_preV hK hN hP hD [1, 2, 3, 4, 5, 6, 7] (by decide) rfl 2 1 rfl rfl) rfl rfl hl.1 rfl (lv_room (Nat.le_of_ble_eq_true rfl)) dX5_take_51 ⟨Nat.le_of_ble_eq_true rfl, Nat.le_of_ble_eq_true rfl⟩) hP hD hS hA rfl rfl (by decide) (by decide) (fun r51 u51 H locs hw51 hP hD hS => ?_)
          rcases hw51 with ⟨rfl, hq51⟩ | ⟨b51, rfl, hb51, ho51, hl51⟩
          · have hP : va_P D vwCl ((bT k ot tq ow oe oc ou oa to tt) ++ (bC k oc cc ca cl ch) ++ (bA k oa ac as) ++ (bU k ou uc ut ub ul uw) ++ (bE k oe ec ew el ea ed et ex)) H := hP
            have hD : va_D A ((bT k ot tq ow oe oc ou oa to tt) ++ (bC k oc cc ca cl ch) ++ (bA k oa ac as) ++ (bU k ou uc ut ub ul uw) ++ (bE k oe ec ew el ea ed et ex)) := hD
            refine lv_goto (tgt := 58) hx hb dX5_take_54 (by decide) ?_
            refine lv_istore (lv' := [(8, .int (-1)), (7, .int r32), (0, .ref ot), (1, .long a), (3, .int t), (4, .int b), (5, .long tm)]) hx hb dX5_take_58 hl (by decide) rfl (fun ls hl => ?_)
            refine lv_iload hx hb dX5_take_60 (lv_at hl 0 rfl) ?_
            refine lv_iconst (v := (-1)) hx hb dX5_take_62 (by decide) ?_
            refine lv_icmp_eq (tgt := 96) hx hb dX5_take_63 (by decide) (fun _ => ?_) (fun c => absurd c (by decide))
            refine lv_aload_n hx hb dX5_take_96 rfl (lv_at hl 2 rfl) ?_
            refine va_get (D := D) (ci := 5) (v := .ref (oc 0)) (C := RX5) (T := TX5) (N := 8) hx hb hts hinW hown hK hP 0 rfl rfl 3 (by decide) (hts _ tw_140) (fun _ h9 => h9) rfl dX5_take_97 ?_
            refine lv_lload_n hx hb dX5_take_100 rfl (lv_at hl 3 rfl) ?_
            refine xx_calli ((bT k ot tq ow oe oc ou oa to tt) ++ (bA k oa ac as) ++ (bU k ou uc ut ub ul uw) ++ (bE k oe ec ew el ea ed et ex)) [1, 2, 3, 4] [0, 5, 6, 7, 8, 9, 10, 11, 12, 13, 14, 15, 16, 17, 18] (va_runV (As := [.long a]) (rest := []) ⟨hx, hb, hml, hown, hts⟩ (c_C_has l D k oc cc ca cl ch a (by omega) H.size) (cwV 1 hts (xx_gV tw_227 tw_228 tw_229 tw_5 tw_230) rfl rfl rfl (by decide +kernel) ⟨Nat.le_of_ble_eq_true rfl, Nat.le_of_ble_eq_true rfl⟩) (xx_preV hK hN hP hD [1, 2, 3, 4] (by decide) rfl 1 1 rfl rfl) rfl rfl hl.1 rfl (lv_room (Nat.le_of_ble_eq_true rfl)) dX5_take_101 ⟨Nat.le_of_ble_eq_true rfl, Nat.le_of_ble_eq_true rfl⟩) hP hD hS hA rfl rfl (by decide) (by decide) (fun r101 u101 H locs hw101 hP hD hS => ?_)
            rcases hw101 with ⟨rfl, hq101⟩ | ⟨rfl, hq101⟩
            · have hP : va_P D vwCl ((bT k ot tq ow oe oc ou oa to tt) ++ (bA k oa ac as) ++ (bU k ou uc ut ub ul uw) ++ (bE k oe ec ew el ea ed et ex) ++ (bC k oc cc ca cl ch)) H := hP
              have hD : va_D A ((bT k ot tq ow oe oc ou oa to tt) ++ (bA k oa ac as) ++ (bU k ou uc ut ub ul uw) ++ (bE k oe ec ew el ea ed et ex) ++ (bC k oc cc ca cl ch)) := hD
              refine lv_if_eq (tgt := 109) hx hb dX5_take_104 (by decide) (fun c => absurd c (by decide)) (fun _ => ?_)
              refine lv_iconst (v := (nI 0)) hx hb dX5_take_107 (by decide) ?_
              refine xx_iret (tt, ac, as) hx hb hr hlocks hS hK (xx_subP hP [0, 8, 9, 10, 11, 12, 13, 14, 15, 16, 17, 18, 3, 4, 5, 6, 7, 1, 2] rfl) (hD.sub [0, 8, 9, 10, 11, 12, 13, 14, 15, 16, 17, 18, 3, 4, 5, 6, 7, 1, 2] (by decide) rfl) dX5_take_108 ?_
              first | exact Or.inr ⟨⟨⟨hq1, hq9⟩, xx_lnlt c19⟩, r32, hw32, Or.inr ⟨fun h => xx_tf h.1 c41, Or.inl ⟨hq101, rfl, rfl⟩⟩⟩ | exact Or.inr ⟨⟨⟨hq1, hq9⟩, xx_lnlt c19⟩, r32, hw32, Or.inr ⟨fun ⟨_, j, z1, z2⟩ => hq51 j z1 z2, Or.inl ⟨hq101, rfl, rfl⟩⟩⟩
            · have hP : va_P D vwCl ((bT k ot tq ow oe oc ou oa to tt) ++ (bA k oa ac as) ++ (bU k ou uc ut ub ul uw) ++ (bE k oe ec ew el ea ed et ex) ++ (bC k oc cc ca cl ch)) H := hP
              have hD : va_D A ((bT k ot tq ow oe oc ou oa to tt) ++ (bA k oa ac as) ++ (bU k ou uc ut ub ul uw) ++ (bE k oe ec ew el ea ed et ex) ++ (bC k oc cc ca cl ch)) := hD
              refine lv_if_eq (tgt := 109) hx hb dX5_take_104 (by decide) (fun _ => ?_) (fun c => absurd c (by decide))
              refine lv_aload_n hx hb dX5_take_109 rfl (lv_at hl 2 rfl) ?_
              refine va_get (D := D) (ci := 5) (v := .ref (ou 0)) (C := RX5) (T := TX5) (N := 8) hx hb hts hinW hown hK hP 0 rfl rfl 4 (by decide) (hts _ tw_141) (fun _ h9 => h9) rfl dX5_take_110 ?_
              refine lv_iload hx hb dX5_take_113 (lv_at hl 1 rfl) ?_
              refine xx_calli ((bT k ot tq ow oe oc ou oa to tt) ++ (bA k oa ac as) ++ (bE k oe ec ew el ea ed et ex) ++ (bC k oc cc ca cl ch)) [3, 4, 5, 6, 7] [0, 1, 2, 8, 9, 10, 11, 12, 13, 14, 15, 16, 17, 18] (va_runV (As := [.int r32]) (rest := []) ⟨hx, hb, hml, hown, hts⟩ (c_U_level l D k ou uc ut ub ul uw r32 (by omega) H.size) (cwV 1 hts (xx_gV tw_315 tw_316 tw_317 tw_6 tw_318) rfl rfl rfl (by decide +kernel) ⟨Nat.le_of_ble_eq_true rfl, Nat.le_of_ble_eq_true rfl⟩) (xx_preV hK hN hP hD [3, 4, 5, 6, 7] (by decide) rfl 3 3 rfl rfl) rfl rfl hl.1 rfl (lv_room (Nat.le_of_ble_eq_true rfl)) dX5_take_115 ⟨Nat.le_of_ble_eq_true rfl, Nat.le_of_ble_eq_true rfl⟩) hP hD hS hA rfl rfl (by decide) (by decide) (fun r115 u115 H locs hw115 hP hD hS => ?_)
              have hP : va_P D vwCl ((bT k ot tq ow oe oc ou oa to tt) ++ (bA k oa ac as) ++ (bE k oe ec ew el ea ed et ex) ++ (bC k oc cc ca cl ch) ++ (bU k ou uc ut ub ul uw)) H := hP
              have hD : va_D A ((bT k ot tq ow oe oc ou oa to tt) ++ (bA k oa ac as) ++ (bE k oe ec ew el ea ed et ex) ++ (bC k oc cc ca cl ch) ++ (bU k ou uc ut ub ul uw)) := hD
              refine lv_istore (lv' := [(9, .int r115), (8, .int (-1)), (7, .int r32), (0, .ref ot), (1, .long a), (3, .int t), (4, .int b), (5, .long tm)]) hx hb dX5_take_118 hl (by decide) rfl (fun ls hl => ?_)
              refine lv_aload_n hx hb dX5_take_120 rfl (lv_at hl 3 rfl) ?_
              refine va_get (D := D) (ci := 5) (v := .ref (oe 0)) (C := RX5) (T := TX5) (N := 8) hx hb hts hinW hown hK hP 0 rfl rfl 2 (by decide) (hts _ tw_139) (fun _ h9 => h9) rfl dX5_take_121 ?_
              refine lv_lload_n hx hb dX5_take_124 rfl (lv_at hl 4 rfl) ?_
              refine lv_iload hx hb dX5_take_125 (lv_at hl 0 rfl) ?_
              refine lv_lload hx hb dX5_take_127 (lv_at hl 7 rfl) ?_
              refine xx_calli ((bT k ot tq ow oe oc ou oa to tt) ++ (bA k oa ac as) ++ (bC k oc cc ca cl ch) ++ (bU k ou uc ut ub ul uw)) [3, 4, 5, 6, 7, 8, 9] [0, 1, 2, 10, 11, 12, 13, 14, 15, 16, 17, 18] (va_runV (As := [.long a, .int r115, .long tm]) (rest := []) ⟨hx, hb, hml, hown, hts⟩ (c_E_count l D k oe ec ew el ea ed et ex a r115 tm hec hew H.size) (cwV 3 hts (xx_gV tw_319 tw_320 tw_321 tw_4 tw_322) rfl rfl rfl (by decide +kernel) ⟨Nat.le_of_ble_eq_true rfl, Nat.le_of_ble_eq_true rfl⟩) (xx_preV hK hN hP hD [3, 4, 5, 6, 7, 8, 9] (by decide) rfl 2 3 rfl rfl) rfl rfl hl.1 rfl (lv_room (Nat.le_of_ble_eq_true rfl)) dX5_take_129 ⟨Nat.le_of_ble_eq_true rfl, Nat.le_of_ble_eq_true rfl⟩) hP hD hS hA rfl rfl (by decide) (by decide) (fun r129 u129 H locs hw129 hP hD hS => ?_)
              obtain rfl := hw129
              have hP : va_P D vwCl ((bT k ot tq ow oe oc ou oa to tt) ++ (bA k oa ac as) ++ (bC k oc cc ca cl ch) ++ (bU k ou uc ut ub ul uw) ++ (bE k oe ec ew el ea ed et ex)) H := hP
              have hD : va_D A ((bT k ot tq ow oe oc ou oa to tt) ++ (bA k oa ac as) ++ (bC k oc cc ca cl ch) ++ (bU k ou uc ut ub ul uw) ++ (bE k oe ec ew el ea ed et ex)) := hD
              refine lv_istore (lv' := [(10, .int (xs_pop (xs_seen (fun z9 => decide (ex z9 = false ∧ ea z9 = a ∧ ¬ (el z9 < r115) ∧ ¬ (tm < et z9))) ew ec))), (9, .int r115), (8, .int (-1)), (7, .int r32), (0, .ref ot), (1, .long a), (3, .int t), (4, .int b), (5, .long tm)]) hx hb dX5_take_132 hl (by decide) rfl (fun ls hl => ?_)
              refine lv_iload hx hb dX5_take_134 (lv_at hl 0 rfl) ?_
              refine lv_aload_n hx hb dX5_take_136 rfl (lv_at hl 4 rfl) ?_
              refine va_get (D := D) (ci := 5) (v := .ref (ou 0)) (C := RX5) (T := TX5) (N := 8) hx hb hts hinW hown hK hP 0 rfl rfl 4 (by decide) (hts _ tw_141) (fun _ h9 => h9) rfl dX5_take_137 ?_
              refine lv_iload hx hb dX5_take_140 (lv_at hl 3 rfl) ?_
              refine lv_aload_n hx hb dX5_take_142 rfl (lv_at hl 4 rfl) ?_
              refine va_get (D := D) (ci := 5) (v := .int tq) (C := RX5) (T := TX5) (N := 8) hx hb hts hinW hown hK hP 0 rfl rfl 0 (by decide) (hts _ tw_137) (fun _ h9 => h9) rfl dX5_take_143 ?_
              refine xx_calli ((bT k ot tq ow oe oc ou oa to tt) ++ (bA k oa ac as) ++ (bC k oc cc ca cl ch) ++ (bE k oe ec ew el ea ed et ex)) [7, 8, 9, 10, 11] [0, 1, 2, 3, 4, 5, 6, 12, 13, 14, 15, 16, 17, 18] (va_runV (As := [.int r32, .int tq]) (rest := [.int (xs_pop (xs_seen (fun z9 => decide (ex z9 = false ∧ ea z9 = a ∧ ¬ (el z9 < r115) ∧ ¬ (tm < et z9))) ew ec))]) ⟨hx, hb, hml, hown, hts⟩ (c_U_wanted l D k ou uc ut ub ul uw r32 tq (by omega) H.size) (cwV 2 hts (xx_gV tw_329 tw_330 tw_331 tw_6 tw_332) rfl rfl rfl (by decide +kernel) ⟨Nat.le_of_ble_eq_true rfl, Nat.le_of_ble_eq_true rfl⟩) (xx_preV hK hN hP hD [7, 8, 9, 10, 11] (by decide) rfl 3 7 rfl rfl) rfl rfl hl.1 rfl (lv_room (Nat.le_of_ble_eq_true rfl)) dX5_take_146 ⟨Nat.le_of_ble_eq_true rfl, Nat.le_of_ble_eq_true rfl⟩) hP hD hS hA rfl rfl (by decide) (by decide) (fun r146 u146 H locs hw146 hP hD hS => ?_)
              have hP : va_P D vwCl ((bT k ot tq ow oe oc ou oa to tt) ++ (bA k oa ac as) ++ (bC k oc cc ca cl ch) ++ (bE k oe ec ew el ea ed et ex) ++ (bU k ou uc ut ub ul uw)) H := hP
              have hD : va_D A ((bT k ot tq ow oe oc ou oa to tt) ++ (bA k oa ac as) ++ (bC k oc cc ca cl ch) ++ (bE k oe ec ew el ea ed et ex) ++ (bU k ou uc ut ub ul uw)) := hD
              refine lv_icmp_lt (tgt := 167) hx hb dX5_take_149 (by decide) (fun c149 => ?_) (fun c149 => ?_)
              · refine lv_iconst (v := (-1)) hx hb dX5_take_167 (by decide) ?_
                refine xx_iret (tt, ac, as) hx hb hr hlocks hS hK (xx_subP hP [0, 7, 8, 9, 10, 11, 12, 13, 3, 4, 5, 6, 14, 15, 16, 17, 18, 1, 2] rfl) (hD.sub [0, 7, 8, 9, 10, 11, 12, 13, 3, 4, 5, 6, 14, 15, 16, 17, 18, 1, 2] (by decide) rfl) dX5_take_168 ?_
                first | exact Or.inr ⟨⟨⟨hq1, hq9⟩, xx_lnlt c19⟩, r32, hw32, Or.inr ⟨fun h => xx_tf h.1 c41, Or.inr ⟨hq101, r115, r146, hw115, hw146, Or.inl ⟨rfl, fun h => h.1 c149, rfl⟩⟩⟩⟩ | exact Or.inr ⟨⟨⟨hq1, hq9⟩, xx_lnlt c19⟩, r32, hw32, Or.inr ⟨fun h => xx_tf h.1 c41, Or.inr ⟨hq101, r115, r146, hw115, hw146, Or.inl ⟨rfl, fun h => hq161 h.2, rfl⟩⟩⟩⟩ | exact Or.inr ⟨⟨⟨hq1, hq9⟩, xx_lnlt c19⟩, r32, hw32, Or.inr ⟨fun ⟨_, j, z1, z2⟩ => hq51 j z1 z2, Or.inr ⟨hq101, r115, r146, hw115, hw146, Or.inl ⟨rfl, fun h => h.1 c149, rfl⟩⟩⟩⟩ | exact Or.inr ⟨⟨⟨hq1, hq9⟩, xx_lnlt c19⟩, r32, hw32, Or.inr ⟨fun ⟨_, j, z1, z2⟩ => hq51 j z1 z2, Or.inr ⟨hq101, r115, r146, hw115, hw146, Or.inl ⟨rfl, fun h => hq161 h.2, rfl⟩⟩⟩⟩
              · refine lv_aload_n hx hb dX5_take_152 rfl (lv_at hl 4 rfl) ?_
                refine va_get (D := D) (ci := 5) (v := .ref (oe 0)) (C := RX5) (T := TX5) (N := 8) hx hb hts hinW hown hK hP 0 rfl rfl 2 (by decide) (hts _ tw_139) (fun _ h9 => h9) rfl dX5_take_153 ?_
                refine lv_lload_n hx hb dX5_take_156 rfl (lv_at hl 5 rfl) ?_
                refine lv_iload hx hb dX5_take_157 (lv_at hl 1 rfl) ?_
                refine lv_lload hx hb dX5_take_159 (lv_at hl 8 rfl) ?_
                refine xx_calli ((bT k ot tq ow oe oc ou oa to tt) ++ (bA k oa ac as) ++ (bC k oc cc ca cl ch) ++ (bU k ou uc ut ub ul uw)) [7, 8, 9, 10, 11, 12, 13] [0, 1, 2, 3, 4, 5, 6, 14, 15, 16, 17, 18] (va_runV (As := [.long a, .int r115, .long tm]) (rest := []) ⟨hx, hb, hml, hown, hts⟩ (c_E_one l D k oe ec ew el ea ed et ex a r115 tm (by omega) H.size) (cwV 3 hts (xx_gV tw_333 tw_334 tw_335 tw_4 tw_336) rfl rfl rfl (by decide +kernel) ⟨Nat.le_of_ble_eq_true rfl, Nat.le_of_ble_eq_true rfl⟩) (xx_preV hK hN hP hD [7, 8, 9, 10, 11, 12, 13] (by decide) rfl 2 7 rfl rfl) rfl rfl hl.1 rfl (lv_room (Nat.le_of_ble_eq_true rfl)) dX5_take_161 ⟨Nat.le_of_ble_eq_true rfl, Nat.le_of_ble_eq_true rfl⟩) hP hD hS hA rfl rfl (by decide) (by decide) (fun r161 u161 H locs hw161 hP hD hS => ?_)
                rcases hw161 with ⟨rfl, hq161⟩ | ⟨rfl, hq161⟩
                · have hP : va_P D vwCl ((bT k ot tq ow oe oc ou oa to tt) ++ (bA k oa ac as) ++ (bC k oc cc ca cl ch) ++ (bU k ou uc ut ub ul uw) ++ (bE k oe ec ew el ea ed et ex)) H := hP
                  have hD : va_D A ((bT k ot tq ow oe oc ou oa to tt) ++ (bA k oa ac as) ++ (bC k oc cc ca cl ch) ++ (bU k ou uc ut ub ul uw) ++ (bE k oe ec ew el ea ed et ex)) := hD
                  refine lv_if_ne (tgt := 169) hx hb dX5_take_164 (by decide) (fun _ => ?_) (fun c => absurd c (by decide))
                  refine lv_aload_n hx hb dX5_take_169 rfl (lv_at hl 4 rfl) ?_
                  refine va_get (D := D) (ci := 5) (v := .ref (oe 0)) (C := RX5) (T := TX5) (N := 8) hx hb hts hinW hown hK hP 0 rfl rfl 2 (by decide) (hts _ tw_139) (fun _ h9 => h9) rfl dX5_take_170 ?_
                  refine lv_lload_n hx hb dX5_take_173 rfl (lv_at hl 5 rfl) ?_
                  refine lv_iload hx hb dX5_take_174 (lv_at hl 1 rfl) ?_
                  refine lv_lload hx hb dX5_take_176 (lv_at hl 8 rfl) ?_
                  refine xx_calli ((bT k ot tq ow oe oc ou oa to tt) ++ (bA k oa ac as) ++ (bC k oc cc ca cl ch) ++ (bU k ou uc ut ub ul uw)) [12, 13, 14, 15, 16, 17, 18] [0, 1, 2, 3, 4, 5, 6, 7, 8, 9, 10, 11] (va_runV (As := [.long a, .int r115, .long tm]) (rest := []) ⟨hx, hb, hml, hown, hts⟩ (c_E_first l D k oe ec ew el ea ed et ex a r115 tm (by omega) H.size) (cwV 3 hts (xx_gV tw_342 tw_338 tw_339 tw_4 tw_340) rfl rfl rfl (by decide +kernel) ⟨Nat.le_of_ble_eq_true rfl, Nat.le_of_ble_eq_true rfl⟩) (xx_preV hK hN hP hD [12, 13, 14, 15, 16, 17, 18] (by decide) rfl 2 12 rfl rfl) rfl rfl hl.1 rfl (lv_room (Nat.le_of_ble_eq_true rfl)) dX5_take_178 ⟨Nat.le_of_ble_eq_true rfl, Nat.le_of_ble_eq_true rfl⟩) hP hD hS hA rfl rfl (by decide) (by decide) (fun r178 u178 H locs hw178 hP hD hS => ?_)
                  have hP : va_P D vwCl ((bT k ot tq ow oe oc ou oa to tt) ++ (bA k oa ac as) ++ (bC k oc cc ca cl ch) ++ (bU k ou uc ut ub ul uw) ++ (bE k oe ec ew el ea ed et ex)) H := hP
                  have hD : va_D A ((bT k ot tq ow oe oc ou oa to tt) ++ (bA k oa ac as) ++ (bC k oc cc ca cl ch) ++ (bU k ou uc ut ub ul uw) ++ (bE k oe ec ew el ea ed et ex)) := hD
                  refine lv_istore (lv' := [(11, .int r178), (10, .int (xs_pop (xs_seen (fun z9 => decide (ex z9 = false ∧ ea z9 = a ∧ ¬ (el z9 < r115) ∧ ¬ (tm < et z9))) ew ec))), (9, .int r115), (8, .int (-1)), (7, .int r32), (0, .ref ot), (1, .long a), (3, .int t), (4, .int b), (5, .long tm)]) hx hb dX5_take_181 hl (by decide) rfl (fun ls hl => ?_)
                  refine lv_aload_n hx hb dX5_take_183 rfl (lv_at hl 5 rfl) ?_
                  refine va_get (D := D) (ci := 5) (v := .ref (oa 0)) (C := RX5) (T := TX5) (N := 8) hx hb hts hinW hown hK hP 0 rfl rfl 5 (by decide) (hts _ tw_142) (fun _ h9 => h9) rfl dX5_take_184 ?_
                  refine lv_iload_n hx hb dX5_take_187 rfl (lv_at hl 7 rfl) ?_
                  refine lv_iload hx hb dX5_take_188 (lv_at hl 8 rfl) ?_
                  refine lv_iload hx hb dX5_take_190 (lv_at hl 4 rfl) ?_
                  refine lv_iload hx hb dX5_take_192 (lv_at hl 1 rfl) ?_
                  refine lv_iload hx hb dX5_take_194 (lv_at hl 0 rfl) ?_
                  refine xx_callv ((bT k ot tq ow oe oc ou oa to tt) ++ (bC k oc cc ca cl ch) ++ (bU k ou uc ut ub ul uw) ++ (bE k oe ec ew el ea ed et ex)) [1, 2] [0, 3, 4, 5, 6, 7, 8, 9, 10, 11, 12, 13, 14, 15, 16, 17, 18] (va_runV (As := [.int t, .int b, .int r32, .int (xs_pop (xs_seen (fun z9 => decide (ex z9 = false ∧ ea z9 = a ∧ ¬ (el z9 < r115) ∧ ¬ (tm < et z9))) ew ec)), .int r178]) (rest := []) ⟨hx, hb, hml, hown, hts⟩ (c_A_add l D k oa ac as t b r32 (xs_pop (xs_seen (fun z9 => decide (ex z9 = false ∧ ea z9 = a ∧ ¬ (el z9 < r115) ∧ ¬ (tm < et z9))) ew ec)) r178 (by omega) H.size) (cwV 5 hts (xx_gV tw_307 tw_308 tw_309 tw_7 tw_310) rfl rfl rfl (by decide +kernel) ⟨Nat.le_of_ble_eq_true rfl, Nat.le_of_ble_eq_true rfl⟩) (xx_preV hK hN hP hD [1, 2] (by decide) rfl 0 1 rfl rfl) rfl rfl hl.1 rfl (lv_room (Nat.le_of_ble_eq_true rfl)) dX5_take_196 ⟨Nat.le_of_ble_eq_true rfl, Nat.le_of_ble_eq_true rfl⟩) hP hD hS hA rfl rfl (by decide) (by decide) (fun u196 H locs hw196 hP hD hS => ?_)
                  have hP : va_P D vwCl ((bT k ot tq ow oe oc ou oa to tt) ++ (bC k oc cc ca cl ch) ++ (bU k ou uc ut ub ul uw) ++ (bE k oe ec ew el ea ed et ex) ++ (bA k oa u196.1 u196.2)) H := hP
                  have hD : va_D A ((bT k ot tq ow oe oc ou oa to tt) ++ (bC k oc cc ca cl ch) ++ (bU k ou uc ut ub ul uw) ++ (bE k oe ec ew el ea ed et ex) ++ (bA k oa u196.1 u196.2)) := hD
                  refine lv_aload_n hx hb dX5_take_199 rfl (lv_at hl 5 rfl) ?_
                  refine lv_aload_n hx hb dX5_take_200 rfl (lv_at hl 5 rfl) ?_
                  refine va_get (D := D) (ci := 5) (v := .ref (oe 0)) (C := RX5) (T := TX5) (N := 8) hx hb hts hinW hown hK hP 0 rfl rfl 2 (by decide) (hts _ tw_139) (fun _ h9 => h9) rfl dX5_take_201 ?_
                  refine lv_iload hx hb dX5_take_204 (lv_at hl 0 rfl) ?_
                  refine xx_calll ((bT k ot tq ow oe oc ou oa to tt) ++ (bC k oc cc ca cl ch) ++ (bU k ou uc ut ub ul uw) ++ (bA k oa u196.1 u196.2)) [10, 11, 12, 13, 14, 15, 16] [0, 1, 2, 3, 4, 5, 6, 7, 8, 9, 17, 18] (va_runV (As := [.int r178]) (rest := [.ref ot]) ⟨hx, hb, hml, hown, hts⟩ (c_E_digest l D k oe ec ew el ea ed et ex r178 (by omega) H.size) (cwV 1 hts (xx_gV tw_311 tw_312 tw_313 tw_4 tw_314) rfl rfl rfl (by decide +kernel) ⟨Nat.le_of_ble_eq_true rfl, Nat.le_of_ble_eq_true rfl⟩) (xx_preV hK hN hP hD [10, 11, 12, 13, 14, 15, 16] (by decide) rfl 2 10 rfl rfl) rfl rfl hl.1 rfl (lv_room (Nat.le_of_ble_eq_true rfl)) dX5_take_206 ⟨Nat.le_of_ble_eq_true rfl, Nat.le_of_ble_eq_true rfl⟩) hP hD hS hA rfl rfl (by decide) (by decide) (fun r206 u206 H locs hw206 hP hD hS => ?_)
                  have hP : va_P D vwCl ((bT k ot tq ow oe oc ou oa to tt) ++ (bC k oc cc ca cl ch) ++ (bU k ou uc ut ub ul uw) ++ (bA k oa u196.1 u196.2) ++ (bE k oe ec ew el ea ed et ex)) H := hP
                  have hD : va_D A ((bT k ot tq ow oe oc ou oa to tt) ++ (bC k oc cc ca cl ch) ++ (bU k ou uc ut ub ul uw) ++ (bA k oa u196.1 u196.2) ++ (bE k oe ec ew el ea ed et ex)) := hD
                  refine va_put (D := D) (ci := 5) (v := .long r206) (ty := .long) (C := RX5) (T := TX5) (N := 8) hx hb hts hinW tyX5 tyX5_ok nmX5 hown hK hP hD hS 0 rfl rfl 7 (by decide) (hts _ tw_144) (fun _ h9 => h9) rfl (by decide +kernel) rfl rfl (Nat.le_of_ble_eq_true rfl) dX5_take_209 (fun H locs hP hD hS => ?_)
                  have hP : va_P D vwCl ((bT k ot tq ow oe oc ou oa to r206) ++ (bC k oc cc ca cl ch) ++ (bU k ou uc ut ub ul uw) ++ (bA k oa u196.1 u196.2) ++ (bE k oe ec ew el ea ed et ex)) H := hP
                  have hD : va_D A ((bT k ot tq ow oe oc ou oa to r206) ++ (bC k oc cc ca cl ch) ++ (bU k ou uc ut ub ul uw) ++ (bA k oa u196.1 u196.2) ++ (bE k oe ec ew el ea ed et ex)) := hD
                  refine lv_iconst (v := (nI 1)) hx hb dX5_take_212 (by decide) ?_
                  refine xx_iret (r206, u196.1, u196.2) hx hb hr hlocks hS hK (xx_subP hP [0, 12, 13, 14, 15, 16, 17, 18, 1, 2, 3, 4, 5, 6, 7, 8, 9, 10, 11] rfl) (hD.sub [0, 12, 13, 14, 15, 16, 17, 18, 1, 2, 3, 4, 5, 6, 7, 8, 9, 10, 11] (by decide) rfl) dX5_take_213 ?_
                  first | exact Or.inr ⟨⟨⟨hq1, hq9⟩, xx_lnlt c19⟩, r32, hw32, Or.inr ⟨fun h => xx_tf h.1 c41, Or.inr ⟨hq101, r115, r146, hw115, hw146, Or.inr ⟨rfl, ⟨c149, hq161⟩, r178, hw178, hw206, hw196⟩⟩⟩⟩ | exact Or.inr ⟨⟨⟨hq1, hq9⟩, xx_lnlt c19⟩, r32, hw32, Or.inr ⟨fun ⟨_, j, z1, z2⟩ => hq51 j z1 z2, Or.inr ⟨hq101, r115, r146, hw115, hw146, Or.inr ⟨rfl, ⟨c149, hq161⟩, r178, hw178, hw206, hw196⟩⟩⟩⟩
                · have hP : va_P D vwCl ((bT k ot tq ow oe oc ou oa to tt) ++ (bA k oa ac as) ++ (bC k oc cc ca cl ch) ++ (bU k ou uc ut ub ul uw) ++ (bE k oe ec ew el ea ed et ex)) H := hP
                  have hD : va_D A ((bT k ot tq ow oe oc ou oa to tt) ++ (bA k oa ac as) ++ (bC k oc cc ca cl ch) ++ (bU k ou uc ut ub ul uw) ++ (bE k oe ec ew el ea ed et ex)) := hD
                  refine lv_if_ne (tgt := 169) hx hb dX5_take_164 (by decide) (fun c => absurd c (by decide)) (fun _ => ?_)
                  refine lv_iconst (v := (-1)) hx hb dX5_take_167 (by decide) ?_
                  refine xx_iret (tt, ac, as) hx hb hr hlocks hS hK (xx_subP hP [0, 12, 13, 14, 15, 16, 17, 18, 3, 4, 5, 6, 7, 8, 9, 10, 11, 1, 2] rfl) (hD.sub [0, 12, 13, 14, 15, 16, 17, 18, 3, 4, 5, 6, 7, 8, 9, 10, 11, 1, 2] (by decide) rfl) dX5_take_168 ?_
                  first | exact Or.inr ⟨⟨⟨hq1, hq9⟩, xx_lnlt c19⟩, r32, hw32, Or.inr ⟨fun h => xx_tf h.1 c41, Or.inr ⟨hq101, r115, r146, hw115, hw146, Or.inl ⟨rfl, fun h => h.1 c149, rfl⟩⟩⟩⟩ | exact Or.inr ⟨⟨⟨hq1, hq9⟩, xx_lnlt c19⟩, r32, hw32, Or.inr ⟨fun h => xx_tf h.1 c41, Or.inr ⟨hq101, r115, r146, hw115, hw146, Or.inl ⟨rfl, fun h => hq161 h.2, rfl⟩⟩⟩⟩ | exact Or.inr ⟨⟨⟨hq1, hq9⟩, xx_lnlt c19⟩, r32, hw32, Or.inr ⟨fun ⟨_, j, z1, z2⟩ => hq51 j z1 z2, Or.inr ⟨hq101, r115, r146, hw115, hw146, Or.inl ⟨rfl, fun h => h.1 c149, rfl⟩⟩⟩⟩ | exact Or.inr ⟨⟨⟨hq1, hq9⟩, xx_lnlt c19⟩, r32, hw32, Or.inr ⟨fun ⟨_, j, z1, z2⟩ => hq51 j z1 z2, Or.inr ⟨hq101, r115, r146, hw115, hw146, Or.inl ⟨rfl, fun h => hq161 h.2, rfl⟩⟩⟩⟩
          · have hP : va_P D vwCl ((bT k ot tq ow oe oc ou oa to tt) ++ (bC k oc cc ca cl ch) ++ (bA k oa ac as) ++ (bU k ou uc ut ub ul uw) ++ (bE k oe ec ew el ea ed et ex)) H := hP
            have hD : va_D A ((bT k ot tq ow oe oc ou oa to tt) ++ (bC k oc cc ca cl ch) ++ (bA k oa ac as) ++ (bU k ou uc ut ub ul uw) ++ (bE k oe ec ew el ea ed et ex)) := hD
            refine lv_goto (tgt := 58) hx hb dX5_take_54 (by decide) ?_
            refine lv_istore (lv' := [(8, .int (nI b51)), (7, .int r32), (0, .ref ot), (1, .long a), (3, .int t), (4, .int b), (5, .long tm)]) hx hb dX5_take_58 hl (by decide) rfl (fun ls hl => ?_)
            refine lv_iload hx hb dX5_take_60 (lv_at hl 0 rfl) ?_
            refine lv_iconst (v := (-1)) hx hb dX5_take_62 (by decide) ?_
            refine lv_icmp_eq (tgt := 96) hx hb dX5_take_63 (by decide) (fun c => absurd c (xx_nm1 (by omega))) (fun _ => ?_)
            refine lv_aload_n hx hb dX5_take_66 rfl (lv_at hl 2 rfl) ?_
            refine va_get (D := D) (ci := 5) (v := .ref (oa 0)) (C := RX5) (T := TX5) (N := 8) hx hb hts hinW hown hK hP 0 rfl rfl 5 (by decide) (hts _ tw_142) (fun _ h9 => h9) rfl dX5_take_67 ?_
            refine lv_iload_n hx hb dX5_take_70 rfl (lv_at hl 4 rfl) ?_
            refine lv_iload hx hb dX5_take_71 (lv_at hl 5 rfl) ?_
            refine lv_iload hx hb dX5_take_73 (lv_at hl 1 rfl) ?_
            refine lv_iconst (v := (nI 0)) hx hb dX5_take_75 (by decide) ?_
            refine lv_iload hx hb dX5_take_76 (lv_at hl 0 rfl) ?_
            refine xx_callv ((bT k ot tq ow oe oc ou oa to tt) ++ (bC k oc cc ca cl ch) ++ (bU k ou uc ut ub ul uw) ++ (bE k oe ec ew el ea ed et ex)) [5, 6] [0, 1, 2, 3, 4, 7, 8, 9, 10, 11, 12, 13, 14, 15, 16, 17, 18] (va_runV (As := [.int t, .int b, .int r32, .int (nI 0), .int (nI b51)]) (rest := []) ⟨hx, hb, hml, hown, hts⟩ (c_A_add l D k oa ac as t b r32 (nI 0) (nI b51) (by omega) H.size) (cwV 5 hts (xx_gV tw_307 tw_308 tw_309 tw_7 tw_310) rfl rfl rfl (by decide +kernel) ⟨Nat.le_of_ble_eq_true rfl, Nat.le_of_ble_eq_true rfl⟩) (xx_preV hK hN hP hD [5, 6] (by decide) rfl 0 5 rfl rfl) rfl rfl hl.1 rfl (lv_room (Nat.le_of_ble_eq_true rfl)) dX5_take_78 ⟨Nat.le_of_ble_eq_true rfl, Nat.le_of_ble_eq_true rfl⟩) hP hD hS hA rfl rfl (by decide) (by decide) (fun u78 H locs hw78 hP hD hS => ?_)
            have hP : va_P D vwCl ((bT k ot tq ow oe oc ou oa to tt) ++ (bC k oc cc ca cl ch) ++ (bU k ou uc ut ub ul uw) ++ (bE k oe ec ew el ea ed et ex) ++ (bA k oa u78.1 u78.2)) H := hP
            have hD : va_D A ((bT k ot tq ow oe oc ou oa to tt) ++ (bC k oc cc ca cl ch) ++ (bU k ou uc ut ub ul uw) ++ (bE k oe ec ew el ea ed et ex) ++ (bA k oa u78.1 u78.2)) := hD
            refine lv_aload_n hx hb dX5_take_81 rfl (lv_at hl 2 rfl) ?_
            refine lv_aload_n hx hb dX5_take_82 rfl (lv_at hl 2 rfl) ?_
            refine va_get (D := D) (ci := 5) (v := .ref (oe 0)) (C := RX5) (T := TX5) (N := 8) hx hb hts hinW hown hK hP 0 rfl rfl 2 (by decide) (hts _ tw_139) (fun _ h9 => h9) rfl dX5_take_83 ?_
            refine lv_iload hx hb dX5_take_86 (lv_at hl 0 rfl) ?_
            refine xx_calll ((bT k ot tq ow oe oc ou oa to tt) ++ (bC k oc cc ca cl ch) ++ (bU k ou uc ut ub ul uw) ++ (bA k oa u78.1 u78.2)) [10, 11, 12, 13, 14, 15, 16] [0, 1, 2, 3, 4, 5, 6, 7, 8, 9, 17, 18] (va_runV (As := [.int (nI b51)]) (rest := [.ref ot]) ⟨hx, hb, hml, hown, hts⟩ (c_E_digest l D k oe ec ew el ea ed et ex (nI b51) (by omega) H.size) (cwV 1 hts (xx_gV tw_311 tw_312 tw_313 tw_4 tw_314) rfl rfl rfl (by decide +kernel) ⟨Nat.le_of_ble_eq_true rfl, Nat.le_of_ble_eq_true rfl⟩) (xx_preV hK hN hP hD [10, 11, 12, 13, 14, 15, 16] (by decide) rfl 2 10 rfl rfl) rfl rfl hl.1 rfl (lv_room (Nat.le_of_ble_eq_true rfl)) dX5_take_88 ⟨Nat.le_of_ble_eq_true rfl, Nat.le_of_ble_eq_true rfl⟩) hP hD hS hA rfl rfl (by decide) (by decide) (fun r88 u88 H locs hw88 hP hD hS => ?_)
            rcases hw88 with ⟨j88, hj88, hx88, rfl⟩ | ⟨hq88, rfl⟩
            · have hx88 : b51 = j88 := (nI_eq (by omega) (by omega)).mp hx88
              subst hx88
              have hP : va_P D vwCl ((bT k ot tq ow oe oc ou oa to tt) ++ (bC k oc cc ca cl ch) ++ (bU k ou uc ut ub ul uw) ++ (bA k oa u78.1 u78.2) ++ (bE k oe ec ew el ea ed et ex)) H := hP
              have hD : va_D A ((bT k ot tq ow oe oc ou oa to tt) ++ (bC k oc cc ca cl ch) ++ (bU k ou uc ut ub ul uw) ++ (bA k oa u78.1 u78.2) ++ (bE k oe ec ew el ea ed et ex)) := hD
              refine va_put (D := D) (ci := 5) (v := .long (ed b51)) (ty := .long) (C := RX5) (T := TX5) (N := 8) hx hb hts hinW tyX5 tyX5_ok nmX5 hown hK hP hD hS 0 rfl rfl 7 (by decide) (hts _ tw_144) (fun _ h9 => h9) rfl (by decide +kernel) rfl rfl (Nat.le_of_ble_eq_true rfl) dX5_take_91 (fun H locs hP hD hS => ?_)
              have hP : va_P D vwCl ((bT k ot tq ow oe oc ou oa to (ed b51)) ++ (bC k oc cc ca cl ch) ++ (bU k ou uc ut ub ul uw) ++ (bA k oa u78.1 u78.2) ++ (bE k oe ec ew el ea ed et ex)) H := hP
              have hD : va_D A ((bT k ot tq ow oe oc ou oa to (ed b51)) ++ (bC k oc cc ca cl ch) ++ (bU k ou uc ut ub ul uw) ++ (bA k oa u78.1 u78.2) ++ (bE k oe ec ew el ea ed et ex)) := hD
              refine lv_iconst (v := (nI 2)) hx hb dX5_take_94 (by decide) ?_
              refine xx_iret ((ed b51), u78.1, u78.2) hx hb hr hlocks hS hK (xx_subP hP [0, 12, 13, 14, 15, 16, 17, 18, 1, 2, 3, 4, 5, 6, 7, 8, 9, 10, 11] rfl) (hD.sub [0, 12, 13, 14, 15, 16, 17, 18, 1, 2, 3, 4, 5, 6, 7, 8, 9, 10, 11] (by decide) rfl) dX5_take_95 ?_
              exact Or.inr ⟨⟨⟨hq1, hq9⟩, xx_lnlt c19⟩, r32, hw32, Or.inl ⟨c41, b51, ⟨hb51, ho51, hl51⟩, rfl, rfl, hw78⟩⟩
            · exact absurd ⟨b51, (by omega), rfl⟩ hq88
      · have c19 : ¬ (0 ≤ tm) := fun h => c19 ((lg_cmp_ge tm 0).mpr h)
        refine lv_bipush (v := (-2)) hx hb dX5_take_22 (by decide) ?_
        refine xx_iret (tt, ac, as) hx hb hr hlocks hS hK hP hD dX5_take_24 ?_
        first | exact Or.inl ⟨rfl, fun h => hq1 h.1.1, rfl⟩ | exact Or.inl ⟨rfl, fun h => hq9 h.1.2, rfl⟩ | exact Or.inl ⟨rfl, fun h => h.2 (xx_lnle c19), rfl⟩
    · have hP : va_P D vwCl ((bT k ot tq ow oe oc ou oa to tt) ++ (bE k oe ec ew el ea ed et ex) ++ (bC k oc cc ca cl ch) ++ (bU k ou uc ut ub ul uw) ++ (bA k oa ac as)) H := hP
      have hD : va_D A ((bT k ot tq ow oe oc ou oa to tt) ++ (bE k oe ec ew el ea ed et ex) ++ (bC k oc cc ca cl ch) ++ (bU k ou uc ut ub ul uw) ++ (bA k oa ac as)) := hD
      refine lv_if_eq (tgt := 22) hx hb dX5_take_12 (by decide) (fun _ => ?_) (fun c => absurd c (by decide))
      refine lv_bipush (v := (-2)) hx hb dX5_take_22 (by decide) ?_
      refine xx_iret (tt, ac, as) hx hb hr hlocks hS hK hP hD dX5_take_24 ?_
      first | exact Or.inl ⟨rfl, fun h => hq1 h.1.1, rfl⟩ | exact Or.inl ⟨rfl, fun h => hq9 h.1.2, rfl⟩ | exact Or.inl ⟨rfl, fun h => h.2 (xx_lnle c19), rfl⟩
  · have hP : va_P D vwCl ((bT k ot tq ow oe oc ou oa to tt) ++ (bE k oe ec ew el ea ed et ex) ++ (bC k oc cc ca cl ch) ++ (bU k ou uc ut ub ul uw) ++ (bA k oa ac as)) H := hP
    have hD : va_D A ((bT k ot tq ow oe oc ou oa to tt) ++ (bE k oe ec ew el ea ed et ex) ++ (bC k oc cc ca cl ch) ++ (bU k ou uc ut ub ul uw) ++ (bA k oa ac as)) := hD
    refine lv_if_eq (tgt := 22) hx hb dX5_take_4 (by decide) (fun _ => ?_) (fun c => absurd c (by decide))
    refine lv_bipush (v := (-2)) hx hb dX5_take_22 (by decide) ?_
    refine xx_iret (tt, ac, as) hx hb hr hlocks hS hK hP hD dX5_take_24 ?_
    first | exact Or.inl ⟨rfl, fun h => hq1 h.1.1, rfl⟩ | exact Or.inl ⟨rfl, fun h => hq9 h.1.2, rfl⟩ | exact Or.inl ⟨rfl, fun h => h.2 (xx_lnle c19), rfl⟩
end
