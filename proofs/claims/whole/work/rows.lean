section
-- ===== PART A: goes FIRST, ahead of the names: the tables' words, and 'selects' of the private methods out of them =====
/-- a private method of a class that the tables say can be made, by its rows of tables_1 -/
def lw_okq (q : MethodName × Nat) : Prop := (q.1.cls ≠ "java/lang/invoke/MethodHandle" ∧ q.1.cls ≠ "java/lang/invoke/VarHandle") ∧ Cond.instantiable q.1.cls q.2 ∈ tables_1 ∧ Cond.privateMethod q.1 ∈ tables_1 ∧ Cond.instanceMethod q.1 ∈ tables_1
theorem lw_p0 : lw_okq (⟨"WalkRanks", "renew", "()V"⟩, 6) := ⟨⟨by decide +kernel, by decide +kernel⟩, List.mem_of_getElem? (i := 9) (by decide +kernel), List.mem_of_getElem? (i := 175) (by decide +kernel), List.mem_of_getElem? (i := 176) (by decide +kernel)⟩
theorem lw_p1 : lw_okq (⟨"WalkRanks$Steps", "fillParts", "(LWalkRanks$Graph;II)V"⟩, 4) := ⟨⟨by decide +kernel, by decide +kernel⟩, List.mem_of_getElem? (i := 54) (by decide +kernel), List.mem_of_getElem? (i := 187) (by decide +kernel), List.mem_of_getElem? (i := 188) (by decide +kernel)⟩
theorem lw_p2 : lw_okq (⟨"WalkRanks$Steps", "lowerParts", "(I)V"⟩, 4) := ⟨⟨by decide +kernel, by decide +kernel⟩, List.mem_of_getElem? (i := 54) (by decide +kernel), List.mem_of_getElem? (i := 195) (by decide +kernel), List.mem_of_getElem? (i := 196) (by decide +kernel)⟩
theorem lw_p3 : lw_okq (⟨"WalkRanks$Steps", "sumUp", "(I)V"⟩, 4) := ⟨⟨by decide +kernel, by decide +kernel⟩, List.mem_of_getElem? (i := 54) (by decide +kernel), List.mem_of_getElem? (i := 202) (by decide +kernel), List.mem_of_getElem? (i := 203) (by decide +kernel)⟩
theorem lw_p4 : lw_okq (⟨"WalkRanks$Steps", "nextOf", "(I)I"⟩, 4) := ⟨⟨by decide +kernel, by decide +kernel⟩, List.mem_of_getElem? (i := 54) (by decide +kernel), List.mem_of_getElem? (i := 217) (by decide +kernel), List.mem_of_getElem? (i := 218) (by decide +kernel)⟩
theorem lw_p5 : lw_okq (⟨"WalkRanks$ClosedSets", "isClosedFrom", "(I)Z"⟩, 6) := ⟨⟨by decide +kernel, by decide +kernel⟩, List.mem_of_getElem? (i := 83) (by decide +kernel), List.mem_of_getElem? (i := 225) (by decide +kernel), List.mem_of_getElem? (i := 226) (by decide +kernel)⟩
theorem lw_p6 : lw_okq (⟨"WalkRanks$ClosedSets", "addSet", "(I)V"⟩, 6) := ⟨⟨by decide +kernel, by decide +kernel⟩, List.mem_of_getElem? (i := 83) (by decide +kernel), List.mem_of_getElem? (i := 234) (by decide +kernel), List.mem_of_getElem? (i := 235) (by decide +kernel)⟩
theorem lw_p7 : lw_okq (⟨"WalkRanks", "isNode", "(I)Z"⟩, 6) := ⟨⟨by decide +kernel, by decide +kernel⟩, List.mem_of_getElem? (i := 9) (by decide +kernel), List.mem_of_getElem? (i := 243) (by decide +kernel), List.mem_of_getElem? (i := 244) (by decide +kernel)⟩
theorem lw_p8 : lw_okq (⟨"WalkRanks", "isSet", "(I)Z"⟩, 6) := ⟨⟨by decide +kernel, by decide +kernel⟩, List.mem_of_getElem? (i := 9) (by decide +kernel), List.mem_of_getElem? (i := 279) (by decide +kernel), List.mem_of_getElem? (i := 280) (by decide +kernel)⟩
theorem lw_p9 : lw_okq (⟨"WalkRanks", "fillShares", "(I)J"⟩, 6) := ⟨⟨by decide +kernel, by decide +kernel⟩, List.mem_of_getElem? (i := 9) (by decide +kernel), List.mem_of_getElem? (i := 297) (by decide +kernel), List.mem_of_getElem? (i := 298) (by decide +kernel)⟩
theorem lw_p10 : lw_okq (⟨"WalkRanks", "nodesAhead", "(I)I"⟩, 6) := ⟨⟨by decide +kernel, by decide +kernel⟩, List.mem_of_getElem? (i := 9) (by decide +kernel), List.mem_of_getElem? (i := 323) (by decide +kernel), List.mem_of_getElem? (i := 324) (by decide +kernel)⟩
theorem lw_p11 : lw_okq (⟨"WalkRanks", "chanceToCome", "(III)J"⟩, 6) := ⟨⟨by decide +kernel, by decide +kernel⟩, List.mem_of_getElem? (i := 9) (by decide +kernel), List.mem_of_getElem? (i := 331) (by decide +kernel), List.mem_of_getElem? (i := 332) (by decide +kernel)⟩
theorem lw_p12 : lw_okq (⟨"WalkRanks$Spread", "move", "()V"⟩, 4) := ⟨⟨by decide +kernel, by decide +kernel⟩, List.mem_of_getElem? (i := 128) (by decide +kernel), List.mem_of_getElem? (i := 373) (by decide +kernel), List.mem_of_getElem? (i := 374) (by decide +kernel)⟩
theorem lw_p13 : lw_okq (⟨"WalkRanksModel", "isNode", "(I)Z"⟩, 17) := ⟨⟨by decide +kernel, by decide +kernel⟩, List.mem_of_getElem? (i := 399) (by decide +kernel), List.mem_of_getElem? (i := 465) (by decide +kernel), List.mem_of_getElem? (i := 466) (by decide +kernel)⟩
theorem lw_p14 : lw_okq (⟨"WalkRanksModel", "findRows", "()V"⟩, 17) := ⟨⟨by decide +kernel, by decide +kernel⟩, List.mem_of_getElem? (i := 399) (by decide +kernel), List.mem_of_getElem? (i := 485) (by decide +kernel), List.mem_of_getElem? (i := 486) (by decide +kernel)⟩
theorem lw_p15 : lw_okq (⟨"WalkRanksModel", "findSets", "()V"⟩, 17) := ⟨⟨by decide +kernel, by decide +kernel⟩, List.mem_of_getElem? (i := 399) (by decide +kernel), List.mem_of_getElem? (i := 500) (by decide +kernel), List.mem_of_getElem? (i := 501) (by decide +kernel)⟩
def lw_privs_1 : List (MethodName × Nat) := [(⟨"WalkRanks", "renew", "()V"⟩, 6), (⟨"WalkRanks$Steps", "fillParts", "(LWalkRanks$Graph;II)V"⟩, 4), (⟨"WalkRanks$Steps", "lowerParts", "(I)V"⟩, 4), (⟨"WalkRanks$Steps", "sumUp", "(I)V"⟩, 4), (⟨"WalkRanks$Steps", "nextOf", "(I)I"⟩, 4), (⟨"WalkRanks$ClosedSets", "isClosedFrom", "(I)Z"⟩, 6), (⟨"WalkRanks$ClosedSets", "addSet", "(I)V"⟩, 6), (⟨"WalkRanks", "isNode", "(I)Z"⟩, 6), (⟨"WalkRanks", "isSet", "(I)Z"⟩, 6), (⟨"WalkRanks", "fillShares", "(I)J"⟩, 6), (⟨"WalkRanks", "nodesAhead", "(I)I"⟩, 6), (⟨"WalkRanks", "chanceToCome", "(III)J"⟩, 6), (⟨"WalkRanks$Spread", "move", "()V"⟩, 4), (⟨"WalkRanksModel", "isNode", "(I)Z"⟩, 17), (⟨"WalkRanksModel", "findRows", "()V"⟩, 17), (⟨"WalkRanksModel", "findSets", "()V"⟩, 17)]
theorem lw_r1 : ∀ q ∈ lw_privs_1, lw_okq q := List.forall_mem_cons.mpr ⟨lw_p0, List.forall_mem_cons.mpr ⟨lw_p1, List.forall_mem_cons.mpr ⟨lw_p2, List.forall_mem_cons.mpr ⟨lw_p3, List.forall_mem_cons.mpr ⟨lw_p4, List.forall_mem_cons.mpr ⟨lw_p5, List.forall_mem_cons.mpr ⟨lw_p6, List.forall_mem_cons.mpr ⟨lw_p7, List.forall_mem_cons.mpr ⟨lw_p8, List.forall_mem_cons.mpr ⟨lw_p9, List.forall_mem_cons.mpr ⟨lw_p10, List.forall_mem_cons.mpr ⟨lw_p11, List.forall_mem_cons.mpr ⟨lw_p12, List.forall_mem_cons.mpr ⟨lw_p13, List.forall_mem_cons.mpr ⟨lw_p14, List.forall_mem_cons.mpr ⟨lw_p15, fun _ h => absurd h List.not_mem_nil⟩⟩⟩⟩⟩⟩⟩⟩⟩⟩⟩⟩⟩⟩⟩⟩
theorem lw_p16 : lw_okq (⟨"WalkRanksModel", "isClosed", "(I)Z"⟩, 17) := ⟨⟨by decide +kernel, by decide +kernel⟩, List.mem_of_getElem? (i := 399) (by decide +kernel), List.mem_of_getElem? (i := 504) (by decide +kernel), List.mem_of_getElem? (i := 505) (by decide +kernel)⟩
theorem lw_p17 : lw_okq (⟨"WalkRanksModel", "reached", "(II)I"⟩, 17) := ⟨⟨by decide +kernel, by decide +kernel⟩, List.mem_of_getElem? (i := 399) (by decide +kernel), List.mem_of_getElem? (i := 508) (by decide +kernel), List.mem_of_getElem? (i := 509) (by decide +kernel)⟩
theorem lw_p18 : lw_okq (⟨"WalkRanksModel", "leads", "(II)Z"⟩, 17) := ⟨⟨by decide +kernel, by decide +kernel⟩, List.mem_of_getElem? (i := 399) (by decide +kernel), List.mem_of_getElem? (i := 512) (by decide +kernel), List.mem_of_getElem? (i := 513) (by decide +kernel)⟩
theorem lw_p19 : lw_okq (⟨"WalkRanksModel", "findShares", "(I)V"⟩, 17) := ⟨⟨by decide +kernel, by decide +kernel⟩, List.mem_of_getElem? (i := 399) (by decide +kernel), List.mem_of_getElem? (i := 534) (by decide +kernel), List.mem_of_getElem? (i := 535) (by decide +kernel)⟩
theorem lw_p20 : lw_okq (⟨"WalkRanksModel", "count", "(IIII)V"⟩, 17) := ⟨⟨by decide +kernel, by decide +kernel⟩, List.mem_of_getElem? (i := 399) (by decide +kernel), List.mem_of_getElem? (i := 538) (by decide +kernel), List.mem_of_getElem? (i := 539) (by decide +kernel)⟩
theorem lw_p21 : lw_okq (⟨"WalkRanksModel", "rootOf", "(II)I"⟩, 17) := ⟨⟨by decide +kernel, by decide +kernel⟩, List.mem_of_getElem? (i := 399) (by decide +kernel), List.mem_of_getElem? (i := 542) (by decide +kernel), List.mem_of_getElem? (i := 543) (by decide +kernel)⟩
theorem lw_p22 : lw_okq (⟨"WalkRanksModel", "all", "()I"⟩, 17) := ⟨⟨by decide +kernel, by decide +kernel⟩, List.mem_of_getElem? (i := 399) (by decide +kernel), List.mem_of_getElem? (i := 557) (by decide +kernel), List.mem_of_getElem? (i := 558) (by decide +kernel)⟩
def lw_privs_2 : List (MethodName × Nat) := [(⟨"WalkRanksModel", "isClosed", "(I)Z"⟩, 17), (⟨"WalkRanksModel", "reached", "(II)I"⟩, 17), (⟨"WalkRanksModel", "leads", "(II)Z"⟩, 17), (⟨"WalkRanksModel", "findShares", "(I)V"⟩, 17), (⟨"WalkRanksModel", "count", "(IIII)V"⟩, 17), (⟨"WalkRanksModel", "rootOf", "(II)I"⟩, 17), (⟨"WalkRanksModel", "all", "()I"⟩, 17)]
theorem lw_r2 : ∀ q ∈ lw_privs_2, lw_okq q := List.forall_mem_cons.mpr ⟨lw_p16, List.forall_mem_cons.mpr ⟨lw_p17, List.forall_mem_cons.mpr ⟨lw_p18, List.forall_mem_cons.mpr ⟨lw_p19, List.forall_mem_cons.mpr ⟨lw_p20, List.forall_mem_cons.mpr ⟨lw_p21, List.forall_mem_cons.mpr ⟨lw_p22, fun _ h => absurd h List.not_mem_nil⟩⟩⟩⟩⟩⟩⟩
def lw_privs : List (MethodName × Nat) := lw_privs_1 ++ (lw_privs_2)
def lw_tbl : List Cond := k2_sels lw_privs ++ tables_1
theorem lw_privs_ok : ∀ q ∈ lw_privs, lw_okq q := by
  show ∀ q ∈ lw_privs_1 ++ (lw_privs_2), lw_okq q
  exact List.forall_mem_append.mpr ⟨lw_r1, lw_r2⟩
def r_W : String := "WalkRanks"
def f_W : u_T := fun k => match k with
  | 0 => ("WalkRanks", "graph", "LWalkRanks$Graph;", true)
  | 1 => ("WalkRanks", "steps", "LWalkRanks$Steps;", true)
  | 2 => ("WalkRanks", "sets", "LWalkRanks$ClosedSets;", true)
  | 3 => ("WalkRanks", "equations", "LWalkRanks$Equations;", true)
  | 4 => ("WalkRanks", "spread", "LWalkRanks$Spread;", true)
  | _ => ("WalkRanks", "shares", "[J", true)
def t_W : Nat → FieldType := fun k => match k with
  | 0 => .object "WalkRanks$Graph"
  | 1 => .object "WalkRanks$Steps"
  | 2 => .object "WalkRanks$ClosedSets"
  | 3 => .object "WalkRanks$Equations"
  | 4 => .object "WalkRanks$Spread"
  | _ => .array .long
def r_G : String := "WalkRanks$Graph"
def f_G : u_T := fun k => match k with
  | 0 => ("WalkRanks$Graph", "size", "I", false)
  | 1 => ("WalkRanks$Graph", "keepAbove", "I", false)
  | 2 => ("WalkRanks$Graph", "keepBelow", "I", false)
  | 3 => ("WalkRanks$Graph", "weights", "[[I", true)
  | _ => ("WalkRanks$Graph", "jumps", "[I", true)
def t_G : Nat → FieldType := fun k => match k with
  | 0 => .int
  | 1 => .int
  | 2 => .int
  | 3 => .array (.array .int)
  | _ => .array .int
def r_S : String := "WalkRanks$Steps"
def f_S : u_T := fun k => match k with
  | 0 => ("WalkRanks$Steps", "size", "I", false)
  | 1 => ("WalkRanks$Steps", "parts", "[[I", true)
  | 2 => ("WalkRanks$Steps", "totals", "[I", true)
  | _ => ("WalkRanks$Steps", "next", "[I", true)
def t_S : Nat → FieldType := fun k => match k with
  | 0 => .int
  | 1 => .array (.array .int)
  | 2 => .array .int
  | _ => .array .int
def r_C : String := "WalkRanks$ClosedSets"
def f_C : u_T := fun k => match k with
  | 0 => ("WalkRanks$ClosedSets", "number", "I", false)
  | 1 => ("WalkRanks$ClosedSets", "members", "[I", true)
  | 2 => ("WalkRanks$ClosedSets", "leastNodes", "[I", true)
  | 3 => ("WalkRanks$ClosedSets", "setOf", "[I", true)
  | 4 => ("WalkRanks$ClosedSets", "size", "I", false)
  | _ => ("WalkRanks$ClosedSets", "leads", "[I", true)
def t_C : Nat → FieldType := fun k => match k with
  | 0 => .int
  | 1 => .array .int
  | 2 => .array .int
  | 3 => .array .int
  | 4 => .int
  | _ => .array .int
def r_E : String := "WalkRanks$Equations"
def f_E : u_T := fun k => match k with
  | 0 => ("WalkRanks$Equations", "size", "I", false)
  | _ => ("WalkRanks$Equations", "cells", "[[J", true)
def t_E : Nat → FieldType := fun k => match k with
  | 0 => .int
  | _ => .array (.array .long)
def r_P : String := "WalkRanks$Spread"
def f_P : u_T := fun k => match k with
  | 0 => ("WalkRanks$Spread", "now", "[J", false)
  | 1 => ("WalkRanks$Spread", "next", "[J", false)
  | 2 => ("WalkRanks$Spread", "size", "I", false)
  | _ => ("WalkRanks$Spread", "factors", "[[J", true)
def t_P : Nat → FieldType := fun k => match k with
  | 0 => .array .long
  | 1 => .array .long
  | 2 => .int
  | _ => .array (.array .long)
def r_M : String := "WalkRanksModel"
def f_M : u_T := fun k => match k with
  | 0 => ("WalkRanksModel", "nodes", "I", false)
  | 1 => ("WalkRanksModel", "weights", "[I", true)
  | 2 => ("WalkRanksModel", "jumps", "[I", true)
  | 3 => ("WalkRanksModel", "above", "I", false)
  | 4 => ("WalkRanksModel", "below", "I", false)
  | 5 => ("WalkRanksModel", "row", "[I", true)
  | 6 => ("WalkRanksModel", "total", "[I", true)
  | 7 => ("WalkRanksModel", "sets", "I", false)
  | 8 => ("WalkRanksModel", "setOf", "[I", true)
  | 9 => ("WalkRanksModel", "bitsOf", "[I", true)
  | 10 => ("WalkRanksModel", "forests", "J", false)
  | 11 => ("WalkRanksModel", "toward", "J", false)
  | 12 => ("WalkRanksModel", "step", "[I", true)
  | 13 => ("WalkRanksModel", "shares", "[J", true)
  | 14 => ("WalkRanksModel", "shareSum", "J", false)
  | 15 => ("WalkRanksModel", "now", "[J", true)
  | _ => ("WalkRanksModel", "then", "[J", true)
def t_M : Nat → FieldType := fun k => match k with
  | 0 => .int
  | 1 => .array .int
  | 2 => .array .int
  | 3 => .int
  | 4 => .int
  | 5 => .array .int
  | 6 => .array .int
  | 7 => .int
  | 8 => .array .int
  | 9 => .array .int
  | 10 => .long
  | 11 => .long
  | 12 => .array .int
  | 13 => .array .long
  | 14 => .long
  | 15 => .array .long
  | _ => .array .long
abbrev vwCl : List vw_C := [(r_W, f_W, 6), (r_G, f_G, 5), (r_S, f_S, 4), (r_C, f_C, 6), (r_E, f_E, 2), (r_P, f_P, 4), (r_M, f_M, 17)]
abbrev c_W_init : ByteArray := prog_1_method_1_code
abbrev y_W_init : MethodName := ⟨"WalkRanks", "<init>", "()V"⟩
abbrev c_G_init : ByteArray := prog_4_method_1_code
abbrev y_G_init : MethodName := ⟨"WalkRanks$Graph", "<init>", "()V"⟩
abbrev c_S_init : ByteArray := prog_6_method_1_code
abbrev y_S_init : MethodName := ⟨"WalkRanks$Steps", "<init>", "()V"⟩
abbrev c_C_init : ByteArray := prog_2_method_1_code
abbrev y_C_init : MethodName := ⟨"WalkRanks$ClosedSets", "<init>", "()V"⟩
abbrev c_E_init : ByteArray := prog_3_method_1_code
abbrev y_E_init : MethodName := ⟨"WalkRanks$Equations", "<init>", "()V"⟩
abbrev c_P_init : ByteArray := prog_5_method_1_code
abbrev y_P_init : MethodName := ⟨"WalkRanks$Spread", "<init>", "()V"⟩
abbrev c_W_node : ByteArray := prog_1_method_2_code
abbrev y_W_node : MethodName := ⟨"WalkRanks", "node", "()I"⟩
abbrev c_G_addNode : ByteArray := prog_4_method_2_code
abbrev y_G_addNode : MethodName := ⟨"WalkRanks$Graph", "addNode", "()I"⟩
abbrev c_W_renew : ByteArray := prog_1_method_24_code
abbrev y_W_renew : MethodName := ⟨"WalkRanks", "renew", "()V"⟩
abbrev c_S_renew : ByteArray := prog_6_method_2_code
abbrev y_S_renew : MethodName := ⟨"WalkRanks$Steps", "renew", "(LWalkRanks$Graph;)V"⟩
abbrev c_G_allJumps : ByteArray := prog_4_method_4_code
abbrev y_G_allJumps : MethodName := ⟨"WalkRanks$Graph", "allJumps", "()I"⟩
abbrev c_S_fillParts : ByteArray := prog_6_method_3_code
abbrev y_S_fillParts : MethodName := ⟨"WalkRanks$Steps", "fillParts", "(LWalkRanks$Graph;II)V"⟩
abbrev c_G_outOf : ByteArray := prog_4_method_3_code
abbrev y_G_outOf : MethodName := ⟨"WalkRanks$Graph", "outOf", "(I)I"⟩
abbrev c_S_lowerParts : ByteArray := prog_6_method_4_code
abbrev y_S_lowerParts : MethodName := ⟨"WalkRanks$Steps", "lowerParts", "(I)V"⟩
abbrev c_W_greatestDivisor : ByteArray := prog_1_method_29_code
abbrev y_W_greatestDivisor : MethodName := ⟨"WalkRanks", "greatestDivisor", "(JJ)J"⟩
abbrev c_S_sumUp : ByteArray := prog_6_method_5_code
abbrev y_S_sumUp : MethodName := ⟨"WalkRanks$Steps", "sumUp", "(I)V"⟩
abbrev c_W_only : ByteArray := prog_1_method_30_code
abbrev y_W_only : MethodName := ⟨"WalkRanks", "only", "(I)I"⟩
abbrev c_C_renew : ByteArray := prog_2_method_2_code
abbrev y_C_renew : MethodName := ⟨"WalkRanks$ClosedSets", "renew", "(LWalkRanks$Steps;)V"⟩
abbrev c_S_nodesBehind : ByteArray := prog_6_method_8_code
abbrev y_S_nodesBehind : MethodName := ⟨"WalkRanks$Steps", "nodesBehind", "(II)I"⟩
abbrev c_S_nextOf : ByteArray := prog_6_method_7_code
abbrev y_S_nextOf : MethodName := ⟨"WalkRanks$Steps", "nextOf", "(I)I"⟩
abbrev c_W_has : ByteArray := prog_1_method_31_code
abbrev y_W_has : MethodName := ⟨"WalkRanks", "has", "(II)Z"⟩
abbrev c_C_isClosedFrom : ByteArray := prog_2_method_3_code
abbrev y_C_isClosedFrom : MethodName := ⟨"WalkRanks$ClosedSets", "isClosedFrom", "(I)Z"⟩
abbrev c_C_leadingTo : ByteArray := prog_2_method_5_code
abbrev y_C_leadingTo : MethodName := ⟨"WalkRanks$ClosedSets", "leadingTo", "(I)I"⟩
abbrev c_C_addSet : ByteArray := prog_2_method_4_code
abbrev y_C_addSet : MethodName := ⟨"WalkRanks$ClosedSets", "addSet", "(I)V"⟩
abbrev c_W_weight : ByteArray := prog_1_method_3_code
abbrev y_W_weight : MethodName := ⟨"WalkRanks", "weight", "(III)I"⟩
abbrev c_W_isNode : ByteArray := prog_1_method_21_code
abbrev y_W_isNode : MethodName := ⟨"WalkRanks", "isNode", "(I)Z"⟩
abbrev c_W_jump : ByteArray := prog_1_method_4_code
abbrev y_W_jump : MethodName := ⟨"WalkRanks", "jump", "(II)I"⟩
abbrev c_W_keep : ByteArray := prog_1_method_5_code
abbrev y_W_keep : MethodName := ⟨"WalkRanks", "keep", "(II)I"⟩
abbrev c_W_clear : ByteArray := prog_1_method_6_code
abbrev y_W_clear : MethodName := ⟨"WalkRanks", "clear", "()I"⟩
abbrev c_W_row : ByteArray := prog_1_method_7_code
abbrev y_W_row : MethodName := ⟨"WalkRanks", "row", "(II)I"⟩
abbrev c_W_total : ByteArray := prog_1_method_8_code
abbrev y_W_total : MethodName := ⟨"WalkRanks", "total", "(I)I"⟩
abbrev c_W_closed : ByteArray := prog_1_method_9_code
abbrev y_W_closed : MethodName := ⟨"WalkRanks", "closed", "()I"⟩
abbrev c_W_closedOf : ByteArray := prog_1_method_10_code
abbrev y_W_closedOf : MethodName := ⟨"WalkRanks", "closedOf", "(I)I"⟩
abbrev c_W_period : ByteArray := prog_1_method_11_code
abbrev y_W_period : MethodName := ⟨"WalkRanks", "period", "(I)I"⟩
abbrev c_W_isSet : ByteArray := prog_1_method_22_code
abbrev y_W_isSet : MethodName := ⟨"WalkRanks", "isSet", "(I)Z"⟩
abbrev c_S_periodAt : ByteArray := prog_6_method_9_code
abbrev y_S_periodAt : MethodName := ⟨"WalkRanks$Steps", "periodAt", "(I)I"⟩
abbrev c_W_rank : ByteArray := prog_1_method_12_code
abbrev y_W_rank : MethodName := ⟨"WalkRanks", "rank", "(II)J"⟩
abbrev c_W_isPart : ByteArray := prog_1_method_23_code
abbrev y_W_isPart : MethodName := ⟨"WalkRanks", "isPart", "(I)Z"⟩
abbrev c_W_fillShares : ByteArray := prog_1_method_25_code
abbrev y_W_fillShares : MethodName := ⟨"WalkRanks", "fillShares", "(I)J"⟩
abbrev c_E_fill : ByteArray := prog_3_method_2_code
abbrev y_E_fill : MethodName := ⟨"WalkRanks$Equations", "fill", "(LWalkRanks$Steps;I)V"⟩
abbrev c_E_determinant : ByteArray := prog_3_method_5_code
abbrev y_E_determinant : MethodName := ⟨"WalkRanks$Equations", "determinant", "()J"⟩
abbrev c_E_expand : ByteArray := prog_3_method_6_code
abbrev y_E_expand : MethodName := ⟨"WalkRanks$Equations", "expand", "([[JIII)J"⟩
abbrev c_W_fraction : ByteArray := prog_1_method_28_code
abbrev y_W_fraction : MethodName := ⟨"WalkRanks", "fraction", "(JJI)J"⟩
abbrev c_W_place : ByteArray := prog_1_method_13_code
abbrev y_W_place : MethodName := ⟨"WalkRanks", "place", "(I)I"⟩
abbrev c_W_nodesAhead : ByteArray := prog_1_method_26_code
abbrev y_W_nodesAhead : MethodName := ⟨"WalkRanks", "nodesAhead", "(I)I"⟩
abbrev c_W_reach : ByteArray := prog_1_method_14_code
abbrev y_W_reach : MethodName := ⟨"WalkRanks", "reach", "(III)J"⟩
abbrev c_W_chanceToCome : ByteArray := prog_1_method_27_code
abbrev y_W_chanceToCome : MethodName := ⟨"WalkRanks", "chanceToCome", "(III)J"⟩
abbrev c_E_putChances : ByteArray := prog_3_method_3_code
abbrev y_E_putChances : MethodName := ⟨"WalkRanks$Equations", "putChances", "(LWalkRanks$Steps;III)V"⟩
abbrev c_W_hit : ByteArray := prog_1_method_15_code
abbrev y_W_hit : MethodName := ⟨"WalkRanks", "hit", "(III)J"⟩
abbrev c_E_putStepCounts : ByteArray := prog_3_method_4_code
abbrev y_E_putStepCounts : MethodName := ⟨"WalkRanks$Equations", "putStepCounts", "(LWalkRanks$Steps;II)V"⟩
abbrev c_W_back : ByteArray := prog_1_method_16_code
abbrev y_W_back : MethodName := ⟨"WalkRanks", "back", "(II)J"⟩
abbrev c_W_end : ByteArray := prog_1_method_17_code
abbrev y_W_end : MethodName := ⟨"WalkRanks", "end", "(III)J"⟩
abbrev c_W_after : ByteArray := prog_1_method_18_code
abbrev y_W_after : MethodName := ⟨"WalkRanks", "after", "(IIII)J"⟩
abbrev c_S_commonTotal : ByteArray := prog_6_method_6_code
abbrev y_S_commonTotal : MethodName := ⟨"WalkRanks$Steps", "commonTotal", "()J"⟩
abbrev c_P_fillBySteps : ByteArray := prog_5_method_3_code
abbrev y_P_fillBySteps : MethodName := ⟨"WalkRanks$Spread", "fillBySteps", "(LWalkRanks$Steps;J)V"⟩
abbrev c_P_run : ByteArray := prog_5_method_4_code
abbrev y_P_run : MethodName := ⟨"WalkRanks$Spread", "run", "(II)V"⟩
abbrev c_P_move : ByteArray := prog_5_method_6_code
abbrev y_P_move : MethodName := ⟨"WalkRanks$Spread", "move", "()V"⟩
abbrev c_P_numberAt : ByteArray := prog_5_method_5_code
abbrev y_P_numberAt : MethodName := ⟨"WalkRanks$Spread", "numberAt", "(I)J"⟩
abbrev c_W_walks : ByteArray := prog_1_method_19_code
abbrev y_W_walks : MethodName := ⟨"WalkRanks", "walks", "(III)J"⟩
abbrev c_P_fillByWeights : ByteArray := prog_5_method_2_code
abbrev y_P_fillByWeights : MethodName := ⟨"WalkRanks$Spread", "fillByWeights", "(LWalkRanks$Graph;)V"⟩
abbrev c_W_drawn : ByteArray := prog_1_method_20_code
abbrev y_W_drawn : MethodName := ⟨"WalkRanks", "drawn", "(III)I"⟩
abbrev c_S_nextNode : ByteArray := prog_6_method_10_code
abbrev y_S_nextNode : MethodName := ⟨"WalkRanks$Steps", "nextNode", "(II)I"⟩
abbrev c_M_init : ByteArray := prog_8_method_1_code
abbrev y_M_init : MethodName := ⟨"WalkRanksModel", "<init>", "()V"⟩
abbrev c_M_node : ByteArray := prog_8_method_3_code
abbrev y_M_node : MethodName := ⟨"WalkRanksModel", "node", "()I"⟩
abbrev c_M_weight : ByteArray := prog_8_method_4_code
abbrev y_M_weight : MethodName := ⟨"WalkRanksModel", "weight", "(III)I"⟩
abbrev c_M_isNode : ByteArray := prog_8_method_2_code
abbrev y_M_isNode : MethodName := ⟨"WalkRanksModel", "isNode", "(I)Z"⟩
abbrev c_M_jump : ByteArray := prog_8_method_5_code
abbrev y_M_jump : MethodName := ⟨"WalkRanksModel", "jump", "(II)I"⟩
abbrev c_M_keep : ByteArray := prog_8_method_6_code
abbrev y_M_keep : MethodName := ⟨"WalkRanksModel", "keep", "(II)I"⟩
abbrev c_M_clear : ByteArray := prog_8_method_7_code
abbrev y_M_clear : MethodName := ⟨"WalkRanksModel", "clear", "()I"⟩
abbrev c_M_row : ByteArray := prog_8_method_11_code
abbrev y_M_row : MethodName := ⟨"WalkRanksModel", "row", "(II)I"⟩
abbrev c_M_findRows : ByteArray := prog_8_method_10_code
abbrev y_M_findRows : MethodName := ⟨"WalkRanksModel", "findRows", "()V"⟩
abbrev c_M_common : ByteArray := prog_8_method_8_code
abbrev y_M_common : MethodName := ⟨"WalkRanksModel", "common", "(JJ)J"⟩
abbrev c_M_total : ByteArray := prog_8_method_12_code
abbrev y_M_total : MethodName := ⟨"WalkRanksModel", "total", "(I)I"⟩
abbrev c_M_closed : ByteArray := prog_8_method_17_code
abbrev y_M_closed : MethodName := ⟨"WalkRanksModel", "closed", "()I"⟩
abbrev c_M_findSets : ByteArray := prog_8_method_16_code
abbrev y_M_findSets : MethodName := ⟨"WalkRanksModel", "findSets", "()V"⟩
abbrev c_M_isClosed : ByteArray := prog_8_method_15_code
abbrev y_M_isClosed : MethodName := ⟨"WalkRanksModel", "isClosed", "(I)Z"⟩
abbrev c_M_reached : ByteArray := prog_8_method_13_code
abbrev y_M_reached : MethodName := ⟨"WalkRanksModel", "reached", "(II)I"⟩
abbrev c_M_leads : ByteArray := prog_8_method_14_code
abbrev y_M_leads : MethodName := ⟨"WalkRanksModel", "leads", "(II)Z"⟩
abbrev c_M_closedOf : ByteArray := prog_8_method_18_code
abbrev y_M_closedOf : MethodName := ⟨"WalkRanksModel", "closedOf", "(I)I"⟩
abbrev c_M_period : ByteArray := prog_8_method_19_code
abbrev y_M_period : MethodName := ⟨"WalkRanksModel", "period", "(I)I"⟩
abbrev c_M_rank : ByteArray := prog_8_method_25_code
abbrev y_M_rank : MethodName := ⟨"WalkRanksModel", "rank", "(II)J"⟩
abbrev c_M_isPart : ByteArray := prog_8_method_24_code
abbrev y_M_isPart : MethodName := ⟨"WalkRanksModel", "isPart", "(I)Z"⟩
abbrev c_M_findShares : ByteArray := prog_8_method_23_code
abbrev y_M_findShares : MethodName := ⟨"WalkRanksModel", "findShares", "(I)V"⟩
abbrev c_M_count : ByteArray := prog_8_method_21_code
abbrev y_M_count : MethodName := ⟨"WalkRanksModel", "count", "(IIII)V"⟩
abbrev c_M_rootOf : ByteArray := prog_8_method_20_code
abbrev y_M_rootOf : MethodName := ⟨"WalkRanksModel", "rootOf", "(II)I"⟩
abbrev c_M_lowest : ByteArray := prog_8_method_9_code
abbrev y_M_lowest : MethodName := ⟨"WalkRanksModel", "lowest", "(JJI)J"⟩
abbrev c_M_place : ByteArray := prog_8_method_26_code
abbrev y_M_place : MethodName := ⟨"WalkRanksModel", "place", "(I)I"⟩
abbrev c_M_reach : ByteArray := prog_8_method_27_code
abbrev y_M_reach : MethodName := ⟨"WalkRanksModel", "reach", "(III)J"⟩
abbrev c_M_all : ByteArray := prog_8_method_22_code
abbrev y_M_all : MethodName := ⟨"WalkRanksModel", "all", "()I"⟩
abbrev c_M_hit : ByteArray := prog_8_method_28_code
abbrev y_M_hit : MethodName := ⟨"WalkRanksModel", "hit", "(III)J"⟩
abbrev c_M_back : ByteArray := prog_8_method_29_code
abbrev y_M_back : MethodName := ⟨"WalkRanksModel", "back", "(II)J"⟩
abbrev c_M_end : ByteArray := prog_8_method_30_code
abbrev y_M_end : MethodName := ⟨"WalkRanksModel", "end", "(III)J"⟩
abbrev c_M_after : ByteArray := prog_8_method_31_code
abbrev y_M_after : MethodName := ⟨"WalkRanksModel", "after", "(IIII)J"⟩
abbrev c_M_walks : ByteArray := prog_8_method_32_code
abbrev y_M_walks : MethodName := ⟨"WalkRanksModel", "walks", "(III)J"⟩
abbrev c_M_drawn : ByteArray := prog_8_method_33_code
abbrev y_M_drawn : MethodName := ⟨"WalkRanksModel", "drawn", "(III)I"⟩
abbrev c_L_law : ByteArray := code
abbrev y_L_law : MethodName := ⟨"WalkRanksLaw", "law", "([I)Z"⟩
end
section
-- AW: the kit's W with all of the machine's context bundled away; ws is the world (places), lv the locals, st the operand stack
abbrev aw_G : Type := Launch × va_G × List (ClassId × FieldType)
def aw_WS : List Cond := lw_tbl.filter goodWord
theorem aw_in {w : Cond} (h : w ∈ lw_tbl) (hg : goodWord w = true) : w ∈ aw_WS := List.mem_filter.mpr ⟨h, hg⟩
theorem aw_goodIn (y : MethodName) (cc : ByteArray) (nL : Nat) (ret : Option FieldType) (h : Cond.code y cc nL ret ∈ aw_WS) : GoodIn aw_WS (Cond.code y cc nL ret :: aw_WS) := by
  intro w hw
  rcases List.mem_cons.mp hw with rfl | hw
  · exact ⟨h, good_of_word (List.mem_filter.mp h).2⟩
  · exact ⟨hw, good_of_word (List.mem_filter.mp hw).2⟩
def aw_rm (d mc ms : Nat) : Room := { frames := d, cells := mc, slots := ms, locals := 48 * d }
def aw_ctx (y : MethodName) (cc : ByteArray) (nL : Nat) (ret : Option FieldType) (E : (Nat → Prop) → State → Array Value → Prop) (p : Program) (s : State) (m : MethodId) (args : Array Value) (meth : Method) (c : Code) (A : Nat → Prop) : Prop :=
  p.tables.exec = Jvm.exec ∧ c.code = cc ∧ meth.sig.returnType = ret ∧ c.maxLocals = nL ∧ s.vm.findClass y.cls = some m.cls ∧ (∀ w ∈ aw_WS, w.before args s = true) ∧ meth.locks = false ∧ meth.name = y.name ∧ (∀ q : Nat, s.heap.size ≤ q → A q) ∧ E A s args
def aw_wd (g : aw_G) (A : Nat → Prop) (s : State) (H : Heap) (locs : List Loc) (ws : va_W) : Prop :=
  va_S A s.heap H locs ∧ va_K g.2.1 vwCl g.2.2 s ∧ va_P g.2.1 vwCl ws H ∧ va_D A ws
def AW (g : aw_G) (y : MethodName) (cc : ByteArray) (nL : Nat) (ret : Option FieldType) (R : Room) (E : (Nat → Prop) → State → Array Value → Prop) (F : List Frame → Array Value → State → (Nat → Prop) → State → Prop) (kc ks pc : Nat) (lv : List (Nat × Value)) (st : List Value) (ws : va_W) : Prop :=
  ∀ (p : Program) (e : Env) (s : State) (m : MethodId) (args : Array Value) (below : List Frame) (meth : Method) (c : Code) (H : Heap) (locs : List Loc) (A : Nat → Prop) (ls : Array Slot),
    aw_ctx y cc nL ret E p s m args meth c A → aw_wd g A s H locs ws → lv_has ls nL lv → W p g.1 e R s m args below meth c H locs kc ks (F below args s A) (F0 m pc ls st)
def aw_Q (g : aw_G) (Q : Option Value → va_W → Prop) (A : Nat → Prop) : Array Value → State → Outcome → State → Prop := fun _ st oc t =>
  (∃ (v : Option Value) (ws : va_W), oc = .returned v ∧ Q v ws ∧ va_P g.2.1 vwCl ws t.heap ∧ va_K g.2.1 vwCl g.2.2 t ∧ va_D A ws) ∧ va_F A st t
def aw_F (g : aw_G) (Q : Option Value → va_W → Prop) (mc ms : Nat) : List Frame → Array Value → State → (Nat → Prop) → State → Prop := fun below args s A => MQ below (aw_Q g Q A) args s mc ms A
def aw_E0 : (Nat → Prop) → State → Array Value → Prop := fun _ _ _ => True
def aw_Pc (g : aw_G) (av : List Value) (ws : va_W) (sz : Nat) : Array Value → State → Prop := va_Pc av (fun U => U.heap.size = sz ∧ va_P g.2.1 vwCl ws U.heap ∧ va_K g.2.1 vwCl g.2.2 U ∧ va_D (fun _ => True) ws)
def AMet (g : aw_G) (y : MethodName) (cc : ByteArray) (nL : Nat) (ret : Option FieldType) (d : Nat) (av : List Value) (ws : va_W) (Q : Option Value → va_W → Prop) (mc ms : Nat) : Prop :=
  ∀ sz : Nat, Met g.1 y (Cond.code y cc nL ret :: aw_WS) (aw_rm d mc ms) (aw_Pc g av ws sz) (aw_Q g Q (va_A ws sz)) mc ms (va_A ws sz)
/-- a contract out of the walk of the body -/
theorem amet_of {g : aw_G} {y : MethodName} {cc : ByteArray} {nL : Nat} {ret : Option FieldType} {d : Nat} {av : List Value} {ws : va_W} {Q : Option Value → va_W → Prop} {mc ms : Nat} (hy : plainName y.cls = true) (hn : (lg_sl av).length ≤ nL)
    (body : AW g y cc nL ret (aw_rm d mc ms) aw_E0 (aw_F g Q mc ms) 0 0 0 (lv_args 0 av) [] ws) : AMet g y cc nL ret d av ws Q mc ms := by
  intro sz
  refine Met.ofW (cc := cc) (maxL := nL) (ret := ret) hy rfl ?_
  intro p e s m args below meth c s₁ B hml hv
  obtain ⟨rfl, hsz, hP, hK, hD0⟩ := hv
  have hts := atoms_spec (ws := Cond.code y cc nL ret :: aw_WS) B.pre
  subst hsz
  rw [lg_entry_eq]
  exact body p e s m _ below meth c s.heap [] (va_A ws s.heap.size) _ ⟨B.exec, B.bytes, B.returns, hml, findClass_of_methodNamed B.named, fun w h => hts w (List.mem_cons_of_mem _ h), B.notSynchronized, (name_of_methodNamed B.named B.method).1, fun q h => Or.inr h, trivial⟩ ⟨va_S.rf, hK, hP, hD0.self⟩ (lv_entry av hn)
theorem amet_mono {g : aw_G} {y : MethodName} {cc : ByteArray} {nL : Nat} {ret : Option FieldType} {d : Nat} {av : List Value} {ws : va_W} {Q Q' : Option Value → va_W → Prop} {mc ms : Nat} (h : ∀ v w, Q v w → Q' v w) (k : AW g y cc nL ret (aw_rm d mc ms) aw_E0 (aw_F g Q mc ms) 0 0 0 (lv_args 0 av) [] ws) : AW g y cc nL ret (aw_rm d mc ms) aw_E0 (aw_F g Q' mc ms) 0 0 0 (lv_args 0 av) [] ws := by
  intro p e s m args below meth c H locs A ls C D hl T hT X
  obtain ⟨t, a, o, b1, b2, ⟨⟨v, w, q1, q2, q3⟩, q4⟩, b4⟩ := k p e s m args below meth c H locs A ls C D hl T hT X
  exact ⟨t, a, o, b1, b2, ⟨⟨v, w, q1, h v w q2, q3⟩, q4⟩, b4⟩
section AWR
variable {g : aw_G} {y : MethodName} {cc : ByteArray} {nL : Nat} {ret : Option FieldType} {R : Room} {E : (Nat → Prop) → State → Array Value → Prop} {F : List Frame → Array Value → State → (Nat → Prop) → State → Prop} {kc ks pc : Nat} {lv : List (Nat × Value)} {st : List Value} {ws : va_W}
theorem aw_widen {kc' ks' : Nat} (h1 : kc ≤ kc') (h2 : ks ≤ ks') (k : AW g y cc nL ret R E F kc' ks' pc lv st ws) : AW g y cc nL ret R E F kc ks pc lv st ws :=
  fun p e s m args below meth c H locs A ls C D hl => W.widen h1 h2 (k p e s m args below meth c H locs A ls C D hl)
theorem aw_sub {lv' : List (Nat × Value)} (ps : List Nat) (h : lv_pick lv ps = lv') (k : AW g y cc nL ret R E F kc ks pc lv' st ws) : AW g y cc nL ret R E F kc ks pc lv st ws :=
  fun p e s m args below meth c H locs A ls C D hl => k p e s m args below meth c H locs A ls C D (lv_sub hl ps h)
theorem aw_eq {kc' ks' pc' : Nat} {lv' : List (Nat × Value)} {st' : List Value} {ws' : va_W} (e1 : pc = pc') (e2 : lv = lv') (e3 : st = st') (e4 : ws = ws') (k : AW g y cc nL ret R E F kc ks pc' lv' st' ws') : AW g y cc nL ret R E F kc ks pc lv st ws := by
  subst e1; subst e2; subst e3; subst e4; exact k
theorem aw_topi {x : Int32} (k : ∀ z : Int32, z = x → AW g y cc nL ret R E F kc ks pc lv (.int z :: st) ws) : AW g y cc nL ret R E F kc ks pc lv (.int x :: st) ws := k x rfl
theorem aw_topl {x : Int64} (k : ∀ z : Int64, z = x → AW g y cc nL ret R E F kc ks pc lv (.long z :: st) ws) : AW g y cc nL ret R E F kc ks pc lv (.long x :: st) ws := k x rfl
theorem aw_lk {lv : List (Nat × Value)} {i : Nat} {v : Value} (h : lv.lookup i = some v) : (i, v) ∈ lv := by
  induction lv with
  | nil => simp at h
  | cons q r ih =>
    obtain ⟨j, w⟩ := q
    rw [List.lookup_cons] at h
    split at h
    · rename_i e
      have e1 : i = j := by simpa using e
      cases h
      rw [e1]
      exact List.mem_cons_self
    · exact List.mem_cons_of_mem _ (ih h)
theorem aw_iconst {n : Int} {v : Int32} (hd : decode cc pc = .ok (.iconst n, 1)) (hv : Int32.ofInt n = v) (k : AW g y cc nL ret R E F kc ks (pc + 1) lv (.int v :: st) ws) : AW g y cc nL ret R E F kc ks pc lv st ws :=
  fun p e s m args below meth c H locs A ls C D hl => lv_iconst C.1 C.2.1 hd hv (k p e s m args below meth c H locs A ls C D hl)
theorem aw_bipush {n : Int} {v : Int32} (hd : decode cc pc = .ok (.bipush n, 2)) (hv : (Int8.ofInt n).toInt32 = v) (k : AW g y cc nL ret R E F kc ks (pc + 2) lv (.int v :: st) ws) : AW g y cc nL ret R E F kc ks pc lv st ws :=
  fun p e s m args below meth c H locs A ls C D hl => lv_bipush C.1 C.2.1 hd hv (k p e s m args below meth c H locs A ls C D hl)
theorem aw_sipush {n : Int} {v : Int32} (hd : decode cc pc = .ok (.sipush n, 3)) (hv : (Int16.ofInt n).toInt32 = v) (k : AW g y cc nL ret R E F kc ks (pc + 3) lv (.int v :: st) ws) : AW g y cc nL ret R E F kc ks pc lv st ws :=
  fun p e s m args below meth c H locs A ls C D hl => lv_sipush C.1 C.2.1 hd hv (k p e s m args below meth c H locs A ls C D hl)
theorem aw_lconst {n : Fin 2} {v : Int64} (hd : decode cc pc = .ok (.lconst n, 1)) (hv : Int64.ofNat (n : Nat) = v) (k : AW g y cc nL ret R E F kc ks (pc + 1) lv (.long v :: st) ws) : AW g y cc nL ret R E F kc ks pc lv st ws :=
  fun p e s m args below meth c H locs A ls C D hl => lv_lconst C.1 C.2.1 hd hv (k p e s m args below meth c H locs A ls C D hl)
theorem aw_ldc {index : Nat} {v : Int32} (hd : decode cc pc = .ok (.ldc index, 2)) (hw : Cond.constant y.cls index v ∈ aw_WS) (k : AW g y cc nL ret R E F kc ks (pc + 2) lv (.int v :: st) ws) : AW g y cc nL ret R E F kc ks pc lv st ws :=
  fun p e s m args below meth c H locs A ls C D hl => lv_ldc C.1 C.2.1 C.2.2.2.2.1 (C.2.2.2.2.2.1 _ hw) hd (k p e s m args below meth c H locs A ls C D hl)
theorem aw_ldc2 {index : Nat} {v : Int64} (hd : decode cc pc = .ok (.ldc2_w index, 3)) (hw : Cond.constantLong y.cls index v ∈ aw_WS) (k : AW g y cc nL ret R E F kc ks (pc + 3) lv (.long v :: st) ws) : AW g y cc nL ret R E F kc ks pc lv st ws :=
  fun p e s m args below meth c H locs A ls C D hl => lv_ldc2 C.1 C.2.1 C.2.2.2.2.1 (C.2.2.2.2.2.1 _ hw) hd (k p e s m args below meth c H locs A ls C D hl)
theorem aw_iload_n {n : Fin 4} {i : Nat} {x : Int32} (hd : decode cc pc = .ok (.iload_n n, 1)) (hi : (n : Nat) = i) (hj : lv.lookup i = some (.int x)) (k : AW g y cc nL ret R E F kc ks (pc + 1) lv (.int x :: st) ws) : AW g y cc nL ret R E F kc ks pc lv st ws :=
  fun p e s m args below meth c H locs A ls C D hl => lv_iload_n C.1 C.2.1 hd hi (hl.2.2 (i, .int x) (aw_lk hj)) (k p e s m args below meth c H locs A ls C D hl)
theorem aw_iload {i : Nat} {x : Int32} (hd : decode cc pc = .ok (.iload i, 2)) (hj : lv.lookup i = some (.int x)) (k : AW g y cc nL ret R E F kc ks (pc + 2) lv (.int x :: st) ws) : AW g y cc nL ret R E F kc ks pc lv st ws :=
  fun p e s m args below meth c H locs A ls C D hl => lv_iload C.1 C.2.1 hd (hl.2.2 (i, .int x) (aw_lk hj)) (k p e s m args below meth c H locs A ls C D hl)
theorem aw_lload_n {n : Fin 4} {i : Nat} {x : Int64} (hd : decode cc pc = .ok (.lload_n n, 1)) (hi : (n : Nat) = i) (hj : lv.lookup i = some (.long x)) (k : AW g y cc nL ret R E F kc ks (pc + 1) lv (.long x :: st) ws) : AW g y cc nL ret R E F kc ks pc lv st ws :=
  fun p e s m args below meth c H locs A ls C D hl => lv_lload_n C.1 C.2.1 hd hi (hl.2.2 (i, .long x) (aw_lk hj)) (k p e s m args below meth c H locs A ls C D hl)
theorem aw_lload {i : Nat} {x : Int64} (hd : decode cc pc = .ok (.lload i, 2)) (hj : lv.lookup i = some (.long x)) (k : AW g y cc nL ret R E F kc ks (pc + 2) lv (.long x :: st) ws) : AW g y cc nL ret R E F kc ks pc lv st ws :=
  fun p e s m args below meth c H locs A ls C D hl => lv_lload C.1 C.2.1 hd (hl.2.2 (i, .long x) (aw_lk hj)) (k p e s m args below meth c H locs A ls C D hl)
theorem aw_aload_n {n : Fin 4} {i : Nat} {x : Nat} (hd : decode cc pc = .ok (.aload_n n, 1)) (hi : (n : Nat) = i) (hj : lv.lookup i = some (.ref x)) (k : AW g y cc nL ret R E F kc ks (pc + 1) lv (.ref x :: st) ws) : AW g y cc nL ret R E F kc ks pc lv st ws :=
  fun p e s m args below meth c H locs A ls C D hl => lv_aload_n C.1 C.2.1 hd hi (hl.2.2 (i, .ref x) (aw_lk hj)) (k p e s m args below meth c H locs A ls C D hl)
theorem aw_aload {i : Nat} {x : Nat} (hd : decode cc pc = .ok (.aload i, 2)) (hj : lv.lookup i = some (.ref x)) (k : AW g y cc nL ret R E F kc ks (pc + 2) lv (.ref x :: st) ws) : AW g y cc nL ret R E F kc ks pc lv st ws :=
  fun p e s m args below meth c H locs A ls C D hl => lv_aload C.1 C.2.1 hd (hl.2.2 (i, .ref x) (aw_lk hj)) (k p e s m args below meth c H locs A ls C D hl)
def aw_st1 (lv : List (Nat × Value)) (i : Nat) (v : Value) : List (Nat × Value) := (i, v) :: lv.filter (fun q => !(q.1 == i) && !(q.1 + 1 == i && q.2.category == 2))
def aw_st2 (lv : List (Nat × Value)) (i : Nat) (v : Value) : List (Nat × Value) := (i, v) :: lv.filter (fun q => !(q.1 == i) && (!(q.1 == i + 1) && !(q.1 + 1 == i && q.2.category == 2)))
theorem aw_istore_n {n : Fin 4} {i : Nat} {x : Int32} {lv' : List (Nat × Value)} (hd : decode cc pc = .ok (.istore_n n, 1)) (hi : (n : Nat) = i) (hn : i < nL) (hv : aw_st1 lv i (.int x) = lv') (k : AW g y cc nL ret R E F kc ks (pc + 1) lv' st ws) : AW g y cc nL ret R E F kc ks pc lv (.int x :: st) ws :=
  fun p e s m args below meth c H locs A ls C D hl => lv_istore_n C.1 C.2.1 hd hi hl hn hv (fun ls hl => k p e s m args below meth c H locs A ls C D hl)
theorem aw_istore {i : Nat} {x : Int32} {lv' : List (Nat × Value)} (hd : decode cc pc = .ok (.istore i, 2)) (hn : i < nL) (hv : aw_st1 lv i (.int x) = lv') (k : AW g y cc nL ret R E F kc ks (pc + 2) lv' st ws) : AW g y cc nL ret R E F kc ks pc lv (.int x :: st) ws :=
  fun p e s m args below meth c H locs A ls C D hl => lv_istore C.1 C.2.1 hd hl hn hv (fun ls hl => k p e s m args below meth c H locs A ls C D hl)
theorem aw_lstore_n {n : Fin 4} {i : Nat} {x : Int64} {lv' : List (Nat × Value)} (hd : decode cc pc = .ok (.lstore_n n, 1)) (hi : (n : Nat) = i) (hn : i + 1 < nL) (hv : aw_st2 lv i (.long x) = lv') (k : AW g y cc nL ret R E F kc ks (pc + 1) lv' st ws) : AW g y cc nL ret R E F kc ks pc lv (.long x :: st) ws :=
  fun p e s m args below meth c H locs A ls C D hl => lv_lstore_n C.1 C.2.1 hd hi hl hn hv (fun ls hl => k p e s m args below meth c H locs A ls C D hl)
theorem aw_lstore {i : Nat} {x : Int64} {lv' : List (Nat × Value)} (hd : decode cc pc = .ok (.lstore i, 2)) (hn : i + 1 < nL) (hv : aw_st2 lv i (.long x) = lv') (k : AW g y cc nL ret R E F kc ks (pc + 2) lv' st ws) : AW g y cc nL ret R E F kc ks pc lv (.long x :: st) ws :=
  fun p e s m args below meth c H locs A ls C D hl => lv_lstore C.1 C.2.1 hd hl hn hv (fun ls hl => k p e s m args below meth c H locs A ls C D hl)
theorem aw_astore_n {n : Fin 4} {i : Nat} {x : Nat} {lv' : List (Nat × Value)} (hd : decode cc pc = .ok (.astore_n n, 1)) (hi : (n : Nat) = i) (hn : i < nL) (hv : aw_st1 lv i (.ref x) = lv') (k : AW g y cc nL ret R E F kc ks (pc + 1) lv' st ws) : AW g y cc nL ret R E F kc ks pc lv (.ref x :: st) ws :=
  fun p e s m args below meth c H locs A ls C D hl => lv_astore_n C.1 C.2.1 hd hi hl hn hv (fun ls hl => k p e s m args below meth c H locs A ls C D hl)
theorem aw_astore {i : Nat} {x : Nat} {lv' : List (Nat × Value)} (hd : decode cc pc = .ok (.astore i, 2)) (hn : i < nL) (hv : aw_st1 lv i (.ref x) = lv') (k : AW g y cc nL ret R E F kc ks (pc + 2) lv' st ws) : AW g y cc nL ret R E F kc ks pc lv (.ref x :: st) ws :=
  fun p e s m args below meth c H locs A ls C D hl => lv_astore C.1 C.2.1 hd hl hn hv (fun ls hl => k p e s m args below meth c H locs A ls C D hl)
theorem aw_iinc {i : Nat} {n : Int} {x v : Int32} {lv' : List (Nat × Value)} (hd : decode cc pc = .ok (.iinc i n, 3)) (hj : lv.lookup i = some (.int x)) (hv : x + Int32.ofInt n = v) (hn : i < nL) (hl' : aw_st1 lv i (.int v) = lv') (k : AW g y cc nL ret R E F kc ks (pc + 3) lv' st ws) : AW g y cc nL ret R E F kc ks pc lv st ws :=
  fun p e s m args below meth c H locs A ls C D hl => (List.mem_iff_getElem?.mp (aw_lk hj)).elim (fun j hj => lv_iinc C.1 C.2.1 hd hl hj hv hn hl' (fun ls hl => k p e s m args below meth c H locs A ls C D hl))
theorem aw_iadd {x z : Int32} (hd : decode cc pc = .ok (.iadd, 1)) (k : AW g y cc nL ret R E F kc ks (pc + 1) lv (.int (x + z) :: st) ws) : AW g y cc nL ret R E F kc ks pc lv (.int z :: .int x :: st) ws :=
  fun p e s m args below meth c H locs A ls C D hl => lv_iadd C.1 C.2.1 hd (k p e s m args below meth c H locs A ls C D hl)
theorem aw_isub {x z : Int32} (hd : decode cc pc = .ok (.isub, 1)) (k : AW g y cc nL ret R E F kc ks (pc + 1) lv (.int (x - z) :: st) ws) : AW g y cc nL ret R E F kc ks pc lv (.int z :: .int x :: st) ws :=
  fun p e s m args below meth c H locs A ls C D hl => lv_isub C.1 C.2.1 hd (k p e s m args below meth c H locs A ls C D hl)
theorem aw_imul {x z : Int32} (hd : decode cc pc = .ok (.imul, 1)) (k : AW g y cc nL ret R E F kc ks (pc + 1) lv (.int (x * z) :: st) ws) : AW g y cc nL ret R E F kc ks pc lv (.int z :: .int x :: st) ws :=
  fun p e s m args below meth c H locs A ls C D hl => lv_imul C.1 C.2.1 hd (k p e s m args below meth c H locs A ls C D hl)
theorem aw_iand {x z : Int32} (hd : decode cc pc = .ok (.iand, 1)) (k : AW g y cc nL ret R E F kc ks (pc + 1) lv (.int (x &&& z) :: st) ws) : AW g y cc nL ret R E F kc ks pc lv (.int z :: .int x :: st) ws :=
  fun p e s m args below meth c H locs A ls C D hl => lv_iand C.1 C.2.1 hd (k p e s m args below meth c H locs A ls C D hl)
theorem aw_ior {x z : Int32} (hd : decode cc pc = .ok (.ior, 1)) (k : AW g y cc nL ret R E F kc ks (pc + 1) lv (.int (x ||| z) :: st) ws) : AW g y cc nL ret R E F kc ks pc lv (.int z :: .int x :: st) ws :=
  fun p e s m args below meth c H locs A ls C D hl => lv_ior C.1 C.2.1 hd (k p e s m args below meth c H locs A ls C D hl)
theorem aw_ixor {x z : Int32} (hd : decode cc pc = .ok (.ixor, 1)) (k : AW g y cc nL ret R E F kc ks (pc + 1) lv (.int (x ^^^ z) :: st) ws) : AW g y cc nL ret R E F kc ks pc lv (.int z :: .int x :: st) ws :=
  fun p e s m args below meth c H locs A ls C D hl => lv_ixor C.1 C.2.1 hd (k p e s m args below meth c H locs A ls C D hl)
theorem aw_ishl {x z : Int32} (hd : decode cc pc = .ok (.ishl, 1)) (k : AW g y cc nL ret R E F kc ks (pc + 1) lv (.int (x <<< (z &&& 31)) :: st) ws) : AW g y cc nL ret R E F kc ks pc lv (.int z :: .int x :: st) ws :=
  fun p e s m args below meth c H locs A ls C D hl => lv_ishl C.1 C.2.1 hd (k p e s m args below meth c H locs A ls C D hl)
theorem aw_ishr {x z : Int32} (hd : decode cc pc = .ok (.ishr, 1)) (k : AW g y cc nL ret R E F kc ks (pc + 1) lv (.int (x >>> (z &&& 31)) :: st) ws) : AW g y cc nL ret R E F kc ks pc lv (.int z :: .int x :: st) ws :=
  fun p e s m args below meth c H locs A ls C D hl => lv_ishr C.1 C.2.1 hd (k p e s m args below meth c H locs A ls C D hl)
theorem aw_ladd {x z : Int64} (hd : decode cc pc = .ok (.ladd, 1)) (k : AW g y cc nL ret R E F kc ks (pc + 1) lv (.long (x + z) :: st) ws) : AW g y cc nL ret R E F kc ks pc lv (.long z :: .long x :: st) ws :=
  fun p e s m args below meth c H locs A ls C D hl => lv_ladd C.1 C.2.1 hd (k p e s m args below meth c H locs A ls C D hl)
theorem aw_lsub {x z : Int64} (hd : decode cc pc = .ok (.lsub, 1)) (k : AW g y cc nL ret R E F kc ks (pc + 1) lv (.long (x - z) :: st) ws) : AW g y cc nL ret R E F kc ks pc lv (.long z :: .long x :: st) ws :=
  fun p e s m args below meth c H locs A ls C D hl => lv_lsub C.1 C.2.1 hd (k p e s m args below meth c H locs A ls C D hl)
theorem aw_lmul {x z : Int64} (hd : decode cc pc = .ok (.lmul, 1)) (k : AW g y cc nL ret R E F kc ks (pc + 1) lv (.long (x * z) :: st) ws) : AW g y cc nL ret R E F kc ks pc lv (.long z :: .long x :: st) ws :=
  fun p e s m args below meth c H locs A ls C D hl => lv_lmul C.1 C.2.1 hd (k p e s m args below meth c H locs A ls C D hl)
theorem aw_land {x z : Int64} (hd : decode cc pc = .ok (.land, 1)) (k : AW g y cc nL ret R E F kc ks (pc + 1) lv (.long (x &&& z) :: st) ws) : AW g y cc nL ret R E F kc ks pc lv (.long z :: .long x :: st) ws :=
  fun p e s m args below meth c H locs A ls C D hl => lv_land C.1 C.2.1 hd (k p e s m args below meth c H locs A ls C D hl)
theorem aw_lor {x z : Int64} (hd : decode cc pc = .ok (.lor, 1)) (k : AW g y cc nL ret R E F kc ks (pc + 1) lv (.long (x ||| z) :: st) ws) : AW g y cc nL ret R E F kc ks pc lv (.long z :: .long x :: st) ws :=
  fun p e s m args below meth c H locs A ls C D hl => lv_lor C.1 C.2.1 hd (k p e s m args below meth c H locs A ls C D hl)
theorem aw_lxor {x z : Int64} (hd : decode cc pc = .ok (.lxor, 1)) (k : AW g y cc nL ret R E F kc ks (pc + 1) lv (.long (x ^^^ z) :: st) ws) : AW g y cc nL ret R E F kc ks pc lv (.long z :: .long x :: st) ws :=
  fun p e s m args below meth c H locs A ls C D hl => lv_lxor C.1 C.2.1 hd (k p e s m args below meth c H locs A ls C D hl)
theorem aw_idiv {x z : Int32} (hd : decode cc pc = .ok (.idiv, 1)) (hne : ¬ z = 0) (k : AW g y cc nL ret R E F kc ks (pc + 1) lv (.int (x / z) :: st) ws) : AW g y cc nL ret R E F kc ks pc lv (.int z :: .int x :: st) ws :=
  fun p e s m args below meth c H locs A ls C D hl => lv_idiv C.1 C.2.1 hd hne (k p e s m args below meth c H locs A ls C D hl)
theorem aw_irem {x z : Int32} (hd : decode cc pc = .ok (.irem, 1)) (hne : ¬ z = 0) (k : AW g y cc nL ret R E F kc ks (pc + 1) lv (.int (x - x / z * z) :: st) ws) : AW g y cc nL ret R E F kc ks pc lv (.int z :: .int x :: st) ws :=
  fun p e s m args below meth c H locs A ls C D hl => lv_irem C.1 C.2.1 hd hne (k p e s m args below meth c H locs A ls C D hl)
theorem aw_ldiv {x z : Int64} (hd : decode cc pc = .ok (.ldiv, 1)) (hne : ¬ z = 0) (k : AW g y cc nL ret R E F kc ks (pc + 1) lv (.long (x / z) :: st) ws) : AW g y cc nL ret R E F kc ks pc lv (.long z :: .long x :: st) ws :=
  fun p e s m args below meth c H locs A ls C D hl => lv_ldiv C.1 C.2.1 hd hne (k p e s m args below meth c H locs A ls C D hl)
theorem aw_lrem {x z : Int64} (hd : decode cc pc = .ok (.lrem, 1)) (hne : ¬ z = 0) (k : AW g y cc nL ret R E F kc ks (pc + 1) lv (.long (x - x / z * z) :: st) ws) : AW g y cc nL ret R E F kc ks pc lv (.long z :: .long x :: st) ws :=
  fun p e s m args below meth c H locs A ls C D hl => lv_lrem C.1 C.2.1 hd hne (k p e s m args below meth c H locs A ls C D hl)
theorem aw_ineg {x : Int32} (hd : decode cc pc = .ok (.ineg, 1)) (k : AW g y cc nL ret R E F kc ks (pc + 1) lv (.int (-x) :: st) ws) : AW g y cc nL ret R E F kc ks pc lv (.int x :: st) ws :=
  fun p e s m args below meth c H locs A ls C D hl => lv_ineg C.1 C.2.1 hd (k p e s m args below meth c H locs A ls C D hl)
theorem aw_lneg {x : Int64} (hd : decode cc pc = .ok (.lneg, 1)) (k : AW g y cc nL ret R E F kc ks (pc + 1) lv (.long (-x) :: st) ws) : AW g y cc nL ret R E F kc ks pc lv (.long x :: st) ws :=
  fun p e s m args below meth c H locs A ls C D hl => lv_lneg C.1 C.2.1 hd (k p e s m args below meth c H locs A ls C D hl)
theorem aw_i2l {x : Int32} (hd : decode cc pc = .ok (.i2l, 1)) (k : AW g y cc nL ret R E F kc ks (pc + 1) lv (.long x.toInt64 :: st) ws) : AW g y cc nL ret R E F kc ks pc lv (.int x :: st) ws :=
  fun p e s m args below meth c H locs A ls C D hl => lv_i2l C.1 C.2.1 hd rfl (k p e s m args below meth c H locs A ls C D hl)
theorem aw_l2i {x : Int64} (hd : decode cc pc = .ok (.l2i, 1)) (k : AW g y cc nL ret R E F kc ks (pc + 1) lv (.int x.toInt32 :: st) ws) : AW g y cc nL ret R E F kc ks pc lv (.long x :: st) ws :=
  fun p e s m args below meth c H locs A ls C D hl => lv_l2i C.1 C.2.1 hd rfl (k p e s m args below meth c H locs A ls C D hl)
theorem aw_iushr {x z : Int32} (hd : decode cc pc = .ok (.iushr, 1)) (k : AW g y cc nL ret R E F kc ks (pc + 1) lv (.int ((x.toUInt32 >>> (z.toUInt32 &&& Int32.toUInt32 31)).toInt32) :: st) ws) : AW g y cc nL ret R E F kc ks pc lv (.int z :: .int x :: st) ws :=
  fun p e s m args below meth c H locs A ls C D hl => lv_iushr C.1 C.2.1 hd rfl (k p e s m args below meth c H locs A ls C D hl)
theorem aw_lushr {x : Int64} {z : Int32} (hd : decode cc pc = .ok (.lushr, 1)) (k : AW g y cc nL ret R E F kc ks (pc + 1) lv (.long ((x.toUInt64 >>> (z.toInt64.toUInt64 &&& Int64.toUInt64 63)).toInt64) :: st) ws) : AW g y cc nL ret R E F kc ks pc lv (.int z :: .long x :: st) ws :=
  fun p e s m args below meth c H locs A ls C D hl => lv_lushr C.1 C.2.1 hd rfl (k p e s m args below meth c H locs A ls C D hl)
theorem aw_lshl {x : Int64} {z : Int32} (hd : decode cc pc = .ok (.lshl, 1)) (k : AW g y cc nL ret R E F kc ks (pc + 1) lv (.long (x <<< (z.toInt64 &&& 63)) :: st) ws) : AW g y cc nL ret R E F kc ks pc lv (.int z :: .long x :: st) ws :=
  fun p e s m args below meth c H locs A ls C D hl => lv_lshl C.1 C.2.1 hd rfl (k p e s m args below meth c H locs A ls C D hl)
theorem aw_lshr {x : Int64} {z : Int32} (hd : decode cc pc = .ok (.lshr, 1)) (k : AW g y cc nL ret R E F kc ks (pc + 1) lv (.long (x >>> (z.toInt64 &&& 63)) :: st) ws) : AW g y cc nL ret R E F kc ks pc lv (.int z :: .long x :: st) ws :=
  fun p e s m args below meth c H locs A ls C D hl => lv_lshr C.1 C.2.1 hd rfl (k p e s m args below meth c H locs A ls C D hl)
theorem aw_lcmp {x z : Int64} (hd : decode cc pc = .ok (.lcmp, 1)) (k : AW g y cc nL ret R E F kc ks (pc + 1) lv (.int (lg_cmp x z) :: st) ws) : AW g y cc nL ret R E F kc ks pc lv (.long z :: .long x :: st) ws :=
  fun p e s m args below meth c H locs A ls C D hl => W.lcmp C.1 C.2.1 hd (k p e s m args below meth c H locs A ls C D hl)
theorem aw_dup {a : Value} (hd : decode cc pc = .ok (.dup, 1)) (ha : a.category = 1) (k : AW g y cc nL ret R E F kc ks (pc + 1) lv (a :: a :: st) ws) : AW g y cc nL ret R E F kc ks pc lv (a :: st) ws :=
  fun p e s m args below meth c H locs A ls C D hl => lv_dup C.1 C.2.1 hd ha (k p e s m args below meth c H locs A ls C D hl)
theorem aw_pop {a : Value} (hd : decode cc pc = .ok (.pop, 1)) (ha : a.category = 1) (k : AW g y cc nL ret R E F kc ks (pc + 1) lv (st) ws) : AW g y cc nL ret R E F kc ks pc lv (a :: st) ws :=
  fun p e s m args below meth c H locs A ls C D hl => lv_pop C.1 C.2.1 hd ha (k p e s m args below meth c H locs A ls C D hl)
theorem aw_dup_x1 {a b : Value} (hd : decode cc pc = .ok (.dup_x1, 1)) (ha : a.category = 1) (hb : b.category = 1) (k : AW g y cc nL ret R E F kc ks (pc + 1) lv (a :: b :: a :: st) ws) : AW g y cc nL ret R E F kc ks pc lv (a :: b :: st) ws :=
  fun p e s m args below meth c H locs A ls C D hl => lv_dup_x1 C.1 C.2.1 hd ha hb (k p e s m args below meth c H locs A ls C D hl)
theorem aw_dup_x2 {a b d : Value} (hd : decode cc pc = .ok (.dup_x2, 1)) (ha : a.category = 1) (hb : b.category = 1) (hc : d.category = 1) (k : AW g y cc nL ret R E F kc ks (pc + 1) lv (a :: b :: d :: a :: st) ws) : AW g y cc nL ret R E F kc ks pc lv (a :: b :: d :: st) ws :=
  fun p e s m args below meth c H locs A ls C D hl => lv_dup_x2 C.1 C.2.1 hd ha hb hc (k p e s m args below meth c H locs A ls C D hl)
theorem aw_dup2_11 {a b : Value} (hd : decode cc pc = .ok (.dup2, 1)) (ha : a.category = 1) (hb : b.category = 1) (k : AW g y cc nL ret R E F kc ks (pc + 1) lv (a :: b :: a :: b :: st) ws) : AW g y cc nL ret R E F kc ks pc lv (a :: b :: st) ws :=
  fun p e s m args below meth c H locs A ls C D hl => lv_dup2_11 C.1 C.2.1 hd ha hb (k p e s m args below meth c H locs A ls C D hl)
theorem aw_dup2_2 {a : Value} (hd : decode cc pc = .ok (.dup2, 1)) (ha : a.category = 2) (k : AW g y cc nL ret R E F kc ks (pc + 1) lv (a :: a :: st) ws) : AW g y cc nL ret R E F kc ks pc lv (a :: st) ws :=
  fun p e s m args below meth c H locs A ls C D hl => lv_dup2_2 C.1 C.2.1 hd ha (k p e s m args below meth c H locs A ls C D hl)
theorem aw_pop2_2 {a : Value} (hd : decode cc pc = .ok (.pop2, 1)) (ha : a.category = 2) (k : AW g y cc nL ret R E F kc ks (pc + 1) lv (st) ws) : AW g y cc nL ret R E F kc ks pc lv (a :: st) ws :=
  fun p e s m args below meth c H locs A ls C D hl => lv_pop2_2 C.1 C.2.1 hd ha (k p e s m args below meth c H locs A ls C D hl)
theorem aw_pop2_11 {a b : Value} (hd : decode cc pc = .ok (.pop2, 1)) (ha : a.category = 1) (hb : b.category = 1) (k : AW g y cc nL ret R E F kc ks (pc + 1) lv (st) ws) : AW g y cc nL ret R E F kc ks pc lv (a :: b :: st) ws :=
  fun p e s m args below meth c H locs A ls C D hl => lv_pop2_11 C.1 C.2.1 hd ha hb (k p e s m args below meth c H locs A ls C D hl)
theorem aw_dup2_x1_2 {a b : Value} (hd : decode cc pc = .ok (.dup2_x1, 1)) (ha : a.category = 2) (hb : b.category = 1) (k : AW g y cc nL ret R E F kc ks (pc + 1) lv (a :: b :: a :: st) ws) : AW g y cc nL ret R E F kc ks pc lv (a :: b :: st) ws :=
  fun p e s m args below meth c H locs A ls C D hl => lv_dup2_x1_2 C.1 C.2.1 hd ha hb (k p e s m args below meth c H locs A ls C D hl)
theorem aw_dup2_x2_2 {a b d : Value} (hd : decode cc pc = .ok (.dup2_x2, 1)) (ha : a.category = 2) (hb : b.category = 1) (hc : d.category = 1) (k : AW g y cc nL ret R E F kc ks (pc + 1) lv (a :: b :: d :: a :: st) ws) : AW g y cc nL ret R E F kc ks pc lv (a :: b :: d :: st) ws :=
  fun p e s m args below meth c H locs A ls C D hl => lv_dup2_x2_2 C.1 C.2.1 hd ha hb hc (k p e s m args below meth c H locs A ls C D hl)
theorem aw_if_eq {x : Int32} {off : Int} {tgt : Nat} (hd : decode cc pc = .ok (.ifCond .eq off, 3)) (ht : (pc : Int) + off = (tgt : Int)) (kt : x = 0 → AW g y cc nL ret R E F kc ks tgt lv st ws) (kf : ¬ x = 0 → AW g y cc nL ret R E F kc ks (pc + 3) lv st ws) : AW g y cc nL ret R E F kc ks pc lv (.int x :: st) ws :=
  fun p e s m args below meth c H locs A ls C D hl => lv_if_eq C.1 C.2.1 hd ht (fun h => kt h p e s m args below meth c H locs A ls C D hl) (fun h => kf h p e s m args below meth c H locs A ls C D hl)
theorem aw_icmp_eq {x z : Int32} {off : Int} {tgt : Nat} (hd : decode cc pc = .ok (.if_icmp .eq off, 3)) (ht : (pc : Int) + off = (tgt : Int)) (kt : x = z → AW g y cc nL ret R E F kc ks tgt lv st ws) (kf : ¬ x = z → AW g y cc nL ret R E F kc ks (pc + 3) lv st ws) : AW g y cc nL ret R E F kc ks pc lv (.int z :: .int x :: st) ws :=
  fun p e s m args below meth c H locs A ls C D hl => lv_icmp_eq C.1 C.2.1 hd ht (fun h => kt h p e s m args below meth c H locs A ls C D hl) (fun h => kf h p e s m args below meth c H locs A ls C D hl)
theorem aw_if_ne {x : Int32} {off : Int} {tgt : Nat} (hd : decode cc pc = .ok (.ifCond .ne off, 3)) (ht : (pc : Int) + off = (tgt : Int)) (kt : ¬ x = 0 → AW g y cc nL ret R E F kc ks tgt lv st ws) (kf : x = 0 → AW g y cc nL ret R E F kc ks (pc + 3) lv st ws) : AW g y cc nL ret R E F kc ks pc lv (.int x :: st) ws :=
  fun p e s m args below meth c H locs A ls C D hl => lv_if_ne C.1 C.2.1 hd ht (fun h => kt h p e s m args below meth c H locs A ls C D hl) (fun h => kf h p e s m args below meth c H locs A ls C D hl)
theorem aw_icmp_ne {x z : Int32} {off : Int} {tgt : Nat} (hd : decode cc pc = .ok (.if_icmp .ne off, 3)) (ht : (pc : Int) + off = (tgt : Int)) (kt : ¬ x = z → AW g y cc nL ret R E F kc ks tgt lv st ws) (kf : x = z → AW g y cc nL ret R E F kc ks (pc + 3) lv st ws) : AW g y cc nL ret R E F kc ks pc lv (.int z :: .int x :: st) ws :=
  fun p e s m args below meth c H locs A ls C D hl => lv_icmp_ne C.1 C.2.1 hd ht (fun h => kt h p e s m args below meth c H locs A ls C D hl) (fun h => kf h p e s m args below meth c H locs A ls C D hl)
theorem aw_if_lt {x : Int32} {off : Int} {tgt : Nat} (hd : decode cc pc = .ok (.ifCond .lt off, 3)) (ht : (pc : Int) + off = (tgt : Int)) (kt : x < 0 → AW g y cc nL ret R E F kc ks tgt lv st ws) (kf : ¬ x < 0 → AW g y cc nL ret R E F kc ks (pc + 3) lv st ws) : AW g y cc nL ret R E F kc ks pc lv (.int x :: st) ws :=
  fun p e s m args below meth c H locs A ls C D hl => lv_if_lt C.1 C.2.1 hd ht (fun h => kt h p e s m args below meth c H locs A ls C D hl) (fun h => kf h p e s m args below meth c H locs A ls C D hl)
theorem aw_icmp_lt {x z : Int32} {off : Int} {tgt : Nat} (hd : decode cc pc = .ok (.if_icmp .lt off, 3)) (ht : (pc : Int) + off = (tgt : Int)) (kt : x < z → AW g y cc nL ret R E F kc ks tgt lv st ws) (kf : ¬ x < z → AW g y cc nL ret R E F kc ks (pc + 3) lv st ws) : AW g y cc nL ret R E F kc ks pc lv (.int z :: .int x :: st) ws :=
  fun p e s m args below meth c H locs A ls C D hl => lv_icmp_lt C.1 C.2.1 hd ht (fun h => kt h p e s m args below meth c H locs A ls C D hl) (fun h => kf h p e s m args below meth c H locs A ls C D hl)
theorem aw_if_ge {x : Int32} {off : Int} {tgt : Nat} (hd : decode cc pc = .ok (.ifCond .ge off, 3)) (ht : (pc : Int) + off = (tgt : Int)) (kt : 0 ≤ x → AW g y cc nL ret R E F kc ks tgt lv st ws) (kf : ¬ 0 ≤ x → AW g y cc nL ret R E F kc ks (pc + 3) lv st ws) : AW g y cc nL ret R E F kc ks pc lv (.int x :: st) ws :=
  fun p e s m args below meth c H locs A ls C D hl => lv_if_ge C.1 C.2.1 hd ht (fun h => kt h p e s m args below meth c H locs A ls C D hl) (fun h => kf h p e s m args below meth c H locs A ls C D hl)
theorem aw_icmp_ge {x z : Int32} {off : Int} {tgt : Nat} (hd : decode cc pc = .ok (.if_icmp .ge off, 3)) (ht : (pc : Int) + off = (tgt : Int)) (kt : z ≤ x → AW g y cc nL ret R E F kc ks tgt lv st ws) (kf : ¬ z ≤ x → AW g y cc nL ret R E F kc ks (pc + 3) lv st ws) : AW g y cc nL ret R E F kc ks pc lv (.int z :: .int x :: st) ws :=
  fun p e s m args below meth c H locs A ls C D hl => lv_icmp_ge C.1 C.2.1 hd ht (fun h => kt h p e s m args below meth c H locs A ls C D hl) (fun h => kf h p e s m args below meth c H locs A ls C D hl)
theorem aw_if_gt {x : Int32} {off : Int} {tgt : Nat} (hd : decode cc pc = .ok (.ifCond .gt off, 3)) (ht : (pc : Int) + off = (tgt : Int)) (kt : 0 < x → AW g y cc nL ret R E F kc ks tgt lv st ws) (kf : ¬ 0 < x → AW g y cc nL ret R E F kc ks (pc + 3) lv st ws) : AW g y cc nL ret R E F kc ks pc lv (.int x :: st) ws :=
  fun p e s m args below meth c H locs A ls C D hl => lv_if_gt C.1 C.2.1 hd ht (fun h => kt h p e s m args below meth c H locs A ls C D hl) (fun h => kf h p e s m args below meth c H locs A ls C D hl)
theorem aw_icmp_gt {x z : Int32} {off : Int} {tgt : Nat} (hd : decode cc pc = .ok (.if_icmp .gt off, 3)) (ht : (pc : Int) + off = (tgt : Int)) (kt : z < x → AW g y cc nL ret R E F kc ks tgt lv st ws) (kf : ¬ z < x → AW g y cc nL ret R E F kc ks (pc + 3) lv st ws) : AW g y cc nL ret R E F kc ks pc lv (.int z :: .int x :: st) ws :=
  fun p e s m args below meth c H locs A ls C D hl => lv_icmp_gt C.1 C.2.1 hd ht (fun h => kt h p e s m args below meth c H locs A ls C D hl) (fun h => kf h p e s m args below meth c H locs A ls C D hl)
theorem aw_if_le {x : Int32} {off : Int} {tgt : Nat} (hd : decode cc pc = .ok (.ifCond .le off, 3)) (ht : (pc : Int) + off = (tgt : Int)) (kt : x ≤ 0 → AW g y cc nL ret R E F kc ks tgt lv st ws) (kf : ¬ x ≤ 0 → AW g y cc nL ret R E F kc ks (pc + 3) lv st ws) : AW g y cc nL ret R E F kc ks pc lv (.int x :: st) ws :=
  fun p e s m args below meth c H locs A ls C D hl => lv_if_le C.1 C.2.1 hd ht (fun h => kt h p e s m args below meth c H locs A ls C D hl) (fun h => kf h p e s m args below meth c H locs A ls C D hl)
theorem aw_icmp_le {x z : Int32} {off : Int} {tgt : Nat} (hd : decode cc pc = .ok (.if_icmp .le off, 3)) (ht : (pc : Int) + off = (tgt : Int)) (kt : x ≤ z → AW g y cc nL ret R E F kc ks tgt lv st ws) (kf : ¬ x ≤ z → AW g y cc nL ret R E F kc ks (pc + 3) lv st ws) : AW g y cc nL ret R E F kc ks pc lv (.int z :: .int x :: st) ws :=
  fun p e s m args below meth c H locs A ls C D hl => lv_icmp_le C.1 C.2.1 hd ht (fun h => kt h p e s m args below meth c H locs A ls C D hl) (fun h => kf h p e s m args below meth c H locs A ls C D hl)
theorem aw_goto {off : Int} {tgt : Nat} (hd : decode cc pc = .ok (.goto off, 3)) (ht : (pc : Int) + off = (tgt : Int)) (k : AW g y cc nL ret R E F kc ks tgt lv st ws) : AW g y cc nL ret R E F kc ks pc lv st ws :=
  fun p e s m args below meth c H locs A ls C D hl => lv_goto C.1 C.2.1 hd ht (k p e s m args below meth c H locs A ls C D hl)
theorem aw_ret {Q : Option Value → va_W → Prop} {v : Option Value} {A : Nat → Prop} {s t : State} {H : Heap} {locs : List Loc} {args : Array Value} (D : aw_wd g A s H locs ws) (hq : Q v ws) (ht : t.heap = H) (hW : s.WarmedH t.vm) : aw_Q g Q A args s (.returned v) t :=
  ⟨⟨v, ws, rfl, hq, by rw [ht]; exact D.2.2.1, va_K.moved hW.alike D.2.1, D.2.2.2⟩, D.1.F ht⟩
theorem aw_iret {Q : Option Value → va_W → Prop} {mc ms : Nat} {v : Int32} (hd : decode cc pc = .ok (.ireturn, 1)) (h1 : kc ≤ mc) (h2 : ks ≤ ms) (hq : Q (some (.int v)) ws) : AW g y cc nL (some .int) R E (aw_F g Q mc ms) kc ks pc lv [.int v] ws :=
  fun p e s m args below meth c H locs A ls C D hl => W.widen h1 h2 (W.iret C.1 C.2.1 C.2.2.1 (fun t ht hW => aw_ret D hq ht hW) D.1.2.2 hd (hlocks := C.2.2.2.2.2.2.1))
theorem aw_lret {Q : Option Value → va_W → Prop} {mc ms : Nat} {v : Int64} (hd : decode cc pc = .ok (.lreturn, 1)) (h1 : kc ≤ mc) (h2 : ks ≤ ms) (hq : Q (some (.long v)) ws) : AW g y cc nL (some .long) R E (aw_F g Q mc ms) kc ks pc lv [.long v] ws :=
  fun p e s m args below meth c H locs A ls C D hl => W.widen h1 h2 (W.lret C.1 C.2.1 C.2.2.1 (fun t ht hW => aw_ret D hq ht hW) D.1.2.2 hd (hlocks := C.2.2.2.2.2.2.1))
theorem aw_zret {Q : Option Value → va_W → Prop} {mc ms : Nat} {v : Int32} {ty : FieldType} (hd : decode cc pc = .ok (.ireturn, 1)) (hn : narrow ty (.int v) = .int v) (h1 : kc ≤ mc) (h2 : ks ≤ ms) (hq : Q (some (.int v)) ws) : AW g y cc nL (some ty) R E (aw_F g Q mc ms) kc ks pc lv [.int v] ws :=
  fun p e s m args below meth c H locs A ls C D hl => W.widen h1 h2 (W.zret C.1 C.2.1 C.2.2.1 hn (fun t ht hW => aw_ret D hq ht hW) D.1.2.2 hd (hlocks := C.2.2.2.2.2.2.1))
theorem aw_vret {Q : Option Value → va_W → Prop} {mc ms : Nat} (hd : decode cc pc = .ok (.return_, 1)) (h1 : kc ≤ mc) (h2 : ks ≤ ms) (hq : Q none ws) : AW g y cc nL none R E (aw_F g Q mc ms) kc ks pc lv [] ws :=
  fun p e s m args below meth c H locs A ls C D hl => W.widen h1 h2 (W.vret C.1 C.2.1 C.2.2.1 (fun t ht hW => aw_ret D hq ht hW) D.1.2.2 hd (hlocks := C.2.2.2.2.2.2.1))
def aw_cc (ci : Nat) (Cn : String) (T : u_T) (N : Nat) (ty : Nat → FieldType) : Prop := vwCl[ci]? = some (Cn, T, N) ∧ (∀ w ∈ u_ws Cn T N, w ∈ aw_WS) ∧ (∀ k, k < N → parseFieldDescriptor (T k).2.2.1 = some (ty k)) ∧ (∀ a, a < N → ∀ b, b < N → a ≠ b → (T a).2.1 ≠ (T b).2.1)
theorem aw_get {ci N index a : Nat} {Cn : String} {T : u_T} {ty : Nat → FieldType} {fs : List Value} {v : Value} (K : aw_cc ci Cn T N ty) (i : Nat) (hi : i < N) (hw : Cond.fieldLink y.cls index (T i).1 (T i).2.1 (T i).2.2.1 ∈ aw_WS) (hd : decode cc pc = .ok (.getfield index, 3)) {q0 : Nat} (he : ws[q0]? = some (a, .inr (ci, fs))) (hv : fs[i]? = some v) (k : AW g y cc nL ret R E F kc ks (pc + 3) lv (v :: st) ws) : AW g y cc nL ret R E F kc ks pc lv (.ref a :: st) ws :=
  fun p e s m args below meth c H locs A ls C D hl => va_get (Ts := aw_WS) C.1 C.2.1 C.2.2.2.2.2.1 K.2.1 C.2.2.2.2.1 D.2.1 D.2.2.1 q0 he K.1 i hi (C.2.2.2.2.2.1 _ hw) (fun _ h9 => h9) hv hd (k p e s m args below meth c H locs A ls C D hl)
theorem aw_put {ci N index a : Nat} {Cn : String} {T : u_T} {ty : Nat → FieldType} {fs : List Value} {v : Value} (K : aw_cc ci Cn T N ty) (i : Nat) (hi : i < N) (hw : Cond.fieldLink y.cls index (T i).1 (T i).2.1 (T i).2.2.1 ∈ aw_WS) (hd : decode cc pc = .ok (.putfield index, 3)) {q0 : Nat} (he : ws[q0]? = some (a, .inr (ci, fs))) (hfin : (T i).2.2.2 = false) (hn : narrow (ty i) v = v) (hfit : fits (ty i) v = true) (hlen : i < fs.length) (k : AW g y cc nL ret R E F kc ks (pc + 3) lv st (ws.set q0 (a, .inr (ci, fs.set i v)))) : AW g y cc nL ret R E F kc ks pc lv (v :: .ref a :: st) ws :=
  fun p e s m args below meth c H locs A ls C D hl => va_put (Ts := aw_WS) C.1 C.2.1 C.2.2.2.2.2.1 K.2.1 ty K.2.2.1 K.2.2.2 C.2.2.2.2.1 D.2.1 D.2.2.1 D.2.2.2 D.1 q0 he K.1 i hi (C.2.2.2.2.2.1 _ hw) (fun _ h9 => h9) hfin (K.2.2.1 i hi) hn hfit hlen hd (fun H locs hP hD hS => k p e s m args below meth c H locs A ls C ⟨hS, D.2.1, hP, hD⟩ hl)
theorem aw_putF {ci N index a : Nat} {Cn : String} {T : u_T} {ty : Nat → FieldType} {fs : List Value} {v : Value} (K : aw_cc ci Cn T N ty) (i : Nat) (hi : i < N) (hw : Cond.fieldLink y.cls index (T i).1 (T i).2.1 (T i).2.2.1 ∈ aw_WS) (hd : decode cc pc = .ok (.putfield index, 3)) {q0 : Nat} (he : ws[q0]? = some (a, .inr (ci, fs))) (hfin : (T i).2.2.2 = true) (hin : y.name = "<init>") (hde : (T i).1 = y.cls) (hn : narrow (ty i) v = v) (hfit : fits (ty i) v = true) (hlen : i < fs.length) (k : AW g y cc nL ret R E F kc ks (pc + 3) lv st (ws.set q0 (a, .inr (ci, fs.set i v)))) : AW g y cc nL ret R E F kc ks pc lv (v :: .ref a :: st) ws :=
  fun p e s m args below meth c H locs A ls C D hl => va_putF (Ts := aw_WS) C.1 C.2.1 C.2.2.2.2.2.1 K.2.1 ty K.2.2.1 K.2.2.2 C.2.2.2.2.1 D.2.1 D.2.2.1 D.2.2.2 D.1 q0 he K.1 i hi (C.2.2.2.2.2.1 _ hw) (fun _ h9 => h9) hfin (C.2.2.2.2.2.2.2.1.trans hin) hde (K.2.2.1 i hi) hn hfit hlen hd (fun H locs hP hD hS => k p e s m args below meth c H locs A ls C ⟨hS, D.2.1, hP, hD⟩ hl)
theorem aw_iald {a n t0 q0 : Nat} {cA : ClassId} {f : Nat → Int32} {i : Int32} (hd : decode cc pc = .ok (.iaload, 1)) (he : ws[q0]? = some (a, .inl (cA, n, .inl f))) (ht : g.2.2[t0]? = some (cA, .int)) (hin : vp_in i n) (k : AW g y cc nL ret R E F kc ks (pc + 1) lv (.int (f i.toNatClampNeg) :: st) ws) : AW g y cc nL ret R E F kc ks pc lv (.int i :: .ref a :: st) ws :=
  fun p e s m args below meth c H locs A ls C D hl => va_iald C.1 C.2.1 D.2.1 D.2.2.1 q0 t0 he ht hin hd (k p e s m args below meth c H locs A ls C D hl)
theorem aw_iast {a n t0 q0 : Nat} {cA : ClassId} {f : Nat → Int32} {i : Int32} {x : Int32} (hd : decode cc pc = .ok (.iastore, 1)) (he : ws[q0]? = some (a, .inl (cA, n, .inl f))) (ht : g.2.2[t0]? = some (cA, .int)) (hin : vp_in i n) (k : AW g y cc nL ret R E F kc ks (pc + 1) lv st (ws.set q0 (a, .inl (cA, n, .inl (upd f i.toNatClampNeg x))))) : AW g y cc nL ret R E F kc ks pc lv (.int x :: .int i :: .ref a :: st) ws :=
  fun p e s m args below meth c H locs A ls C D hl => va_iast C.1 C.2.1 D.2.1 D.2.2.1 D.2.2.2 D.1 q0 t0 he ht hin hd (fun H locs hP hD hS => k p e s m args below meth c H locs A ls C ⟨hS, D.2.1, hP, hD⟩ hl)
theorem aw_lald {a n t0 q0 : Nat} {cA : ClassId} {f : Nat → Int64} {i : Int32} (hd : decode cc pc = .ok (.laload, 1)) (he : ws[q0]? = some (a, .inl (cA, n, .inr (.inl f)))) (ht : g.2.2[t0]? = some (cA, .long)) (hin : vp_in i n) (k : AW g y cc nL ret R E F kc ks (pc + 1) lv (.long (f i.toNatClampNeg) :: st) ws) : AW g y cc nL ret R E F kc ks pc lv (.int i :: .ref a :: st) ws :=
  fun p e s m args below meth c H locs A ls C D hl => va_lald C.1 C.2.1 D.2.1 D.2.2.1 q0 t0 he ht hin hd (k p e s m args below meth c H locs A ls C D hl)
theorem aw_last {a n t0 q0 : Nat} {cA : ClassId} {f : Nat → Int64} {i : Int32} {x : Int64} (hd : decode cc pc = .ok (.lastore, 1)) (he : ws[q0]? = some (a, .inl (cA, n, .inr (.inl f)))) (ht : g.2.2[t0]? = some (cA, .long)) (hin : vp_in i n) (k : AW g y cc nL ret R E F kc ks (pc + 1) lv st (ws.set q0 (a, .inl (cA, n, .inr (.inl (vp_updL f i.toNatClampNeg x)))))) : AW g y cc nL ret R E F kc ks pc lv (.long x :: .int i :: .ref a :: st) ws :=
  fun p e s m args below meth c H locs A ls C D hl => va_last C.1 C.2.1 D.2.1 D.2.2.1 D.2.2.2 D.1 q0 t0 he ht hin hd (fun H locs hP hD hS => k p e s m args below meth c H locs A ls C ⟨hS, D.2.1, hP, hD⟩ hl)
theorem aw_alen {a t0 q0 : Nat} {cA : ClassId} {x : vp_A} {fty : FieldType} {v : Int32} (hd : decode cc pc = .ok (.arraylength, 1)) (he : ws[q0]? = some (a, .inl (cA, x))) (ht : g.2.2[t0]? = some (cA, fty)) (hv : Int32.ofNat x.1 = v) (k : AW g y cc nL ret R E F kc ks (pc + 1) lv (.int v :: st) ws) : AW g y cc nL ret R E F kc ks pc lv (.ref a :: st) ws :=
  fun p e s m args below meth c H locs A ls C D hl => va_alen C.1 C.2.1 D.2.1 D.2.2.1 q0 t0 he ht hv hd (k p e s m args below meth c H locs A ls C D hl)
theorem aw_aald {a n t0 q0 b : Nat} {cA : ClassId} {t : FieldType} {f : Nat → Option Nat} {i : Int32} (hd : decode cc pc = .ok (.aaload, 1)) (he : ws[q0]? = some (a, .inl (cA, n, .inr (.inr (.inr (.inr f)))))) (ht : g.2.2[t0]? = some (cA, .array t)) (hin : vp_in i n) (hf : f i.toNatClampNeg = some b) (k : AW g y cc nL ret R E F kc ks (pc + 1) lv (.ref b :: st) ws) : AW g y cc nL ret R E F kc ks pc lv (.int i :: .ref a :: st) ws :=
  fun p e s m args below meth c H locs A ls C D hl => W.aald (v := va_rf (f i.toNatClampNeg)) (ty := .array t) C.1 C.2.1 (D.2.2.1 q0 _ he) ((D.2.1.2 t0 _ ht).1 n (fun j => va_rf (f j))) rfl (fun q => by cases q) (by show ¬ (i < 0 ∨ (arrV _ _ _).slots.size ≤ _); rw [arrV_size]; exact hin) (by show (arrV _ _ _).slots[_]? = _; rw [arrV_read _ _ (Nat.not_le.mp fun q => hin (Or.inr q))]) rfl rfl hd (by rw [hf]; exact (k p e s m args below meth c H locs A ls C D hl))
theorem aw_new {ci N index : Nat} {Cn : String} {T : u_T} {ty : Nat → FieldType} {fs : List Value} (K : aw_cc ci Cn T N ty) (hw1 : Cond.classLink y.cls index Cn ∈ aw_WS) (hw2 : Cond.instantiable Cn N ∈ aw_WS) (hw3 : Cond.initialized Cn ∈ aw_WS) (hd : decode cc pc = .ok (.new index, 3)) (hfs : ∀ j, j < N → defaultValue (ty j) = vp_V fs j) (hc : kc + 1 ≤ R.cells) (hs : ks + N ≤ R.slots) (k : ∀ q : Nat, AW g y cc nL ret R E F (kc + 1) (ks + N) (pc + 3) lv (.ref q :: st) (ws ++ [(q, .inr (ci, fs))])) : AW g y cc nL ret R E F kc ks pc lv st ws :=
  fun p e s m args below meth c H locs A ls C D hl => va_new (Ts := aw_WS) C.1 C.2.1 C.2.2.2.2.2.1 K.2.1 ty K.2.2.1 C.2.2.2.2.1 (C.2.2.2.2.2.1 _ hw1) (C.2.2.2.2.2.1 _ hw2) (C.2.2.2.2.2.1 _ hw3) D.2.1 D.2.2.1 D.2.2.2 D.1 C.2.2.2.2.2.2.2.2.1 K.1 hfs hc hs hd (fun q H hP hD hS => k q p e s m args below meth c H locs A ls C ⟨hS, D.2.1, hP, hD⟩ hl)
theorem aw_newai {t0 N : Nat} {cA : ClassId} {n : Int32} (hd : decode cc pc = .ok (.newarray .int, 2)) (hw : Cond.arrayClass .int ∈ aw_WS) (ht : g.2.2[t0]? = some (cA, .int)) (hn : ¬ n < 0) (hN : n.toNatClampNeg = N) (hby : N * componentBytes .int ≤ 536870912) (hc : kc + 1 ≤ R.cells) (hs : ks + N ≤ R.slots) (k : ∀ q : Nat, AW g y cc nL ret R E F (kc + 1) (ks + N) (pc + 2) lv (.ref q :: st) (ws ++ [(q, .inl (cA, N, .inl (fun _ => 0)))])) : AW g y cc nL ret R E F kc ks pc lv (.int n :: st) ws := by
  intro p e s m args below meth c H locs A ls C D hl
  refine va_newa (atype := .int) (ty := .int) (a0 := (N, .inl (fun _ => 0))) C.1 C.2.1 (C.2.2.2.2.2.1 _ hw) rfl D.2.1 D.2.2.1 D.2.2.2 D.1 C.2.2.2.2.2.2.2.2.1 (fun cA => rfl) hn hN hby hc hs hd (fun q cB H1 hK hP hD hS => ?_)
  have e1 := (hK.2 g.2.2.length (cB, .int) (by rw [List.getElem?_append_right (Nat.le_refl _), Nat.sub_self]; rfl)).2
  have e2 := (D.2.1.2 t0 _ ht).2
  have e3 : cA = cB := Option.some.inj (e2.symm.trans e1)
  subst e3
  exact k q p e s m args below meth c H1 locs A ls C ⟨hS, D.2.1, hP, hD⟩ hl
theorem aw_newal {t0 N : Nat} {cA : ClassId} {n : Int32} (hd : decode cc pc = .ok (.newarray .long, 2)) (hw : Cond.arrayClass .long ∈ aw_WS) (ht : g.2.2[t0]? = some (cA, .long)) (hn : ¬ n < 0) (hN : n.toNatClampNeg = N) (hby : N * componentBytes .long ≤ 536870912) (hc : kc + 1 ≤ R.cells) (hs : ks + N ≤ R.slots) (k : ∀ q : Nat, AW g y cc nL ret R E F (kc + 1) (ks + N) (pc + 2) lv (.ref q :: st) (ws ++ [(q, .inl (cA, N, .inr (.inl (fun _ => 0))))])) : AW g y cc nL ret R E F kc ks pc lv (.int n :: st) ws := by
  intro p e s m args below meth c H locs A ls C D hl
  refine va_newa (atype := .long) (ty := .long) (a0 := (N, .inr (.inl (fun _ => 0)))) C.1 C.2.1 (C.2.2.2.2.2.1 _ hw) rfl D.2.1 D.2.2.1 D.2.2.2 D.1 C.2.2.2.2.2.2.2.2.1 (fun cA => rfl) hn hN hby hc hs hd (fun q cB H1 hK hP hD hS => ?_)
  have e1 := (hK.2 g.2.2.length (cB, .long) (by rw [List.getElem?_append_right (Nat.le_refl _), Nat.sub_self]; rfl)).2
  have e2 := (D.2.1.2 t0 _ ht).2
  have e3 : cA = cB := Option.some.inj (e2.symm.trans e1)
  subst e3
  exact k q p e s m args below meth c H1 locs A ls C ⟨hS, D.2.1, hP, hD⟩ hl
theorem aw_mr {m : MethodId} {pc : Nat} {ls : Array Slot} {st : List Value} {x r : Nat} (h : x + 12 ≤ r) : 2 * (F0 m pc ls st).monitorRoom + x + 12 ≤ r := by
  have z : (F0 m pc ls st).monitorRoom = 0 := rfl
  rw [z]; omega
theorem aw_objInit {idx a : Nat} (hd : decode cc pc = .ok (.invokespecial idx, 3)) (w1 : Cond.methodLink y.cls idx Lib.objectInit ∈ aw_WS) (w2 : Cond.instanceMethod Lib.objectInit ∈ aw_WS) (w3 : Cond.code Lib.objectInit ⟨#[0xb1]⟩ 1 none ∈ aw_WS) (h1 : 1 ≤ R.frames) (h2 : (st.map fun v => v.category).sum + 12 ≤ R.locals) (k : AW g y cc nL ret R E F kc ks (pc + 3) lv st ws) : AW g y cc nL ret R E F kc ks pc lv (.ref a :: st) ws :=
  fun p e s m args below meth c H locs A ls C D hl => W.objInit C.1 C.2.1 C.2.2.2.2.1 (C.2.2.2.2.2.1 _ w1) (C.2.2.2.2.2.1 _ w2) (C.2.2.2.2.2.1 _ w3) rfl (hl.1.trans C.2.2.2.1.symm) rfl hd h1 (aw_mr h2) (k p e s m args below meth c H locs A ls C D hl)
def aw_card (y : MethodName) (cc : ByteArray) (nL : Nat) (ret : Option FieldType) (n : Nat) : Prop := Cond.code y cc nL ret ∈ aw_WS ∧ Cond.initialized y.cls ∈ aw_WS ∧ y.cls ≠ "java/lang/invoke/MethodHandle" ∧ y.cls ≠ "java/lang/invoke/VarHandle" ∧ (parseMethodDescriptor y.desc).map (fun d => d.parameters.length) = some n
theorem aw_after {p : Program} {e : Env} {s : State} {m : MethodId} {args : Array Value} {below : List Frame} {meth : Method} {c : Code} {H : Heap} {locs : List Loc} {A : Nat → Prop} {ls : Array Slot} {Qf : State → Prop} {Q2 : Option Value → va_W → Prop} {mc2 ms2 : Nat} {st0 rest : List Value} {a : Array Value}
    (hr : va_Run p g.1 e R s m args below meth c H locs kc ks mc2 ms2 (F0 m pc ls st0) rest (aw_Q g Q2 (va_A ws H.size) a) (va_A ws H.size)) (D : aw_wd g A s H locs ws) (hA : ∀ q : Nat, s.heap.size ≤ q → A q)
    (kk : ∀ (v : Option Value) (ws' : va_W) (H1 : Heap) (locs1 : List Loc), Q2 v ws' → aw_wd g A s H1 locs1 ws' → W p g.1 e R s m args below meth c H1 locs1 (kc + mc2) (ks + ms2) Qf (F0 m (pc + 3) ls (v.toList ++ rest))) : W p g.1 e R s m args below meth c H locs kc ks Qf (F0 m pc ls st0) := by
  have hf : ∀ q, va_A ws H.size q → A q := fun q h => by
    rcases h with ⟨k, e', hk⟩ | h
    · exact D.2.2.2.2 k _ hk
    · exact hA q (Nat.le_trans D.1.1 h)
  intro T hT X
  obtain ⟨v, st₀, t, T', L, h0, X', hL, e1, e2, ⟨⟨v', ws', hv, hq, hP, hK, hD⟩, hz, hk⟩, stp⟩ := hr T hT X
  cases hv
  rw [h0] at hz hk
  obtain ⟨t2, a1, b1⟩ := kk v ws' T'.heap (locs ++ L) hq ⟨⟨Nat.le_trans D.1.1 (by rw [e1]; exact hz), fun q h1 h2 => by rw [e1, hk q (Nat.lt_of_lt_of_le h1 D.1.1) (fun z => h2 (hf q z))]; exact D.1.2.1 q h1 h2, fun q hq => by
      rcases List.mem_append.mp hq with h | h
      · exact D.1.2.2 q h
      · exact hf _ (hL q h)⟩, D.2.1, by rw [e1]; exact hP, hD.weaken (fun _ _ _ h => hf _ h)⟩ T' rfl X'
  exact ⟨t2, stp t2 a1, b1⟩
theorem aw_pre {s : State} {H : Heap} {locs : List Loc} {A : Nat → Prop} (av : List Value) (D : aw_wd g A s H locs ws) : FrameBlind (aw_Pc g av ws H.size) ∧ ∀ U : State, U.heap = H → s.WarmedH U.vm → aw_Pc g av ws H.size av.toArray U :=
  ⟨fun a U gg mk q => by
    obtain ⟨q0, q1, qP, qK, qD⟩ := q
    exact ⟨q0, q1, qP, va_K.moved (u := U) (U := U.calling gg mk a) (Vm.Alike.refl U.vm) qK, qD⟩, fun U hU hW => ⟨rfl, by rw [hU], by rw [hU]; exact D.2.2.1, va_K.moved hW.alike D.2.1, D.2.2.2.weaken (fun _ _ _ _ => trivial)⟩⟩
theorem aw_callS {y2 : MethodName} {cc2 : ByteArray} {nL2 : Nat} {ret2 : Option FieldType} {n d2 mc2 ms2 idx : Nat} {av rest : List Value} {Q2 : Option Value → va_W → Prop} (hM : AMet g y2 cc2 nL2 ret2 d2 av ws Q2 mc2 ms2) (hK : aw_card y2 cc2 nL2 ret2 n) (w1 : Cond.methodLink y.cls idx y2 ∈ aw_WS) (w2 : Cond.static y2 ∈ aw_WS) (hd : decode cc pc = .ok (.invokestatic idx, 3)) (hn : av.length = n) (hR : d2 + 1 ≤ R.frames ∧ 8 + (nL2 + 11) + 48 * d2 ≤ R.locals) (hcat : (rest.map fun v => v.category).sum ≤ 8) (hf : kc + mc2 ≤ R.cells ∧ ks + ms2 ≤ R.slots) {st0 : List Value} (hst : st0 = av.reverse ++ rest) (k : ∀ (v : Option Value) (ws' : va_W), Q2 v ws' → AW g y cc nL ret R E F (kc + mc2) (ks + ms2) (pc + 3) lv (v.toList ++ rest) ws') : AW g y cc nL ret R E F kc ks pc lv st0 ws := by
  intro p e s m args below meth c H locs A ls C D hl
  exact aw_after (va_runS (Ts := aw_WS) (own := y.cls) (As := av) (rest := rest) ⟨C.1, C.2.1, C.2.2.2.1, C.2.2.2.2.1, C.2.2.2.2.2.1⟩ (hM H.size) ⟨callB_of n C.2.2.2.2.2.1 (aw_goodIn y2 cc2 nL2 ret2 hK.1) rfl rfl rfl (C.2.2.2.2.2.1 _ hK.2.1) (C.2.2.2.2.2.1 _ w1) hK.2.2 hR, C.2.2.2.2.2.1 _ w2⟩ (aw_pre av D) rfl hn hl.1 hst (lv_room hcat) hd hf) D C.2.2.2.2.2.2.2.2.1 (fun v ws' H1 locs1 hq D' => k v ws' hq p e s m args below meth c H1 locs1 A ls C D' hl)
theorem aw_callSN {y2 : MethodName} {cc2 : ByteArray} {nL2 : Nat} {ret2 : Option FieldType} {n d2 mc2 ms2 idx : Nat} {av rest : List Value} {Q2 : Option Value → va_W → Prop} {host : String} (hM : AMet g y2 cc2 nL2 ret2 d2 av ws Q2 mc2 ms2) (hK : aw_card y2 cc2 nL2 ret2 n) (w1 : Cond.methodLinkNest y.cls idx y2 host ∈ aw_WS) (w2 : Cond.static y2 ∈ aw_WS) (hd : decode cc pc = .ok (.invokestatic idx, 3)) (hn : av.length = n) (hR : d2 + 1 ≤ R.frames ∧ 8 + (nL2 + 11) + 48 * d2 ≤ R.locals) (hcat : (rest.map fun v => v.category).sum ≤ 8) (hf : kc + mc2 ≤ R.cells ∧ ks + ms2 ≤ R.slots) {st0 : List Value} (hst : st0 = av.reverse ++ rest) (k : ∀ (v : Option Value) (ws' : va_W), Q2 v ws' → AW g y cc nL ret R E F (kc + mc2) (ks + ms2) (pc + 3) lv (v.toList ++ rest) ws') : AW g y cc nL ret R E F kc ks pc lv st0 ws := by
  intro p e s m args below meth c H locs A ls C D hl
  exact aw_after (va_runSN (Ts := aw_WS) (own := y.cls) (As := av) (rest := rest) ⟨C.1, C.2.1, C.2.2.2.1, C.2.2.2.2.1, C.2.2.2.2.2.1⟩ (hM H.size) ⟨va_cnB n C.2.2.2.2.2.1 (aw_goodIn y2 cc2 nL2 ret2 hK.1) rfl rfl rfl (va_Nw.of rfl (C.2.2.2.2.2.1 _ w1)) (C.2.2.2.2.2.1 _ hK.2.1) hK.2.2 hR, C.2.2.2.2.2.1 _ w2, trivial⟩ (aw_pre av D) rfl hn hl.1 hst (lv_room hcat) hd hf) D C.2.2.2.2.2.2.2.2.1 (fun v ws' H1 locs1 hq D' => k v ws' hq p e s m args below meth c H1 locs1 A ls C D' hl)
theorem aw_callV {y2 : MethodName} {cc2 : ByteArray} {nL2 : Nat} {ret2 : Option FieldType} {n d2 mc2 ms2 idx : Nat} {av rest : List Value} {Q2 : Option Value → va_W → Prop} {b : Nat} {ci N q0 : Nat} {Cn : String} {T : u_T} {fs : List Value} (hM : AMet g y2 cc2 nL2 ret2 d2 (.ref b :: av) ws Q2 mc2 ms2) (hK : aw_card y2 cc2 nL2 ret2 n) (w1 : Cond.methodLink y.cls idx y2 ∈ aw_WS) (w2 : Cond.instanceMethod y2 ∈ aw_WS) (w3 : Cond.selects Cn y2 y2 ∈ aw_WS) (hc : vwCl[ci]? = some (Cn, T, N)) (he : ws[q0]? = some (b, .inr (ci, fs))) (hd : decode cc pc = .ok (.invokevirtual idx, 3)) (hn : av.length = n) (hR : d2 + 1 ≤ R.frames ∧ 8 + (nL2 + 11) + 48 * d2 ≤ R.locals) (hcat : (rest.map fun v => v.category).sum ≤ 8) (hf : kc + mc2 ≤ R.cells ∧ ks + ms2 ≤ R.slots) {st0 : List Value} (hst : st0 = av.reverse ++ .ref b :: rest) (k : ∀ (v : Option Value) (ws' : va_W), Q2 v ws' → AW g y cc nL ret R E F (kc + mc2) (ks + ms2) (pc + 3) lv (v.toList ++ rest) ws') : AW g y cc nL ret R E F kc ks pc lv st0 ws := by
  intro p e s m args below meth c H locs A ls C D hl
  exact aw_after (va_runV (Ts := aw_WS) (own := y.cls) (As := av) (rest := rest) ⟨C.1, C.2.1, C.2.2.2.1, C.2.2.2.2.1, C.2.2.2.2.2.1⟩ (hM H.size) ⟨callB_of n C.2.2.2.2.2.1 (aw_goodIn y2 cc2 nL2 ret2 hK.1) rfl rfl rfl (C.2.2.2.2.2.1 _ hK.2.1) (C.2.2.2.2.2.1 _ w1) hK.2.2 hR, C.2.2.2.2.2.1 _ w2, C.2.2.2.2.2.1 _ w3⟩ ⟨(aw_pre (.ref b :: av) D).1, va_recv D.2.1 D.2.2.1 hc he, (aw_pre (.ref b :: av) D).2⟩ rfl hn hl.1 hst (lv_room hcat) hd hf) D C.2.2.2.2.2.2.2.2.1 (fun v ws' H1 locs1 hq D' => k v ws' hq p e s m args below meth c H1 locs1 A ls C D' hl)
theorem aw_callVN {y2 : MethodName} {cc2 : ByteArray} {nL2 : Nat} {ret2 : Option FieldType} {n d2 mc2 ms2 idx : Nat} {av rest : List Value} {Q2 : Option Value → va_W → Prop} {b : Nat} {ci N q0 : Nat} {Cn : String} {T : u_T} {fs : List Value} {host : String} (hM : AMet g y2 cc2 nL2 ret2 d2 (.ref b :: av) ws Q2 mc2 ms2) (hK : aw_card y2 cc2 nL2 ret2 n) (w1 : Cond.methodLinkNest y.cls idx y2 host ∈ aw_WS) (w2 : Cond.instanceMethod y2 ∈ aw_WS) (w3 : Cond.selects Cn y2 y2 ∈ aw_WS) (hc : vwCl[ci]? = some (Cn, T, N)) (he : ws[q0]? = some (b, .inr (ci, fs))) (hd : decode cc pc = .ok (.invokevirtual idx, 3)) (hn : av.length = n) (hR : d2 + 1 ≤ R.frames ∧ 8 + (nL2 + 11) + 48 * d2 ≤ R.locals) (hcat : (rest.map fun v => v.category).sum ≤ 8) (hf : kc + mc2 ≤ R.cells ∧ ks + ms2 ≤ R.slots) {st0 : List Value} (hst : st0 = av.reverse ++ .ref b :: rest) (k : ∀ (v : Option Value) (ws' : va_W), Q2 v ws' → AW g y cc nL ret R E F (kc + mc2) (ks + ms2) (pc + 3) lv (v.toList ++ rest) ws') : AW g y cc nL ret R E F kc ks pc lv st0 ws := by
  intro p e s m args below meth c H locs A ls C D hl
  exact aw_after (va_runVN (Ts := aw_WS) (own := y.cls) (As := av) (rest := rest) ⟨C.1, C.2.1, C.2.2.2.1, C.2.2.2.2.1, C.2.2.2.2.2.1⟩ (hM H.size) ⟨va_cnB n C.2.2.2.2.2.1 (aw_goodIn y2 cc2 nL2 ret2 hK.1) rfl rfl rfl (va_Nw.of rfl (C.2.2.2.2.2.1 _ w1)) (C.2.2.2.2.2.1 _ hK.2.1) hK.2.2 hR, C.2.2.2.2.2.1 _ w2, C.2.2.2.2.2.1 _ w3⟩ ⟨(aw_pre (.ref b :: av) D).1, va_recv D.2.1 D.2.2.1 hc he, (aw_pre (.ref b :: av) D).2⟩ rfl hn hl.1 hst (lv_room hcat) hd hf) D C.2.2.2.2.2.2.2.2.1 (fun v ws' H1 locs1 hq D' => k v ws' hq p e s m args below meth c H1 locs1 A ls C D' hl)
theorem aw_callI {y2 : MethodName} {cc2 : ByteArray} {nL2 : Nat} {n d2 mc2 ms2 idx : Nat} {av rest : List Value} {Q2 : Option Value → va_W → Prop} {b : Nat} (hM : AMet g y2 cc2 nL2 none d2 (.ref b :: av) ws Q2 mc2 ms2) (hK : aw_card y2 cc2 nL2 none n) (w1 : Cond.methodLink y.cls idx y2 ∈ aw_WS) (w2 : Cond.instanceMethod y2 ∈ aw_WS) (hin : y2.name = "<init>") (hd : decode cc pc = .ok (.invokespecial idx, 3)) (hn : av.length = n) (hR : d2 + 1 ≤ R.frames ∧ 8 + (nL2 + 11) + 48 * d2 ≤ R.locals) (hcat : (rest.map fun v => v.category).sum ≤ 8) (hf : kc + mc2 ≤ R.cells ∧ ks + ms2 ≤ R.slots) {st0 : List Value} (hst : st0 = av.reverse ++ .ref b :: rest) (k : ∀ (v : Option Value) (ws' : va_W), Q2 v ws' → AW g y cc nL ret R E F (kc + mc2) (ks + ms2) (pc + 3) lv (v.toList ++ rest) ws') : AW g y cc nL ret R E F kc ks pc lv st0 ws := by
  intro p e s m args below meth c H locs A ls C D hl
  exact aw_after (va_runI (Ts := aw_WS) (own := y.cls) (As := av) (rest := rest) ⟨C.1, C.2.1, C.2.2.2.1, C.2.2.2.2.1, C.2.2.2.2.2.1⟩ (hM H.size) ⟨callB_of n C.2.2.2.2.2.1 (aw_goodIn y2 cc2 nL2 none hK.1) rfl rfl rfl (C.2.2.2.2.2.1 _ hK.2.1) (C.2.2.2.2.2.1 _ w1) hK.2.2 hR, hin, C.2.2.2.2.2.1 _ w2⟩ (aw_pre (.ref b :: av) D) rfl hn hl.1 hst (lv_room hcat) hd hf) D C.2.2.2.2.2.2.2.2.1 (fun v ws' H1 locs1 hq D' => k v ws' hq p e s m args below meth c H1 locs1 A ls C D' hl)
theorem aw_callIN {y2 : MethodName} {cc2 : ByteArray} {nL2 : Nat} {n d2 mc2 ms2 idx : Nat} {av rest : List Value} {Q2 : Option Value → va_W → Prop} {b : Nat} {host : String} (hM : AMet g y2 cc2 nL2 none d2 (.ref b :: av) ws Q2 mc2 ms2) (hK : aw_card y2 cc2 nL2 none n) (w1 : Cond.methodLinkNest y.cls idx y2 host ∈ aw_WS) (w2 : Cond.instanceMethod y2 ∈ aw_WS) (hin : y2.name = "<init>") (hd : decode cc pc = .ok (.invokespecial idx, 3)) (hn : av.length = n) (hR : d2 + 1 ≤ R.frames ∧ 8 + (nL2 + 11) + 48 * d2 ≤ R.locals) (hcat : (rest.map fun v => v.category).sum ≤ 8) (hf : kc + mc2 ≤ R.cells ∧ ks + ms2 ≤ R.slots) {st0 : List Value} (hst : st0 = av.reverse ++ .ref b :: rest) (k : ∀ (v : Option Value) (ws' : va_W), Q2 v ws' → AW g y cc nL ret R E F (kc + mc2) (ks + ms2) (pc + 3) lv (v.toList ++ rest) ws') : AW g y cc nL ret R E F kc ks pc lv st0 ws := by
  intro p e s m args below meth c H locs A ls C D hl
  exact aw_after (va_runIN (Ts := aw_WS) (own := y.cls) (As := av) (rest := rest) ⟨C.1, C.2.1, C.2.2.2.1, C.2.2.2.2.1, C.2.2.2.2.2.1⟩ (hM H.size) ⟨va_cnB n C.2.2.2.2.2.1 (aw_goodIn y2 cc2 nL2 none hK.1) rfl rfl rfl (va_Nw.of rfl (C.2.2.2.2.2.1 _ w1)) (C.2.2.2.2.2.1 _ hK.2.1) hK.2.2 hR, hin, C.2.2.2.2.2.1 _ w2⟩ (aw_pre (.ref b :: av) D) rfl hn hl.1 hst (lv_room hcat) hd hf) D C.2.2.2.2.2.2.2.2.1 (fun v ws' H1 locs1 hq D' => k v ws' hq p e s m args below meth c H1 locs1 A ls C D' hl)
def aw_EX (b L : Nat) (xs : Nat → Int32) : (Nat → Prop) → State → Array Value → Prop := fun A s args => va_X b L xs s s.heap ∧ b < s.heap.size ∧ ¬ A b ∧ args = #[Value.ref b] ∧ ∀ q, A q → s.heap.size ≤ q
theorem aw_sld {b L : Nat} {xs : Nat → Int32} {i : Int32} (hd : decode cc pc = .ok (.iaload, 1)) (hin : vp_in i L) (k : AW g y cc nL ret R (aw_EX b L xs) F kc ks (pc + 1) lv (.int (xs i.toNatClampNeg) :: st) ws) : AW g y cc nL ret R (aw_EX b L xs) F kc ks pc lv (.int i :: .ref b :: st) ws :=
  fun p e s m args below meth c H locs A ls C D hl => va_sld C.1 C.2.1 C.2.2.2.2.2.2.2.2.2.1 C.2.2.2.2.2.2.2.2.2.2.1 C.2.2.2.2.2.2.2.2.2.2.2.1 D.1 hin hd (k p e s m args below meth c H locs A ls C D hl)
theorem aw_slen {b L : Nat} {xs : Nat → Int32} (hd : decode cc pc = .ok (.arraylength, 1)) (k : AW g y cc nL ret R (aw_EX b L xs) F kc ks (pc + 1) lv (.int (Int32.ofNat L) :: st) ws) : AW g y cc nL ret R (aw_EX b L xs) F kc ks pc lv (.ref b :: st) ws :=
  fun p e s m args below meth c H locs A ls C D hl => va_slen C.1 C.2.1 C.2.2.2.2.2.2.2.2.2.1 C.2.2.2.2.2.2.2.2.2.2.1 C.2.2.2.2.2.2.2.2.2.2.2.1 D.1 hd (k p e s m args below meth c H locs A ls C D hl)
theorem aw_tableOut {dflt lo hi : Int} {offs : Array Int} {len : Nat} {x : Int32} {tgt : Nat} (hd : decode cc pc = .ok (.tableswitch dflt lo hi offs, len)) (h : x.toInt < lo ∨ hi < x.toInt) (ht : (pc : Int) + dflt = (tgt : Int)) (k : AW g y cc nL ret R E F kc ks tgt lv st ws) : AW g y cc nL ret R E F kc ks pc lv (.int x :: st) ws :=
  fun p e s m args below meth c H locs A ls C D hl => lv_tableOut C.1 C.2.1 hd h ht (k p e s m args below meth c H locs A ls C D hl)
theorem aw_tableIn {dflt lo hi off : Int} {offs : Array Int} {len : Nat} {x : Int32} {tgt : Nat} (hd : decode cc pc = .ok (.tableswitch dflt lo hi offs, len)) (h1 : ¬ x.toInt < lo) (h2 : ¬ hi < x.toInt) (ho : offs[(x.toInt - lo).toNat]? = some off) (ht : (pc : Int) + off = (tgt : Int)) (k : AW g y cc nL ret R E F kc ks tgt lv st ws) : AW g y cc nL ret R E F kc ks pc lv (.int x :: st) ws :=
  fun p e s m args below meth c H locs A ls C D hl => lv_tableIn C.1 C.2.1 hd h1 h2 ho ht (k p e s m args below meth c H locs A ls C D hl)
def bI (b : Bool) : Int32 := if b then 1 else 0
def lI (z : Int) : Int64 := Int64.ofInt z
def fup {α : Type} (f : Nat → α) (k : Nat) (x : α) : Nat → α := fun j => if j = k then x else f j
theorem fup_s {α : Type} (f : Nat → α) (k : Nat) (x : α) : fup f k x k = x := if_pos rfl
theorem fup_n {α : Type} {f : Nat → α} {k j : Nat} {x : α} (h : j ≠ k) : fup f k x j = f j := if_neg h
theorem aw_setS {ws : va_W} {q0 : Nat} {x z : Nat × va_E} (he : ws[q0]? = some x) : (ws.set q0 z)[q0]? = some z := by
  rw [List.getElem?_set_self]
  exact (List.getElem?_eq_some_iff.mp he).1
theorem aw_setN {ws : va_W} {q0 : Nat} {z : Nat × va_E} : ∀ j, j ≠ q0 → (ws.set q0 z)[j]? = ws[j]? := fun j h => List.getElem?_set_ne (Ne.symm h)
theorem upd_fup (f : Nat → Int32) (k : Nat) (x : Int32) : upd f k x = fup f k x := rfl
theorem updL_fup (f : Nat → Int64) (k : Nat) (x : Int64) : vp_updL f k x = fup f k x := rfl
theorem aw_nmi {x z : Int32} (h : x = z) (k : AW g y cc nL ret R E F kc ks pc lv (.int z :: st) ws) : AW g y cc nL ret R E F kc ks pc lv (.int x :: st) ws := by rw [h]; exact k
theorem aw_nml {x z : Int64} (h : x = z) (k : AW g y cc nL ret R E F kc ks pc lv (.long z :: st) ws) : AW g y cc nL ret R E F kc ks pc lv (.long x :: st) ws := by rw [h]; exact k
theorem aw_iinc1 {i a : Nat} {lv' : List (Nat × Value)} (hd : decode cc pc = .ok (.iinc i 1, 3)) (hj : lv.lookup i = some (.int (nI a))) (hn : i < nL) (hl' : aw_st1 lv i (.int (nI (a + 1))) = lv') (k : AW g y cc nL ret R E F kc ks (pc + 3) lv' st ws) : AW g y cc nL ret R E F kc ks pc lv st ws :=
  aw_iinc hd hj (nI_1 a) hn hl' k
theorem aw_putN {ci N index a : Nat} {Cn : String} {T : u_T} {ty : Nat → FieldType} {fs : List Value} {v : Value} (K : aw_cc ci Cn T N ty) (i : Nat) (hi : i < N) (hw : Cond.fieldLink y.cls index (T i).1 (T i).2.1 (T i).2.2.1 ∈ aw_WS) (hd : decode cc pc = .ok (.putfield index, 3)) {q0 : Nat} (he : ws[q0]? = some (a, .inr (ci, fs))) (hfin : (T i).2.2.2 = false) (hn : narrow (ty i) v = v) (hfit : fits (ty i) v = true) (hlen : i < fs.length) (k : ∀ ws' : va_W, ws'[q0]? = some (a, .inr (ci, fs.set i v)) → (∀ j, j ≠ q0 → ws'[j]? = ws[j]?) → ws'.length = ws.length → AW g y cc nL ret R E F kc ks (pc + 3) lv st ws') : AW g y cc nL ret R E F kc ks pc lv (v :: .ref a :: st) ws :=
  aw_put K i hi hw hd he hfin hn hfit hlen (k _ (aw_setS he) aw_setN List.length_set)
theorem aw_putFN {ci N index a : Nat} {Cn : String} {T : u_T} {ty : Nat → FieldType} {fs : List Value} {v : Value} (K : aw_cc ci Cn T N ty) (i : Nat) (hi : i < N) (hw : Cond.fieldLink y.cls index (T i).1 (T i).2.1 (T i).2.2.1 ∈ aw_WS) (hd : decode cc pc = .ok (.putfield index, 3)) {q0 : Nat} (he : ws[q0]? = some (a, .inr (ci, fs))) (hfin : (T i).2.2.2 = true) (hin : y.name = "<init>") (hde : (T i).1 = y.cls) (hn : narrow (ty i) v = v) (hfit : fits (ty i) v = true) (hlen : i < fs.length) (k : ∀ ws' : va_W, ws'[q0]? = some (a, .inr (ci, fs.set i v)) → (∀ j, j ≠ q0 → ws'[j]? = ws[j]?) → ws'.length = ws.length → AW g y cc nL ret R E F kc ks (pc + 3) lv st ws') : AW g y cc nL ret R E F kc ks pc lv (v :: .ref a :: st) ws :=
  aw_putF K i hi hw hd he hfin hin hde hn hfit hlen (k _ (aw_setS he) aw_setN List.length_set)
theorem aw_ialdN {a n t0 q0 j : Nat} {cA : ClassId} {f : Nat → Int32} (hd : decode cc pc = .ok (.iaload, 1)) (he : ws[q0]? = some (a, .inl (cA, n, .inl f))) (ht : g.2.2[t0]? = some (cA, .int)) (hj : j < n) (hn : n < 2 ^ 31) (k : AW g y cc nL ret R E F kc ks (pc + 1) lv (.int (f j) :: st) ws) : AW g y cc nL ret R E F kc ks pc lv (.int (nI j) :: .ref a :: st) ws :=
  aw_iald hd he ht (vp_in_nI hj hn) (by rw [nI_clamp (Nat.lt_trans hj hn)]; exact k)
theorem aw_iastN {a n t0 q0 j : Nat} {cA : ClassId} {f : Nat → Int32} {x : Int32} (hd : decode cc pc = .ok (.iastore, 1)) (he : ws[q0]? = some (a, .inl (cA, n, .inl f))) (ht : g.2.2[t0]? = some (cA, .int)) (hj : j < n) (hn : n < 2 ^ 31) (k : ∀ ws' : va_W, ws'[q0]? = some (a, .inl (cA, n, .inl (fup f j x))) → (∀ j, j ≠ q0 → ws'[j]? = ws[j]?) → ws'.length = ws.length → AW g y cc nL ret R E F kc ks (pc + 1) lv st ws') : AW g y cc nL ret R E F kc ks pc lv (.int x :: .int (nI j) :: .ref a :: st) ws :=
  aw_iast hd he ht (vp_in_nI hj hn) (by rw [nI_clamp (Nat.lt_trans hj hn)]; exact k _ (aw_setS he) aw_setN List.length_set)
theorem aw_laldN {a n t0 q0 j : Nat} {cA : ClassId} {f : Nat → Int64} (hd : decode cc pc = .ok (.laload, 1)) (he : ws[q0]? = some (a, .inl (cA, n, .inr (.inl f)))) (ht : g.2.2[t0]? = some (cA, .long)) (hj : j < n) (hn : n < 2 ^ 31) (k : AW g y cc nL ret R E F kc ks (pc + 1) lv (.long (f j) :: st) ws) : AW g y cc nL ret R E F kc ks pc lv (.int (nI j) :: .ref a :: st) ws :=
  aw_lald hd he ht (vp_in_nI hj hn) (by rw [nI_clamp (Nat.lt_trans hj hn)]; exact k)
theorem aw_lastN {a n t0 q0 j : Nat} {cA : ClassId} {f : Nat → Int64} {x : Int64} (hd : decode cc pc = .ok (.lastore, 1)) (he : ws[q0]? = some (a, .inl (cA, n, .inr (.inl f)))) (ht : g.2.2[t0]? = some (cA, .long)) (hj : j < n) (hn : n < 2 ^ 31) (k : ∀ ws' : va_W, ws'[q0]? = some (a, .inl (cA, n, .inr (.inl (fup f j x)))) → (∀ j, j ≠ q0 → ws'[j]? = ws[j]?) → ws'.length = ws.length → AW g y cc nL ret R E F kc ks (pc + 1) lv st ws') : AW g y cc nL ret R E F kc ks pc lv (.long x :: .int (nI j) :: .ref a :: st) ws :=
  aw_last hd he ht (vp_in_nI hj hn) (by rw [nI_clamp (Nat.lt_trans hj hn)]; exact k _ (aw_setS he) aw_setN List.length_set)
theorem aw_aaldN {a n t0 q0 b j : Nat} {cA : ClassId} {t : FieldType} {f : Nat → Option Nat} (hd : decode cc pc = .ok (.aaload, 1)) (he : ws[q0]? = some (a, .inl (cA, n, .inr (.inr (.inr (.inr f)))))) (ht : g.2.2[t0]? = some (cA, .array t)) (hj : j < n) (hn : n < 2 ^ 31) (hf : f j = some b) (k : AW g y cc nL ret R E F kc ks (pc + 1) lv (.ref b :: st) ws) : AW g y cc nL ret R E F kc ks pc lv (.int (nI j) :: .ref a :: st) ws :=
  aw_aald hd he ht (vp_in_nI hj hn) (by rw [nI_clamp (Nat.lt_trans hj hn)]; exact hf) k
theorem aw_icmp_eqN {a b : Nat} {off : Int} {tgt : Nat} (hd : decode cc pc = .ok (.if_icmp .eq off, 3)) (ht : (pc : Int) + off = (tgt : Int)) (ha : a < 2 ^ 31) (hb : b < 2 ^ 31) (kt : a = b → AW g y cc nL ret R E F kc ks tgt lv st ws) (kf : ¬ a = b → AW g y cc nL ret R E F kc ks (pc + 3) lv st ws) : AW g y cc nL ret R E F kc ks pc lv (.int (nI b) :: .int (nI a) :: st) ws :=
  aw_icmp_eq hd ht (fun h => kt ((nI_eq ha hb).mp h)) (fun h => kf (fun q => h ((nI_eq ha hb).mpr q)))
theorem aw_icmp_neN {a b : Nat} {off : Int} {tgt : Nat} (hd : decode cc pc = .ok (.if_icmp .ne off, 3)) (ht : (pc : Int) + off = (tgt : Int)) (ha : a < 2 ^ 31) (hb : b < 2 ^ 31) (kt : ¬ a = b → AW g y cc nL ret R E F kc ks tgt lv st ws) (kf : a = b → AW g y cc nL ret R E F kc ks (pc + 3) lv st ws) : AW g y cc nL ret R E F kc ks pc lv (.int (nI b) :: .int (nI a) :: st) ws :=
  aw_icmp_ne hd ht (fun h => kt (fun q => h ((nI_eq ha hb).mpr q))) (fun h => kf ((nI_eq ha hb).mp h))
theorem aw_icmp_ltN {a b : Nat} {off : Int} {tgt : Nat} (hd : decode cc pc = .ok (.if_icmp .lt off, 3)) (ht : (pc : Int) + off = (tgt : Int)) (ha : a < 2 ^ 31) (hb : b < 2 ^ 31) (kt : a < b → AW g y cc nL ret R E F kc ks tgt lv st ws) (kf : b ≤ a → AW g y cc nL ret R E F kc ks (pc + 3) lv st ws) : AW g y cc nL ret R E F kc ks pc lv (.int (nI b) :: .int (nI a) :: st) ws :=
  aw_icmp_lt hd ht (fun h => kt ((nI_ltI ha hb).mp h)) (fun h => kf (Nat.not_lt.mp (fun q => h ((nI_ltI ha hb).mpr q))))
theorem aw_icmp_geN {a b : Nat} {off : Int} {tgt : Nat} (hd : decode cc pc = .ok (.if_icmp .ge off, 3)) (ht : (pc : Int) + off = (tgt : Int)) (ha : a < 2 ^ 31) (hb : b < 2 ^ 31) (kt : b ≤ a → AW g y cc nL ret R E F kc ks tgt lv st ws) (kf : a < b → AW g y cc nL ret R E F kc ks (pc + 3) lv st ws) : AW g y cc nL ret R E F kc ks pc lv (.int (nI b) :: .int (nI a) :: st) ws :=
  aw_icmp_ge hd ht (fun h => kt ((nI_leI hb ha).mp h)) (fun h => kf (Nat.not_le.mp (fun q => h ((nI_leI hb ha).mpr q))))
theorem aw_icmp_gtN {a b : Nat} {off : Int} {tgt : Nat} (hd : decode cc pc = .ok (.if_icmp .gt off, 3)) (ht : (pc : Int) + off = (tgt : Int)) (ha : a < 2 ^ 31) (hb : b < 2 ^ 31) (kt : b < a → AW g y cc nL ret R E F kc ks tgt lv st ws) (kf : a ≤ b → AW g y cc nL ret R E F kc ks (pc + 3) lv st ws) : AW g y cc nL ret R E F kc ks pc lv (.int (nI b) :: .int (nI a) :: st) ws :=
  aw_icmp_gt hd ht (fun h => kt ((nI_ltI hb ha).mp h)) (fun h => kf (Nat.not_lt.mp (fun q => h ((nI_ltI hb ha).mpr q))))
theorem aw_icmp_leN {a b : Nat} {off : Int} {tgt : Nat} (hd : decode cc pc = .ok (.if_icmp .le off, 3)) (ht : (pc : Int) + off = (tgt : Int)) (ha : a < 2 ^ 31) (hb : b < 2 ^ 31) (kt : a ≤ b → AW g y cc nL ret R E F kc ks tgt lv st ws) (kf : b < a → AW g y cc nL ret R E F kc ks (pc + 3) lv st ws) : AW g y cc nL ret R E F kc ks pc lv (.int (nI b) :: .int (nI a) :: st) ws :=
  aw_icmp_le hd ht (fun h => kt ((nI_leI ha hb).mp h)) (fun h => kf (Nat.not_le.mp (fun q => h ((nI_leI ha hb).mpr q))))
theorem aw_if_eqN {a : Nat} {off : Int} {tgt : Nat} (hd : decode cc pc = .ok (.ifCond .eq off, 3)) (ht : (pc : Int) + off = (tgt : Int)) (ha : a < 2 ^ 31) (kt : a = 0 → AW g y cc nL ret R E F kc ks tgt lv st ws) (kf : ¬ a = 0 → AW g y cc nL ret R E F kc ks (pc + 3) lv st ws) : AW g y cc nL ret R E F kc ks pc lv (.int (nI a) :: st) ws :=
  aw_if_eq hd ht (fun h => kt ((nI_eq ha (by decide)).mp (h.trans nI_0.symm))) (fun h => kf (fun q => h (by rw [q]; exact nI_0)))
theorem aw_if_neN {a : Nat} {off : Int} {tgt : Nat} (hd : decode cc pc = .ok (.ifCond .ne off, 3)) (ht : (pc : Int) + off = (tgt : Int)) (ha : a < 2 ^ 31) (kt : ¬ a = 0 → AW g y cc nL ret R E F kc ks tgt lv st ws) (kf : a = 0 → AW g y cc nL ret R E F kc ks (pc + 3) lv st ws) : AW g y cc nL ret R E F kc ks pc lv (.int (nI a) :: st) ws :=
  aw_if_ne hd ht (fun h => kt (fun q => h (by rw [q]; exact nI_0))) (fun h => kf ((nI_eq ha (by decide)).mp (h.trans nI_0.symm)))
theorem aw_if_gtN {a : Nat} {off : Int} {tgt : Nat} (hd : decode cc pc = .ok (.ifCond .gt off, 3)) (ht : (pc : Int) + off = (tgt : Int)) (ha : a < 2 ^ 31) (kt : 0 < a → AW g y cc nL ret R E F kc ks tgt lv st ws) (kf : a = 0 → AW g y cc nL ret R E F kc ks (pc + 3) lv st ws) : AW g y cc nL ret R E F kc ks pc lv (.int (nI a) :: st) ws :=
  aw_if_gt hd ht (fun h => kt ((nI_ltI (by decide) ha).mp (by rw [nI_0]; exact h))) (fun h => kf (Nat.eq_zero_of_not_pos (fun q => h (by rw [← nI_0]; exact (nI_ltI (by decide) ha).mpr q))))
theorem aw_if_leN {a : Nat} {off : Int} {tgt : Nat} (hd : decode cc pc = .ok (.ifCond .le off, 3)) (ht : (pc : Int) + off = (tgt : Int)) (ha : a < 2 ^ 31) (kt : a = 0 → AW g y cc nL ret R E F kc ks tgt lv st ws) (kf : 0 < a → AW g y cc nL ret R E F kc ks (pc + 3) lv st ws) : AW g y cc nL ret R E F kc ks pc lv (.int (nI a) :: st) ws :=
  aw_if_le hd ht (fun h => kt (by have q := (nI_leI ha (b := 0) (by decide)).mp (by rw [nI_0]; exact h); omega)) (fun h => kf (Nat.pos_of_ne_zero (fun q => h (by rw [q, nI_0]; exact Int32.le_refl 0))))
theorem aw_if_eqB {b : Bool} {off : Int} {tgt : Nat} (hd : decode cc pc = .ok (.ifCond .eq off, 3)) (ht : (pc : Int) + off = (tgt : Int)) (kt : b = false → AW g y cc nL ret R E F kc ks tgt lv st ws) (kf : b = true → AW g y cc nL ret R E F kc ks (pc + 3) lv st ws) : AW g y cc nL ret R E F kc ks pc lv (.int (bI b) :: st) ws :=
  aw_if_eq hd ht (fun h => kt (by cases b <;> simp_all [bI])) (fun h => kf (by cases b <;> simp_all [bI]))
theorem aw_if_neB {b : Bool} {off : Int} {tgt : Nat} (hd : decode cc pc = .ok (.ifCond .ne off, 3)) (ht : (pc : Int) + off = (tgt : Int)) (kt : b = true → AW g y cc nL ret R E F kc ks tgt lv st ws) (kf : b = false → AW g y cc nL ret R E F kc ks (pc + 3) lv st ws) : AW g y cc nL ret R E F kc ks pc lv (.int (bI b) :: st) ws :=
  aw_if_ne hd ht (fun h => kt (by cases b <;> simp_all [bI])) (fun h => kf (by cases b <;> simp_all [bI]))
end AWR
end
