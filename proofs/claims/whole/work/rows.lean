section
-- ===== PART A: goes FIRST, ahead of the names: the tables' words, and 'selects' of the private methods out of them =====
/-- a private method of a class that the tables say can be made, by its rows of tables_1 -/
def lw_okq (q : MethodName × Nat) : Prop := (q.1.cls ≠ "java/lang/invoke/MethodHandle" ∧ q.1.cls ≠ "java/lang/invoke/VarHandle") ∧ Cond.instantiable q.1.cls q.2 ∈ tables_1 ∧ Cond.privateMethod q.1 ∈ tables_1 ∧ Cond.instanceMethod q.1 ∈ tables_1
theorem lw_p0 : lw_okq (⟨"WalkRanks", "renew", "()V"⟩, 6) := ⟨⟨by decide +kernel, by decide +kernel⟩, List.mem_of_getElem? (i := 9) (by decide +kernel), List.mem_of_getElem? (i := 175) (by decide +kernel), List.mem_of_getElem? (i := 176) (by decide +kernel)⟩
theorem lw_p1 : lw_okq (⟨"WalkRanks$Steps", "fillParts", "(LWalkRanks$Graph;II)V"⟩, 4) := ⟨⟨by decide +kernel, by decide +kernel⟩, List.mem_of_getElem? (i := 54) (by decide +kernel), List.mem_of_getElem? (i := 187) (by decide +kernel), List.mem_of_getElem? (i := 188) (by decide +kernel)⟩
theorem lw_p2 : lw_okq (⟨"WalkRanks$Steps", "lowerParts", "(I)V"⟩, 4) := ⟨⟨by decide +kernel, by decide +kernel⟩, List.mem_of_getElem? (i := 54) (by decide +kernel), List.mem_of_getElem? (i := 195) (by decide +kernel), List.mem_of_getElem? (i := 196) (by decide +kernel)⟩
theorem lw_p3 : lw_okq (⟨"WalkRanks$Steps", "sumUp", "(I)V"⟩, 4) := ⟨⟨by decide +kernel, by decide +kernel⟩, List.mem_of_getElem? (i := 54) (by decide +kernel), List.mem_of_getElem? (i := 202) (by decide +kernel), List.mem_of_getElem? (i := 203) (by decide +kernel)⟩
theorem lw_p4 : lw_okq (⟨"WalkRanks$Steps", "nextOf", "(I)I"⟩, 4) := ⟨⟨by decide +kernel, by decide +kernel⟩, List.mem_of_getElem? (i := 54) (by decide +kernel), List.mem_of_getElem? (i := 217) (by decide +kernel), List.mem_of_getElem? (i := 218) (by decide +kernel)⟩
theorem lw_p5 : lw_okq (⟨"WalkRanks$ClosedSets", "isClosedFrom", "(I)Z"⟩, 6) := ⟨⟨by decide +kernel, by decide +kernel⟩, List.mem_of_getElem? (i := 83) (by decide +kernel), List.mem_of_getElem? (i := 225) (by decide +kernel), List.mem_of_getElem? (i := 226) (by decide +kernel)⟩
theorem lw_p6 : lw_okq (⟨"WalkRanks$ClosedSets", "addSet", "(I)V"⟩, 6) := ⟨⟨by decide +kernel, by decide +kernel⟩, List.mem_of_getElem? (i := 83) (by decide +kernel), List.mem_of_getElem? (i := 234) (by decide +kernel), List.mem_of_getElem? (i := 235) (by decide +kernel)⟩
theorem lw_p7 : lw_okq (⟨"WalkRanks", "isNode", "(I)Z"⟩, 6) := ⟨⟨by decide +kernel, by decide +kernel⟩, List.mem_of_getElem? (i := 9) (by decide +kernel), List.mem_of_getElem? (i := 243) (by decide +kernel), List.mem_of_getElem? (i := 244) (by decide +kernel)⟩
theorem lw_p8 : lw_okq (⟨"WalkRanks", "isSet", "(I)Z"⟩, 6) := ⟨⟨by decide +kernel, by decide +kernel⟩, List.mem_of_getElem? (i := 9) (by decide +kernel), List.mem_of_getElem? (i := 279) (by decide +kernel), List.mem_of_getElem? (i := 280) (by decide +kernel)⟩
theorem lw_p9 : lw_okq (⟨"WalkRanks", "fillShares", "(I)J"⟩, 6) := ⟨⟨by decide +kernel, by decide +kernel⟩, List.mem_of_getElem? (i := 9) (by decide +kernel), List.mem_of_getElem? (i := 297) (by decide +kernel), List.mem_of_getElem? (i := 298) (by decide +kernel)⟩
theorem lw_p10 : lw_okq (⟨"WalkRanks", "nodesAhead", "(I)I"⟩, 6) := ⟨⟨by decide +kernel, by decide +kernel⟩, List.mem_of_getElem? (i := 9) (by decide +kernel), List.mem_of_getElem? (i := 323) (by decide +kernel), List.mem_of_getElem? (i := 324) (by decide +kernel)⟩
theorem lw_p11 : lw_okq (⟨"WalkRanks", "chanceToCome", "(III)J"⟩, 6) := ⟨⟨by decide +kernel, by decide +kernel⟩, List.mem_of_getElem? (i := 9) (by decide +kernel), List.mem_of_getElem? (i := 331) (by decide +kernel), List.mem_of_getElem? (i := 332) (by decide +kernel)⟩
theorem lw_p12 : lw_okq (⟨"WalkRanks$Spread", "move", "()V"⟩, 4) := ⟨⟨by decide +kernel, by decide +kernel⟩, List.mem_of_getElem? (i := 128) (by decide +kernel), List.mem_of_getElem? (i := 373) (by decide +kernel), List.mem_of_getElem? (i := 374) (by decide +kernel)⟩
theorem lw_p13 : lw_okq (⟨"WalkRanksModel", "isNode", "(I)Z"⟩, 17) := ⟨⟨by decide +kernel, by decide +kernel⟩, List.mem_of_getElem? (i := 399) (by decide +kernel), List.mem_of_getElem? (i := 465) (by decide +kernel), List.mem_of_getElem? (i := 466) (by decide +kernel)⟩
theorem lw_p14 : lw_okq (⟨"WalkRanksModel", "findRows", "()V"⟩, 17) := ⟨⟨by decide +kernel, by decide +kernel⟩, List.mem_of_getElem? (i := 399) (by decide +kernel), List.mem_of_getElem? (i := 485) (by decide +kernel), List.mem_of_getElem? (i := 486) (by decide +kernel)⟩
theorem lw_p15 : lw_okq (⟨"WalkRanksModel", "findSets", "()V"⟩, 17) := ⟨⟨by decide +kernel, by decide +kernel⟩, List.mem_of_getElem? (i := 399) (by decide +kernel), List.mem_of_getElem? (i := 500) (by decide +kernel), List.mem_of_getElem? (i := 501) (by decide +kernel)⟩
def lw_privs_1 : List (MethodName × Nat) := [(⟨"WalkRanks", "renew", "()V"⟩, 6), (⟨"WalkRanks$Steps", "fillParts", "(LWalkRanks$Graph;II)V"⟩, 4), (⟨"WalkRanks$Steps", "lowerParts", "(I)V"⟩, 4), (⟨"WalkRanks$Steps", "sumUp", "(I)V"⟩, 4), (⟨"WalkRanks$Steps", "nextOf", "(I)I"⟩, 4), (⟨"WalkRanks$ClosedSets", "isClosedFrom", "(I)Z"⟩, 6), (⟨"WalkRanks$ClosedSets", "addSet", "(I)V"⟩, 6), (⟨"WalkRanks", "isNode", "(I)Z"⟩, 6), (⟨"WalkRanks", "isSet", "(I)Z"⟩, 6), (⟨"WalkRanks", "fillShares", "(I)J"⟩, 6), (⟨"WalkRanks", "nodesAhead", "(I)I"⟩, 6), (⟨"WalkRanks", "chanceToCome", "(III)J"⟩, 6), (⟨"WalkRanks$Spread", "move", "()V"⟩, 4), (⟨"WalkRanksModel", "isNode", "(I)Z"⟩, 17), (⟨"WalkRanksModel", "findRows", "()V"⟩, 17), (⟨"WalkRanksModel", "findSets", "()V"⟩, 17)]
theorem lw_r1 : ∀ q ∈ lw_privs_1, lw_okq q := List.forall_mem_cons.mpr ⟨lw_p0, List.forall_mem_cons.mpr ⟨lw_p1, List.forall_mem_cons.mpr ⟨lw_p2, List.forall_mem_cons.mpr ⟨lw_p3, List.forall_mem_cons.mpr ⟨lw_p4, List.forall_mem_cons.mpr ⟨lw_p5, List.forall_mem_cons.mpr ⟨lw_p6, List.forall_mem_cons.mpr ⟨lw_p7, List.forall_mem_cons.mpr ⟨lw_p8, List.forall_mem_cons.mpr ⟨lw_p9, List.forall_mem_cons.mpr ⟨lw_p10, List.forall_mem_cons.mpr ⟨lw_p11, List.forall_mem_cons.mpr ⟨lw_p12, List.forall_mem_cons.mpr ⟨lw_p13, List.forall_mem_cons.mpr ⟨lw_p14, List.forall_mem_cons.mpr ⟨lw_p15, fun _ h => absurd h List.not_mem_nil⟩⟩⟩⟩⟩⟩⟩⟩⟩⟩⟩⟩⟩⟩⟩⟩
theorem lw_p16 : lw_okq (⟨"WalkRanksModel", "isClosed", "(I)Z"⟩, 17) := ⟨⟨by decide +kernel, by decide +kernel⟩, List.mem_of_getElem? (i := 399) (by decide +kernel), List.mem_of_getElem? (i := 504) (by decide +kernel), List.mem_of_getElem? (i := 505) (by decide +kernel)⟩
theorem lw_p17 : lw_okq (⟨"WalkRanksModel", "reached", "(II)I"⟩, 17) := ⟨⟨by decide +kernel, by decide +kernel⟩, List.mem_of_getElem? (i := 399) (by decide +kernel), List.mem_of_getElem? (i := 508) (by decide +kernel), List.mem_of_getElem? (i := 509) (by decide +kernel)⟩
theorem lw_p18 : lw_okq (⟨"WalkRanksModel", "leads", "(II)Z"⟩, 17) := ⟨⟨by decide +kernel, by decide +kernel⟩, List.mem_of_getElem? (i := 399) (by decide +kernel), List.mem_of_getElem? (i := 512) (by decide +kernel), List.mem_of_getElem? (i := 513) (by decide +kernel)⟩
theorem lw_p19 : lw_okq (⟨"WalkRanksModel", "findShares", "(I)V"⟩, 17) := ⟨⟨by decide +kernel, by decide +kernel⟩, List.mem_of_getElem? (i := 399) (by decide +kernel), List.mem_of_getElem? (i := 534) (by decide +kernel), List.mem_of_getElem? (i := 535) (by decide +kernel)⟩
theorem lw_p20 : lw_okq (⟨"WalkRanksModel", "count", "(IIII)V"⟩, 17) := ⟨⟨by decide +kernel, by decide +kernel⟩, List.mem_of_getElem? (i := 399) (by decide +kernel), List.mem_of_getElem? (i := 538) (by decide +kernel), List.mem_of_getElem? (i := 539) (by decide +kernel)⟩
theorem lw_p21 : lw_okq (⟨"WalkRanksModel", "rootOf", "(II)I"⟩, 17) := ⟨⟨by decide +kernel, by decide +kernel⟩, List.mem_of_getElem? (i := 399) (by decide +kernel), List.mem_of_getElem? (i := 542) (by decide +kernel), List.mem_of_getElem? (i := 543) (by decide +kernel)⟩
theorem lw_p22 : lw_okq (⟨"WalkRanksModel", "all", "()I"⟩, 17) := ⟨⟨by decide +kernel, by decide +kernel⟩, List.mem_of_getElem? (i := 399) (by decide +kernel), List.mem_of_getElem? (i := 557) (by decide +kernel), List.mem_of_getElem? (i := 558) (by decide +kernel)⟩
def lw_privs_2 : List (MethodName × Nat) := [(⟨"WalkRanksModel", "isClosed", "(I)Z"⟩, 17), (⟨"WalkRanksModel", "reached", "(II)I"⟩, 17), (⟨"WalkRanksModel", "leads", "(II)Z"⟩, 17), (⟨"WalkRanksModel", "findShares", "(I)V"⟩, 17), (⟨"WalkRanksModel", "count", "(IIII)V"⟩, 17), (⟨"WalkRanksModel", "rootOf", "(II)I"⟩, 17), (⟨"WalkRanksModel", "all", "()I"⟩, 17)]
theorem lw_r2 : ∀ q ∈ lw_privs_2, lw_okq q := List.forall_mem_cons.mpr ⟨lw_p16, List.forall_mem_cons.mpr ⟨lw_p17, List.forall_mem_cons.mpr ⟨lw_p18, List.forall_mem_cons.mpr ⟨lw_p19, List.forall_mem_cons.mpr ⟨lw_p20, List.forall_mem_cons.mpr ⟨lw_p21, List.forall_mem_cons.mpr ⟨lw_p22, fun _ h => absurd h List.not_mem_nil⟩⟩⟩⟩⟩⟩⟩
def lw_privs : List (MethodName × Nat) := lw_privs_1 ++ (lw_privs_2)
def lw_tbl : List Cond := k2_sels lw_privs ++ tables_1
theorem lw_privs_ok : ∀ q ∈ lw_privs, lw_okq q := by
  show ∀ q ∈ lw_privs_1 ++ (lw_privs_2), lw_okq q
  exact List.forall_mem_append.mpr ⟨lw_r1, lw_r2⟩
def r_W : String := "WalkRanks"
def f_W : u_T := fun k => match k with
  | 0 => ("WalkRanks", "graph", "LWalkRanks$Graph;", true)
  | 1 => ("WalkRanks", "steps", "LWalkRanks$Steps;", true)
  | 2 => ("WalkRanks", "sets", "LWalkRanks$ClosedSets;", true)
  | 3 => ("WalkRanks", "equations", "LWalkRanks$Equations;", true)
  | 4 => ("WalkRanks", "spread", "LWalkRanks$Spread;", true)
  | _ => ("WalkRanks", "shares", "[J", true)
def t_W : Nat → FieldType := fun k => match k with
  | 0 => .object "WalkRanks$Graph"
  | 1 => .object "WalkRanks$Steps"
  | 2 => .object "WalkRanks$ClosedSets"
  | 3 => .object "WalkRanks$Equations"
  | 4 => .object "WalkRanks$Spread"
  | _ => .array .long
def r_G : String := "WalkRanks$Graph"
def f_G : u_T := fun k => match k with
  | 0 => ("WalkRanks$Graph", "size", "I", false)
  | 1 => ("WalkRanks$Graph", "keepAbove", "I", false)
  | 2 => ("WalkRanks$Graph", "keepBelow", "I", false)
  | 3 => ("WalkRanks$Graph", "weights", "[[I", true)
  | _ => ("WalkRanks$Graph", "jumps", "[I", true)
def t_G : Nat → FieldType := fun k => match k with
  | 0 => .int
  | 1 => .int
  | 2 => .int
  | 3 => .array (.array .int)
  | _ => .array .int
def r_S : String := "WalkRanks$Steps"
def f_S : u_T := fun k => match k with
  | 0 => ("WalkRanks$Steps", "size", "I", false)
  | 1 => ("WalkRanks$Steps", "parts", "[[I", true)
  | 2 => ("WalkRanks$Steps", "totals", "[I", true)
  | _ => ("WalkRanks$Steps", "next", "[I", true)
def t_S : Nat → FieldType := fun k => match k with
  | 0 => .int
  | 1 => .array (.array .int)
  | 2 => .array .int
  | _ => .array .int
def r_C : String := "WalkRanks$ClosedSets"
def f_C : u_T := fun k => match k with
  | 0 => ("WalkRanks$ClosedSets", "number", "I", false)
  | 1 => ("WalkRanks$ClosedSets", "members", "[I", true)
  | 2 => ("WalkRanks$ClosedSets", "leastNodes", "[I", true)
  | 3 => ("WalkRanks$ClosedSets", "setOf", "[I", true)
  | 4 => ("WalkRanks$ClosedSets", "size", "I", false)
  | _ => ("WalkRanks$ClosedSets", "leads", "[I", true)
def t_C : Nat → FieldType := fun k => match k with
  | 0 => .int
  | 1 => .array .int
  | 2 => .array .int
  | 3 => .array .int
  | 4 => .int
  | _ => .array .int
def r_E : String := "WalkRanks$Equations"
def f_E : u_T := fun k => match k with
  | 0 => ("WalkRanks$Equations", "size", "I", false)
  | _ => ("WalkRanks$Equations", "cells", "[[J", true)
def t_E : Nat → FieldType := fun k => match k with
  | 0 => .int
  | _ => .array (.array .long)
def r_P : String := "WalkRanks$Spread"
def f_P : u_T := fun k => match k with
  | 0 => ("WalkRanks$Spread", "now", "[J", false)
  | 1 => ("WalkRanks$Spread", "next", "[J", false)
  | 2 => ("WalkRanks$Spread", "size", "I", false)
  | _ => ("WalkRanks$Spread", "factors", "[[J", true)
def t_P : Nat → FieldType := fun k => match k with
  | 0 => .array .long
  | 1 => .array .long
  | 2 => .int
  | _ => .array (.array .long)
def r_M : String := "WalkRanksModel"
def f_M : u_T := fun k => match k with
  | 0 => ("WalkRanksModel", "nodes", "I", false)
  | 1 => ("WalkRanksModel", "weights", "[I", true)
  | 2 => ("WalkRanksModel", "jumps", "[I", true)
  | 3 => ("WalkRanksModel", "above", "I", false)
  | 4 => ("WalkRanksModel", "below", "I", false)
  | 5 => ("WalkRanksModel", "row", "[I", true)
  | 6 => ("WalkRanksModel", "total", "[I", true)
  | 7 => ("WalkRanksModel", "sets", "I", false)
  | 8 => ("WalkRanksModel", "setOf", "[I", true)
  | 9 => ("WalkRanksModel", "bitsOf", "[I", true)
  | 10 => ("WalkRanksModel", "forests", "J", false)
  | 11 => ("WalkRanksModel", "toward", "J", false)
  | 12 => ("WalkRanksModel", "step", "[I", true)
  | 13 => ("WalkRanksModel", "shares", "[J", true)
  | 14 => ("WalkRanksModel", "shareSum", "J", false)
  | 15 => ("WalkRanksModel", "now", "[J", true)
  | _ => ("WalkRanksModel", "then", "[J", true)
def t_M : Nat → FieldType := fun k => match k with
  | 0 => .int
  | 1 => .array .int
  | 2 => .array .int
  | 3 => .int
  | 4 => .int
  | 5 => .array .int
  | 6 => .array .int
  | 7 => .int
  | 8 => .array .int
  | 9 => .array .int
  | 10 => .long
  | 11 => .long
  | 12 => .array .int
  | 13 => .array .long
  | 14 => .long
  | 15 => .array .long
  | _ => .array .long
abbrev vwCl : List vw_C := [(r_W, f_W, 6), (r_G, f_G, 5), (r_S, f_S, 4), (r_C, f_C, 6), (r_E, f_E, 2), (r_P, f_P, 4), (r_M, f_M, 17)]
abbrev c_W_init : ByteArray := prog_1_method_1_code
abbrev y_W_init : MethodName := ⟨"WalkRanks", "<init>", "()V"⟩
abbrev c_G_init : ByteArray := prog_4_method_1_code
abbrev y_G_init : MethodName := ⟨"WalkRanks$Graph", "<init>", "()V"⟩
abbrev c_S_init : ByteArray := prog_6_method_1_code
abbrev y_S_init : MethodName := ⟨"WalkRanks$Steps", "<init>", "()V"⟩
abbrev c_C_init : ByteArray := prog_2_method_1_code
abbrev y_C_init : MethodName := ⟨"WalkRanks$ClosedSets", "<init>", "()V"⟩
abbrev c_E_init : ByteArray := prog_3_method_1_code
abbrev y_E_init : MethodName := ⟨"WalkRanks$Equations", "<init>", "()V"⟩
abbrev c_P_init : ByteArray := prog_5_method_1_code
abbrev y_P_init : MethodName := ⟨"WalkRanks$Spread", "<init>", "()V"⟩
abbrev c_W_node : ByteArray := prog_1_method_2_code
abbrev y_W_node : MethodName := ⟨"WalkRanks", "node", "()I"⟩
abbrev c_G_addNode : ByteArray := prog_4_method_2_code
abbrev y_G_addNode : MethodName := ⟨"WalkRanks$Graph", "addNode", "()I"⟩
abbrev c_W_renew : ByteArray := prog_1_method_24_code
abbrev y_W_renew : MethodName := ⟨"WalkRanks", "renew", "()V"⟩
abbrev c_S_renew : ByteArray := prog_6_method_2_code
abbrev y_S_renew : MethodName := ⟨"WalkRanks$Steps", "renew", "(LWalkRanks$Graph;)V"⟩
abbrev c_G_allJumps : ByteArray := prog_4_method_4_code
abbrev y_G_allJumps : MethodName := ⟨"WalkRanks$Graph", "allJumps", "()I"⟩
abbrev c_S_fillParts : ByteArray := prog_6_method_3_code
abbrev y_S_fillParts : MethodName := ⟨"WalkRanks$Steps", "fillParts", "(LWalkRanks$Graph;II)V"⟩
abbrev c_G_outOf : ByteArray := prog_4_method_3_code
abbrev y_G_outOf : MethodName := ⟨"WalkRanks$Graph", "outOf", "(I)I"⟩
abbrev c_S_lowerParts : ByteArray := prog_6_method_4_code
abbrev y_S_lowerParts : MethodName := ⟨"WalkRanks$Steps", "lowerParts", "(I)V"⟩
abbrev c_W_greatestDivisor : ByteArray := prog_1_method_29_code
abbrev y_W_greatestDivisor : MethodName := ⟨"WalkRanks", "greatestDivisor", "(JJ)J"⟩
abbrev c_S_sumUp : ByteArray := prog_6_method_5_code
abbrev y_S_sumUp : MethodName := ⟨"WalkRanks$Steps", "sumUp", "(I)V"⟩
abbrev c_W_only : ByteArray := prog_1_method_30_code
abbrev y_W_only : MethodName := ⟨"WalkRanks", "only", "(I)I"⟩
abbrev c_C_renew : ByteArray := prog_2_method_2_code
abbrev y_C_renew : MethodName := ⟨"WalkRanks$ClosedSets", "renew", "(LWalkRanks$Steps;)V"⟩
abbrev c_S_nodesBehind : ByteArray := prog_6_method_8_code
abbrev y_S_nodesBehind : MethodName := ⟨"WalkRanks$Steps", "nodesBehind", "(II)I"⟩
abbrev c_S_nextOf : ByteArray := prog_6_method_7_code
abbrev y_S_nextOf : MethodName := ⟨"WalkRanks$Steps", "nextOf", "(I)I"⟩
abbrev c_W_has : ByteArray := prog_1_method_31_code
abbrev y_W_has : MethodName := ⟨"WalkRanks", "has", "(II)Z"⟩
abbrev c_C_isClosedFrom : ByteArray := prog_2_method_3_code
abbrev y_C_isClosedFrom : MethodName := ⟨"WalkRanks$ClosedSets", "isClosedFrom", "(I)Z"⟩
abbrev c_C_leadingTo : ByteArray := prog_2_method_5_code
abbrev y_C_leadingTo : MethodName := ⟨"WalkRanks$ClosedSets", "leadingTo", "(I)I"⟩
abbrev c_C_addSet : ByteArray := prog_2_method_4_code
abbrev y_C_addSet : MethodName := ⟨"WalkRanks$ClosedSets", "addSet", "(I)V"⟩
abbrev c_W_weight : ByteArray := prog_1_method_3_code
abbrev y_W_weight : MethodName := ⟨"WalkRanks", "weight", "(III)I"⟩
abbrev c_W_isNode : ByteArray := prog_1_method_21_code
abbrev y_W_isNode : MethodName := ⟨"WalkRanks", "isNode", "(I)Z"⟩
abbrev c_W_jump : ByteArray := prog_1_method_4_code
abbrev y_W_jump : MethodName := ⟨"WalkRanks", "jump", "(II)I"⟩
abbrev c_W_keep : ByteArray := prog_1_method_5_code
abbrev y_W_keep : MethodName := ⟨"WalkRanks", "keep", "(II)I"⟩
abbrev c_W_clear : ByteArray := prog_1_method_6_code
abbrev y_W_clear : MethodName := ⟨"WalkRanks", "clear", "()I"⟩
abbrev c_W_row : ByteArray := prog_1_method_7_code
abbrev y_W_row : MethodName := ⟨"WalkRanks", "row", "(II)I"⟩
abbrev c_W_total : ByteArray := prog_1_method_8_code
abbrev y_W_total : MethodName := ⟨"WalkRanks", "total", "(I)I"⟩
abbrev c_W_closed : ByteArray := prog_1_method_9_code
abbrev y_W_closed : MethodName := ⟨"WalkRanks", "closed", "()I"⟩
abbrev c_W_closedOf : ByteArray := prog_1_method_10_code
abbrev y_W_closedOf : MethodName := ⟨"WalkRanks", "closedOf", "(I)I"⟩
abbrev c_W_period : ByteArray := prog_1_method_11_code
abbrev y_W_period : MethodName := ⟨"WalkRanks", "period", "(I)I"⟩
abbrev c_W_isSet : ByteArray := prog_1_method_22_code
abbrev y_W_isSet : MethodName := ⟨"WalkRanks", "isSet", "(I)Z"⟩
abbrev c_S_periodAt : ByteArray := prog_6_method_9_code
abbrev y_S_periodAt : MethodName := ⟨"WalkRanks$Steps", "periodAt", "(I)I"⟩
abbrev c_W_rank : ByteArray := prog_1_method_12_code
abbrev y_W_rank : MethodName := ⟨"WalkRanks", "rank", "(II)J"⟩
abbrev c_W_isPart : ByteArray := prog_1_method_23_code
abbrev y_W_isPart : MethodName := ⟨"WalkRanks", "isPart", "(I)Z"⟩
abbrev c_W_fillShares : ByteArray := prog_1_method_25_code
abbrev y_W_fillShares : MethodName := ⟨"WalkRanks", "fillShares", "(I)J"⟩
abbrev c_E_fill : ByteArray := prog_3_method_2_code
abbrev y_E_fill : MethodName := ⟨"WalkRanks$Equations", "fill", "(LWalkRanks$Steps;I)V"⟩
abbrev c_E_determinant : ByteArray := prog_3_method_5_code
abbrev y_E_determinant : MethodName := ⟨"WalkRanks$Equations", "determinant", "()J"⟩
abbrev c_E_expand : ByteArray := prog_3_method_6_code
abbrev y_E_expand : MethodName := ⟨"WalkRanks$Equations", "expand", "([[JIII)J"⟩
abbrev c_W_fraction : ByteArray := prog_1_method_28_code
abbrev y_W_fraction : MethodName := ⟨"WalkRanks", "fraction", "(JJI)J"⟩
abbrev c_W_place : ByteArray := prog_1_method_13_code
abbrev y_W_place : MethodName := ⟨"WalkRanks", "place", "(I)I"⟩
abbrev c_W_nodesAhead : ByteArray := prog_1_method_26_code
abbrev y_W_nodesAhead : MethodName := ⟨"WalkRanks", "nodesAhead", "(I)I"⟩
abbrev c_W_reach : ByteArray := prog_1_method_14_code
abbrev y_W_reach : MethodName := ⟨"WalkRanks", "reach", "(III)J"⟩
abbrev c_W_chanceToCome : ByteArray := prog_1_method_27_code
abbrev y_W_chanceToCome : MethodName := ⟨"WalkRanks", "chanceToCome", "(III)J"⟩
abbrev c_E_putChances : ByteArray := prog_3_method_3_code
abbrev y_E_putChances : MethodName := ⟨"WalkRanks$Equations", "putChances", "(LWalkRanks$Steps;III)V"⟩
abbrev c_W_hit : ByteArray := prog_1_method_15_code
abbrev y_W_hit : MethodName := ⟨"WalkRanks", "hit", "(III)J"⟩
abbrev c_E_putStepCounts : ByteArray := prog_3_method_4_code
abbrev y_E_putStepCounts : MethodName := ⟨"WalkRanks$Equations", "putStepCounts", "(LWalkRanks$Steps;II)V"⟩
abbrev c_W_back : ByteArray := prog_1_method_16_code
abbrev y_W_back : MethodName := ⟨"WalkRanks", "back", "(II)J"⟩
abbrev c_W_end : ByteArray := prog_1_method_17_code
abbrev y_W_end : MethodName := ⟨"WalkRanks", "end", "(III)J"⟩
abbrev c_W_after : ByteArray := prog_1_method_18_code
abbrev y_W_after : MethodName := ⟨"WalkRanks", "after", "(IIII)J"⟩
abbrev c_S_commonTotal : ByteArray := prog_6_method_6_code
abbrev y_S_commonTotal : MethodName := ⟨"WalkRanks$Steps", "commonTotal", "()J"⟩
abbrev c_P_fillBySteps : ByteArray := prog_5_method_3_code
abbrev y_P_fillBySteps : MethodName := ⟨"WalkRanks$Spread", "fillBySteps", "(LWalkRanks$Steps;J)V"⟩
abbrev c_P_run : ByteArray := prog_5_method_4_code
abbrev y_P_run : MethodName := ⟨"WalkRanks$Spread", "run", "(II)V"⟩
abbrev c_P_move : ByteArray := prog_5_method_6_code
abbrev y_P_move : MethodName := ⟨"WalkRanks$Spread", "move", "()V"⟩
abbrev c_P_numberAt : ByteArray := prog_5_method_5_code
abbrev y_P_numberAt : MethodName := ⟨"WalkRanks$Spread", "numberAt", "(I)J"⟩
abbrev c_W_walks : ByteArray := prog_1_method_19_code
abbrev y_W_walks : MethodName := ⟨"WalkRanks", "walks", "(III)J"⟩
abbrev c_P_fillByWeights : ByteArray := prog_5_method_2_code
abbrev y_P_fillByWeights : MethodName := ⟨"WalkRanks$Spread", "fillByWeights", "(LWalkRanks$Graph;)V"⟩
abbrev c_W_drawn : ByteArray := prog_1_method_20_code
abbrev y_W_drawn : MethodName := ⟨"WalkRanks", "drawn", "(III)I"⟩
abbrev c_S_nextNode : ByteArray := prog_6_method_10_code
abbrev y_S_nextNode : MethodName := ⟨"WalkRanks$Steps", "nextNode", "(II)I"⟩
abbrev c_M_init : ByteArray := prog_8_method_1_code
abbrev y_M_init : MethodName := ⟨"WalkRanksModel", "<init>", "()V"⟩
abbrev c_M_node : ByteArray := prog_8_method_3_code
abbrev y_M_node : MethodName := ⟨"WalkRanksModel", "node", "()I"⟩
abbrev c_M_weight : ByteArray := prog_8_method_4_code
abbrev y_M_weight : MethodName := ⟨"WalkRanksModel", "weight", "(III)I"⟩
abbrev c_M_isNode : ByteArray := prog_8_method_2_code
abbrev y_M_isNode : MethodName := ⟨"WalkRanksModel", "isNode", "(I)Z"⟩
abbrev c_M_jump : ByteArray := prog_8_method_5_code
abbrev y_M_jump : MethodName := ⟨"WalkRanksModel", "jump", "(II)I"⟩
abbrev c_M_keep : ByteArray := prog_8_method_6_code
abbrev y_M_keep : MethodName := ⟨"WalkRanksModel", "keep", "(II)I"⟩
abbrev c_M_clear : ByteArray := prog_8_method_7_code
abbrev y_M_clear : MethodName := ⟨"WalkRanksModel", "clear", "()I"⟩
abbrev c_M_row : ByteArray := prog_8_method_11_code
abbrev y_M_row : MethodName := ⟨"WalkRanksModel", "row", "(II)I"⟩
abbrev c_M_findRows : ByteArray := prog_8_method_10_code
abbrev y_M_findRows : MethodName := ⟨"WalkRanksModel", "findRows", "()V"⟩
abbrev c_M_common : ByteArray := prog_8_method_8_code
abbrev y_M_common : MethodName := ⟨"WalkRanksModel", "common", "(JJ)J"⟩
abbrev c_M_total : ByteArray := prog_8_method_12_code
abbrev y_M_total : MethodName := ⟨"WalkRanksModel", "total", "(I)I"⟩
abbrev c_M_closed : ByteArray := prog_8_method_17_code
abbrev y_M_closed : MethodName := ⟨"WalkRanksModel", "closed", "()I"⟩
abbrev c_M_findSets : ByteArray := prog_8_method_16_code
abbrev y_M_findSets : MethodName := ⟨"WalkRanksModel", "findSets", "()V"⟩
abbrev c_M_isClosed : ByteArray := prog_8_method_15_code
abbrev y_M_isClosed : MethodName := ⟨"WalkRanksModel", "isClosed", "(I)Z"⟩
abbrev c_M_reached : ByteArray := prog_8_method_13_code
abbrev y_M_reached : MethodName := ⟨"WalkRanksModel", "reached", "(II)I"⟩
abbrev c_M_leads : ByteArray := prog_8_method_14_code
abbrev y_M_leads : MethodName := ⟨"WalkRanksModel", "leads", "(II)Z"⟩
abbrev c_M_closedOf : ByteArray := prog_8_method_18_code
abbrev y_M_closedOf : MethodName := ⟨"WalkRanksModel", "closedOf", "(I)I"⟩
abbrev c_M_period : ByteArray := prog_8_method_19_code
abbrev y_M_period : MethodName := ⟨"WalkRanksModel", "period", "(I)I"⟩
abbrev c_M_rank : ByteArray := prog_8_method_25_code
abbrev y_M_rank : MethodName := ⟨"WalkRanksModel", "rank", "(II)J"⟩
abbrev c_M_isPart : ByteArray := prog_8_method_24_code
abbrev y_M_isPart : MethodName := ⟨"WalkRanksModel", "isPart", "(I)Z"⟩
abbrev c_M_findShares : ByteArray := prog_8_method_23_code
abbrev y_M_findShares : MethodName := ⟨"WalkRanksModel", "findShares", "(I)V"⟩
abbrev c_M_count : ByteArray := prog_8_method_21_code
abbrev y_M_count : MethodName := ⟨"WalkRanksModel", "count", "(IIII)V"⟩
abbrev c_M_rootOf : ByteArray := prog_8_method_20_code
abbrev y_M_rootOf : MethodName := ⟨"WalkRanksModel", "rootOf", "(II)I"⟩
abbrev c_M_lowest : ByteArray := prog_8_method_9_code
abbrev y_M_lowest : MethodName := ⟨"WalkRanksModel", "lowest", "(JJI)J"⟩
abbrev c_M_place : ByteArray := prog_8_method_26_code
abbrev y_M_place : MethodName := ⟨"WalkRanksModel", "place", "(I)I"⟩
abbrev c_M_reach : ByteArray := prog_8_method_27_code
abbrev y_M_reach : MethodName := ⟨"WalkRanksModel", "reach", "(III)J"⟩
abbrev c_M_all : ByteArray := prog_8_method_22_code
abbrev y_M_all : MethodName := ⟨"WalkRanksModel", "all", "()I"⟩
abbrev c_M_hit : ByteArray := prog_8_method_28_code
abbrev y_M_hit : MethodName := ⟨"WalkRanksModel", "hit", "(III)J"⟩
abbrev c_M_back : ByteArray := prog_8_method_29_code
abbrev y_M_back : MethodName := ⟨"WalkRanksModel", "back", "(II)J"⟩
abbrev c_M_end : ByteArray := prog_8_method_30_code
abbrev y_M_end : MethodName := ⟨"WalkRanksModel", "end", "(III)J"⟩
abbrev c_M_after : ByteArray := prog_8_method_31_code
abbrev y_M_after : MethodName := ⟨"WalkRanksModel", "after", "(IIII)J"⟩
abbrev c_M_walks : ByteArray := prog_8_method_32_code
abbrev y_M_walks : MethodName := ⟨"WalkRanksModel", "walks", "(III)J"⟩
abbrev c_M_drawn : ByteArray := prog_8_method_33_code
abbrev y_M_drawn : MethodName := ⟨"WalkRanksModel", "drawn", "(III)I"⟩
abbrev c_L_law : ByteArray := code
abbrev y_L_law : MethodName := ⟨"WalkRanksLaw", "law", "([I)Z"⟩
end
section
-- AW: the kit's W with all of the machine's context bundled away; ws is the world (places), lv the locals, st the operand stack
abbrev aw_G : Type := Launch × va_G × List (ClassId × FieldType)
def aw_WS : List Cond := lw_tbl.filter goodWord
theorem aw_in {w : Cond} (h : w ∈ lw_tbl) (hg : goodWord w = true) : w ∈ aw_WS := List.mem_filter.mpr ⟨h, hg⟩
theorem aw_goodIn (y : MethodName) (cc : ByteArray) (nL : Nat) (ret : Option FieldType) (h : Cond.code y cc nL ret ∈ aw_WS) : GoodIn aw_WS (Cond.code y cc nL ret :: aw_WS) := by
  intro w hw
  rcases List.mem_cons.mp hw with rfl | hw
  · exact ⟨h, good_of_word (List.mem_filter.mp h).2⟩
  · exact ⟨hw, good_of_word (List.mem_filter.mp hw).2⟩
def va_AOA (t : FieldType) (U : State) : Prop := (Cond.arrayOver (.array t)).before #[] U = true
theorem va_AOA.of {t : FieldType} {A : Array Value} {U : State} (h : (Cond.arrayOver (.array t)).before A U = true) : va_AOA t U := h
theorem va_AOA.use {t : FieldType} {A : Array Value} {U : State} (h : va_AOA t U) : (Cond.arrayOver (.array t)).before A U = true := h
theorem aw_aoaMoved {t : FieldType} {u U : State} (hvm : u.vm.Alike U.vm) (h : va_AOA t u) : va_AOA t U := by
  obtain ⟨comp, c, k, h1, h2, h3, h4, h5⟩ := arrayOverA_spec h
  obtain ⟨k', hk', he⟩ := hvm.2.2 _ _ h3
  have eb : U.vm.bare = u.vm.bare := by first | exact hvm.bare_eq | exact hvm.bare_eq.symm
  have hi := (va_idx_bare U.vm comp).symm
  rw [eb] at hi
  have hi := hi.trans ((va_idx_bare u.vm comp).trans h2)
  have hkind : k'.kind = .array comp (.array t) := by rw [he]; exact h4
  have f1 : U.vm.findClass (FieldType.array t).toString = some comp := by rw [hvm.findClass]; exact h1
  have f2 : U.vm.findClass ("[" ++ (FieldType.array t).toString) = some c := by rw [hvm.findClass]; exact h5
  unfold va_AOA Cond.before Cond.holds
  simp only [Cond.value]
  rw [f1, Option.bind_some]
  refine (congrArg (fun o : Option Nat => (o.bind (fun c => (U.vm.classes[c]?).map fun (k : Class) => match k.kind with | .array _ ty => decide (ty = FieldType.array t) && decide (U.vm.findClass ("[" ++ (FieldType.array t).toString) = some c) | _ => false) == some true)) hi).trans ?_
  simp [hk', hkind, f2]
def aw_isN : Cond → Bool
  | .methodLinkNest .. => true
  | _ => false
def aw_NW : List Cond := lw_tbl.filter aw_isN
theorem aw_inN {w : Cond} (h : w ∈ lw_tbl) (hg : aw_isN w = true) : w ∈ aw_NW := List.mem_filter.mpr ⟨h, hg⟩
/-- the words that are not carried by the contracts' word lists: links within the nest, arrays of arrays -/
def aw_NK (U : State) : Prop := (∀ w ∈ aw_NW, va_Nw w U) ∧ va_AOA .int U ∧ va_AOA .long U
theorem aw_NK.warm {s U : State} (hW : s.WarmedH U.vm) (h : aw_NK s) : aw_NK U := by
  refine ⟨fun w hw => ?_, aw_aoaMoved hW.alike h.2.1, aw_aoaMoved hW.alike h.2.2⟩
  have hz := h.1 w hw
  have hg := (List.mem_filter.mp hw).2
  cases w <;> first | exact va_Nw.warmM hW hz | (simp [aw_isN] at hg; done)
theorem aw_NK.same {s U : State} (hv : s.vm = U.vm) (h : aw_NK s) : aw_NK U := aw_NK.warm (by rw [← hv]; exact State.WarmedH.refl s) h
def aw_rm (d mc ms : Nat) : Room := { frames := d, cells := mc, slots := ms, locals := 48 * d }
def aw_ctx (y : MethodName) (cc : ByteArray) (nL : Nat) (ret : Option FieldType) (E : (Nat → Prop) → State → Array Value → Prop) (p : Program) (s : State) (m : MethodId) (args : Array Value) (meth : Method) (c : Code) (A : Nat → Prop) : Prop :=
  p.tables.exec = Jvm.exec ∧ c.code = cc ∧ meth.sig.returnType = ret ∧ c.maxLocals = nL ∧ s.vm.findClass y.cls = some m.cls ∧ (∀ w ∈ aw_WS, w.before args s = true) ∧ meth.locks = false ∧ meth.name = y.name ∧ (∀ q : Nat, s.heap.size ≤ q → A q) ∧ E A s args ∧ aw_NK s
def aw_wd (g : aw_G) (A : Nat → Prop) (s : State) (H : Heap) (locs : List Loc) (ws : va_W) : Prop :=
  va_S A s.heap H locs ∧ va_K g.2.1 vwCl g.2.2 s ∧ va_P g.2.1 vwCl ws H ∧ va_D A ws
def AW (g : aw_G) (y : MethodName) (cc : ByteArray) (nL : Nat) (ret : Option FieldType) (R : Room) (E : (Nat → Prop) → State → Array Value → Prop) (F : List Frame → Array Value → State → (Nat → Prop) → State → Prop) (kc ks pc : Nat) (lv : List (Nat × Value)) (st : List Value) (ws : va_W) : Prop :=
  ∀ (p : Program) (e : Env) (s : State) (m : MethodId) (args : Array Value) (below : List Frame) (meth : Method) (c : Code) (H : Heap) (locs : List Loc) (A : Nat → Prop) (ls : Array Slot),
    aw_ctx y cc nL ret E p s m args meth c A → aw_wd g A s H locs ws → lv_has ls nL lv → W p g.1 e R s m args below meth c H locs kc ks (F below args s A) (F0 m pc ls st)
def aw_Q (g : aw_G) (Q : Option Value → va_W → Prop) (A : Nat → Prop) : Array Value → State → Outcome → State → Prop := fun _ st oc t =>
  (∃ (v : Option Value) (ws : va_W), oc = .returned v ∧ Q v ws ∧ va_P g.2.1 vwCl ws t.heap ∧ va_K g.2.1 vwCl g.2.2 t ∧ va_D A ws) ∧ va_F A st t
def aw_F (g : aw_G) (Q : Option Value → va_W → Prop) (mc ms : Nat) : List Frame → Array Value → State → (Nat → Prop) → State → Prop := fun below args s A => MQ below (aw_Q g Q A) args s mc ms A
def aw_E0 : (Nat → Prop) → State → Array Value → Prop := fun _ _ _ => True
def aw_Pc (g : aw_G) (av : List Value) (ws : va_W) (sz : Nat) : Array Value → State → Prop := va_Pc av (fun U => U.heap.size = sz ∧ va_P g.2.1 vwCl ws U.heap ∧ va_K g.2.1 vwCl g.2.2 U ∧ va_D (fun _ => True) ws ∧ aw_NK U)
def AMet (g : aw_G) (y : MethodName) (cc : ByteArray) (nL : Nat) (ret : Option FieldType) (d : Nat) (av : List Value) (ws : va_W) (Q : Option Value → va_W → Prop) (mc ms : Nat) : Prop :=
  ∀ sz : Nat, Met g.1 y (Cond.code y cc nL ret :: aw_WS) (aw_rm d mc ms) (aw_Pc g av ws sz) (aw_Q g Q (va_A ws sz)) mc ms (va_A ws sz)
/-- a contract out of the walk of the body -/
theorem amet_of {g : aw_G} {y : MethodName} {cc : ByteArray} {nL : Nat} {ret : Option FieldType} {d : Nat} {av : List Value} {ws : va_W} {Q : Option Value → va_W → Prop} {mc ms : Nat} (hy : plainName y.cls = true) (hn : (lg_sl av).length ≤ nL)
    (body : AW g y cc nL ret (aw_rm d mc ms) aw_E0 (aw_F g Q mc ms) 0 0 0 (lv_args 0 av) [] ws) : AMet g y cc nL ret d av ws Q mc ms := by
  intro sz
  refine Met.ofW (cc := cc) (maxL := nL) (ret := ret) hy rfl ?_
  intro p e s m args below meth c s₁ B hml hv
  obtain ⟨rfl, hsz, hP, hK, hD0, hN0⟩ := hv
  have hts := atoms_spec (ws := Cond.code y cc nL ret :: aw_WS) B.pre
  subst hsz
  rw [lg_entry_eq]
  exact body p e s m _ below meth c s.heap [] (va_A ws s.heap.size) _ ⟨B.exec, B.bytes, B.returns, hml, findClass_of_methodNamed B.named, fun w h => hts w (List.mem_cons_of_mem _ h), B.notSynchronized, (name_of_methodNamed B.named B.method).1, fun q h => Or.inr h, trivial, hN0⟩ ⟨va_S.rf, hK, hP, hD0.self⟩ (lv_entry av hn)
theorem amet_mono {g : aw_G} {y : MethodName} {cc : ByteArray} {nL : Nat} {ret : Option FieldType} {d : Nat} {av : List Value} {ws : va_W} {Q Q' : Option Value → va_W → Prop} {mc ms : Nat} (h : ∀ v w, Q v w → Q' v w) (k : AW g y cc nL ret (aw_rm d mc ms) aw_E0 (aw_F g Q mc ms) 0 0 0 (lv_args 0 av) [] ws) : AW g y cc nL ret (aw_rm d mc ms) aw_E0 (aw_F g Q' mc ms) 0 0 0 (lv_args 0 av) [] ws := by
  intro p e s m args below meth c H locs A ls C D hl T hT X
  obtain ⟨t, a, o, b1, b2, ⟨⟨v, w, q1, q2, q3⟩, q4⟩, b4⟩ := k p e s m args below meth c H locs A ls C D hl T hT X
  exact ⟨t, a, o, b1, b2, ⟨⟨v, w, q1, h v w q2, q3⟩, q4⟩, b4⟩
section AWR
variable {g : aw_G} {y : MethodName} {cc : ByteArray} {nL : Nat} {ret : Option FieldType} {R : Room} {E : (Nat → Prop) → State → Array Value → Prop} {F : List Frame → Array Value → State → (Nat → Prop) → State → Prop} {kc ks pc : Nat} {lv : List (Nat × Value)} {st : List Value} {ws : va_W}
theorem aw_widen {kc' ks' : Nat} (h1 : kc ≤ kc') (h2 : ks ≤ ks') (k : AW g y cc nL ret R E F kc' ks' pc lv st ws) : AW g y cc nL ret R E F kc ks pc lv st ws :=
  fun p e s m args below meth c H locs A ls C D hl => W.widen h1 h2 (k p e s m args below meth c H locs A ls C D hl)
theorem aw_sub {lv' : List (Nat × Value)} (ps : List Nat) (h : lv_pick lv ps = lv') (k : AW g y cc nL ret R E F kc ks pc lv' st ws) : AW g y cc nL ret R E F kc ks pc lv st ws :=
  fun p e s m args below meth c H locs A ls C D hl => k p e s m args below meth c H locs A ls C D (lv_sub hl ps h)
theorem aw_eq {kc' ks' pc' : Nat} {lv' : List (Nat × Value)} {st' : List Value} {ws' : va_W} (e1 : pc = pc') (e2 : lv = lv') (e3 : st = st') (e4 : ws = ws') (k : AW g y cc nL ret R E F kc ks pc' lv' st' ws') : AW g y cc nL ret R E F kc ks pc lv st ws := by
  subst e1; subst e2; subst e3; subst e4; exact k
theorem aw_topi {x : Int32} (k : ∀ z : Int32, z = x → AW g y cc nL ret R E F kc ks pc lv (.int z :: st) ws) : AW g y cc nL ret R E F kc ks pc lv (.int x :: st) ws := k x rfl
theorem aw_topl {x : Int64} (k : ∀ z : Int64, z = x → AW g y cc nL ret R E F kc ks pc lv (.long z :: st) ws) : AW g y cc nL ret R E F kc ks pc lv (.long x :: st) ws := k x rfl
theorem aw_lk {lv : List (Nat × Value)} {i : Nat} {v : Value} (h : lv.lookup i = some v) : (i, v) ∈ lv := by
  induction lv with
  | nil => simp at h
  | cons q r ih =>
    obtain ⟨j, w⟩ := q
    rw [List.lookup_cons] at h
    split at h
    · rename_i e
      have e1 : i = j := by simpa using e
      cases h
      rw [e1]
      exact List.mem_cons_self
    · exact List.mem_cons_of_mem _ (ih h)
theorem aw_iconst {n : Int} {v : Int32} (hd : decode cc pc = .ok (.iconst n, 1)) (hv : Int32.ofInt n = v) (k : AW g y cc nL ret R E F kc ks (pc + 1) lv (.int v :: st) ws) : AW g y cc nL ret R E F kc ks pc lv st ws :=
  fun p e s m args below meth c H locs A ls C D hl => lv_iconst C.1 C.2.1 hd hv (k p e s m args below meth c H locs A ls C D hl)
theorem aw_bipush {n : Int} {v : Int32} (hd : decode cc pc = .ok (.bipush n, 2)) (hv : (Int8.ofInt n).toInt32 = v) (k : AW g y cc nL ret R E F kc ks (pc + 2) lv (.int v :: st) ws) : AW g y cc nL ret R E F kc ks pc lv st ws :=
  fun p e s m args below meth c H locs A ls C D hl => lv_bipush C.1 C.2.1 hd hv (k p e s m args below meth c H locs A ls C D hl)
theorem aw_sipush {n : Int} {v : Int32} (hd : decode cc pc = .ok (.sipush n, 3)) (hv : (Int16.ofInt n).toInt32 = v) (k : AW g y cc nL ret R E F kc ks (pc + 3) lv (.int v :: st) ws) : AW g y cc nL ret R E F kc ks pc lv st ws :=
  fun p e s m args below meth c H locs A ls C D hl => lv_sipush C.1 C.2.1 hd hv (k p e s m args below meth c H locs A ls C D hl)
theorem aw_lconst {n : Fin 2} {v : Int64} (hd : decode cc pc = .ok (.lconst n, 1)) (hv : Int64.ofNat (n : Nat) = v) (k : AW g y cc nL ret R E F kc ks (pc + 1) lv (.long v :: st) ws) : AW g y cc nL ret R E F kc ks pc lv st ws :=
  fun p e s m args below meth c H locs A ls C D hl => lv_lconst C.1 C.2.1 hd hv (k p e s m args below meth c H locs A ls C D hl)
theorem aw_ldc {index : Nat} {v : Int32} (hd : decode cc pc = .ok (.ldc index, 2)) (hw : Cond.constant y.cls index v ∈ aw_WS) (k : AW g y cc nL ret R E F kc ks (pc + 2) lv (.int v :: st) ws) : AW g y cc nL ret R E F kc ks pc lv st ws :=
  fun p e s m args below meth c H locs A ls C D hl => lv_ldc C.1 C.2.1 C.2.2.2.2.1 (C.2.2.2.2.2.1 _ hw) hd (k p e s m args below meth c H locs A ls C D hl)
theorem aw_ldc2 {index : Nat} {v : Int64} (hd : decode cc pc = .ok (.ldc2_w index, 3)) (hw : Cond.constantLong y.cls index v ∈ aw_WS) (k : AW g y cc nL ret R E F kc ks (pc + 3) lv (.long v :: st) ws) : AW g y cc nL ret R E F kc ks pc lv st ws :=
  fun p e s m args below meth c H locs A ls C D hl => lv_ldc2 C.1 C.2.1 C.2.2.2.2.1 (C.2.2.2.2.2.1 _ hw) hd (k p e s m args below meth c H locs A ls C D hl)
theorem aw_iload_n {n : Fin 4} {i : Nat} {x : Int32} (hd : decode cc pc = .ok (.iload_n n, 1)) (hi : (n : Nat) = i) (hj : lv.lookup i = some (.int x)) (k : AW g y cc nL ret R E F kc ks (pc + 1) lv (.int x :: st) ws) : AW g y cc nL ret R E F kc ks pc lv st ws :=
  fun p e s m args below meth c H locs A ls C D hl => lv_iload_n C.1 C.2.1 hd hi (hl.2.2 (i, .int x) (aw_lk hj)) (k p e s m args below meth c H locs A ls C D hl)
theorem aw_iload {i : Nat} {x : Int32} (hd : decode cc pc = .ok (.iload i, 2)) (hj : lv.lookup i = some (.int x)) (k : AW g y cc nL ret R E F kc ks (pc + 2) lv (.int x :: st) ws) : AW g y cc nL ret R E F kc ks pc lv st ws :=
  fun p e s m args below meth c H locs A ls C D hl => lv_iload C.1 C.2.1 hd (hl.2.2 (i, .int x) (aw_lk hj)) (k p e s m args below meth c H locs A ls C D hl)
theorem aw_lload_n {n : Fin 4} {i : Nat} {x : Int64} (hd : decode cc pc = .ok (.lload_n n, 1)) (hi : (n : Nat) = i) (hj : lv.lookup i = some (.long x)) (k : AW g y cc nL ret R E F kc ks (pc + 1) lv (.long x :: st) ws) : AW g y cc nL ret R E F kc ks pc lv st ws :=
  fun p e s m args below meth c H locs A ls C D hl => lv_lload_n C.1 C.2.1 hd hi (hl.2.2 (i, .long x) (aw_lk hj)) (k p e s m args below meth c H locs A ls C D hl)
theorem aw_lload {i : Nat} {x : Int64} (hd : decode cc pc = .ok (.lload i, 2)) (hj : lv.lookup i = some (.long x)) (k : AW g y cc nL ret R E F kc ks (pc + 2) lv (.long x :: st) ws) : AW g y cc nL ret R E F kc ks pc lv st ws :=
  fun p e s m args below meth c H locs A ls C D hl => lv_lload C.1 C.2.1 hd (hl.2.2 (i, .long x) (aw_lk hj)) (k p e s m args below meth c H locs A ls C D hl)
theorem aw_aload_n {n : Fin 4} {i : Nat} {x : Nat} (hd : decode cc pc = .ok (.aload_n n, 1)) (hi : (n : Nat) = i) (hj : lv.lookup i = some (.ref x)) (k : AW g y cc nL ret R E F kc ks (pc + 1) lv (.ref x :: st) ws) : AW g y cc nL ret R E F kc ks pc lv st ws :=
  fun p e s m args below meth c H locs A ls C D hl => lv_aload_n C.1 C.2.1 hd hi (hl.2.2 (i, .ref x) (aw_lk hj)) (k p e s m args below meth c H locs A ls C D hl)
theorem aw_aload {i : Nat} {x : Nat} (hd : decode cc pc = .ok (.aload i, 2)) (hj : lv.lookup i = some (.ref x)) (k : AW g y cc nL ret R E F kc ks (pc + 2) lv (.ref x :: st) ws) : AW g y cc nL ret R E F kc ks pc lv st ws :=
  fun p e s m args below meth c H locs A ls C D hl => lv_aload C.1 C.2.1 hd (hl.2.2 (i, .ref x) (aw_lk hj)) (k p e s m args below meth c H locs A ls C D hl)
def aw_st1 (lv : List (Nat × Value)) (i : Nat) (v : Value) : List (Nat × Value) := (i, v) :: lv.filter (fun q => !(q.1 == i) && !(q.1 + 1 == i && q.2.category == 2))
def aw_st2 (lv : List (Nat × Value)) (i : Nat) (v : Value) : List (Nat × Value) := (i, v) :: lv.filter (fun q => !(q.1 == i) && (!(q.1 == i + 1) && !(q.1 + 1 == i && q.2.category == 2)))
theorem aw_istore_n {n : Fin 4} {i : Nat} {x : Int32} {lv' : List (Nat × Value)} (hd : decode cc pc = .ok (.istore_n n, 1)) (hi : (n : Nat) = i) (hn : i < nL) (hv : aw_st1 lv i (.int x) = lv') (k : AW g y cc nL ret R E F kc ks (pc + 1) lv' st ws) : AW g y cc nL ret R E F kc ks pc lv (.int x :: st) ws :=
  fun p e s m args below meth c H locs A ls C D hl => lv_istore_n C.1 C.2.1 hd hi hl hn hv (fun ls hl => k p e s m args below meth c H locs A ls C D hl)
theorem aw_istore {i : Nat} {x : Int32} {lv' : List (Nat × Value)} (hd : decode cc pc = .ok (.istore i, 2)) (hn : i < nL) (hv : aw_st1 lv i (.int x) = lv') (k : AW g y cc nL ret R E F kc ks (pc + 2) lv' st ws) : AW g y cc nL ret R E F kc ks pc lv (.int x :: st) ws :=
  fun p e s m args below meth c H locs A ls C D hl => lv_istore C.1 C.2.1 hd hl hn hv (fun ls hl => k p e s m args below meth c H locs A ls C D hl)
theorem aw_lstore_n {n : Fin 4} {i : Nat} {x : Int64} {lv' : List (Nat × Value)} (hd : decode cc pc = .ok (.lstore_n n, 1)) (hi : (n : Nat) = i) (hn : i + 1 < nL) (hv : aw_st2 lv i (.long x) = lv') (k : AW g y cc nL ret R E F kc ks (pc + 1) lv' st ws) : AW g y cc nL ret R E F kc ks pc lv (.long x :: st) ws :=
  fun p e s m args below meth c H locs A ls C D hl => lv_lstore_n C.1 C.2.1 hd hi hl hn hv (fun ls hl => k p e s m args below meth c H locs A ls C D hl)
theorem aw_lstore {i : Nat} {x : Int64} {lv' : List (Nat × Value)} (hd : decode cc pc = .ok (.lstore i, 2)) (hn : i + 1 < nL) (hv : aw_st2 lv i (.long x) = lv') (k : AW g y cc nL ret R E F kc ks (pc + 2) lv' st ws) : AW g y cc nL ret R E F kc ks pc lv (.long x :: st) ws :=
  fun p e s m args below meth c H locs A ls C D hl => lv_lstore C.1 C.2.1 hd hl hn hv (fun ls hl => k p e s m args below meth c H locs A ls C D hl)
theorem aw_astore_n {n : Fin 4} {i : Nat} {x : Nat} {lv' : List (Nat × Value)} (hd : decode cc pc = .ok (.astore_n n, 1)) (hi : (n : Nat) = i) (hn : i < nL) (hv : aw_st1 lv i (.ref x) = lv') (k : AW g y cc nL ret R E F kc ks (pc + 1) lv' st ws) : AW g y cc nL ret R E F kc ks pc lv (.ref x :: st) ws :=
  fun p e s m args below meth c H locs A ls C D hl => lv_astore_n C.1 C.2.1 hd hi hl hn hv (fun ls hl => k p e s m args below meth c H locs A ls C D hl)
theorem aw_astore {i : Nat} {x : Nat} {lv' : List (Nat × Value)} (hd : decode cc pc = .ok (.astore i, 2)) (hn : i < nL) (hv : aw_st1 lv i (.ref x) = lv') (k : AW g y cc nL ret R E F kc ks (pc + 2) lv' st ws) : AW g y cc nL ret R E F kc ks pc lv (.ref x :: st) ws :=
  fun p e s m args below meth c H locs A ls C D hl => lv_astore C.1 C.2.1 hd hl hn hv (fun ls hl => k p e s m args below meth c H locs A ls C D hl)
theorem aw_iinc {i : Nat} {n : Int} {x v : Int32} {lv' : List (Nat × Value)} (hd : decode cc pc = .ok (.iinc i n, 3)) (hj : lv.lookup i = some (.int x)) (hv : x + Int32.ofInt n = v) (hn : i < nL) (hl' : aw_st1 lv i (.int v) = lv') (k : AW g y cc nL ret R E F kc ks (pc + 3) lv' st ws) : AW g y cc nL ret R E F kc ks pc lv st ws :=
  fun p e s m args below meth c H locs A ls C D hl => (List.mem_iff_getElem?.mp (aw_lk hj)).elim (fun j hj => lv_iinc C.1 C.2.1 hd hl hj hv hn hl' (fun ls hl => k p e s m args below meth c H locs A ls C D hl))
theorem aw_iadd {x z : Int32} (hd : decode cc pc = .ok (.iadd, 1)) (k : AW g y cc nL ret R E F kc ks (pc + 1) lv (.int (x + z) :: st) ws) : AW g y cc nL ret R E F kc ks pc lv (.int z :: .int x :: st) ws :=
  fun p e s m args below meth c H locs A ls C D hl => lv_iadd C.1 C.2.1 hd (k p e s m args below meth c H locs A ls C D hl)
theorem aw_isub {x z : Int32} (hd : decode cc pc = .ok (.isub, 1)) (k : AW g y cc nL ret R E F kc ks (pc + 1) lv (.int (x - z) :: st) ws) : AW g y cc nL ret R E F kc ks pc lv (.int z :: .int x :: st) ws :=
  fun p e s m args below meth c H locs A ls C D hl => lv_isub C.1 C.2.1 hd (k p e s m args below meth c H locs A ls C D hl)
theorem aw_imul {x z : Int32} (hd : decode cc pc = .ok (.imul, 1)) (k : AW g y cc nL ret R E F kc ks (pc + 1) lv (.int (x * z) :: st) ws) : AW g y cc nL ret R E F kc ks pc lv (.int z :: .int x :: st) ws :=
  fun p e s m args below meth c H locs A ls C D hl => lv_imul C.1 C.2.1 hd (k p e s m args below meth c H locs A ls C D hl)
theorem aw_iand {x z : Int32} (hd : decode cc pc = .ok (.iand, 1)) (k : AW g y cc nL ret R E F kc ks (pc + 1) lv (.int (x &&& z) :: st) ws) : AW g y cc nL ret R E F kc ks pc lv (.int z :: .int x :: st) ws :=
  fun p e s m args below meth c H locs A ls C D hl => lv_iand C.1 C.2.1 hd (k p e s m args below meth c H locs A ls C D hl)
theorem aw_ior {x z : Int32} (hd : decode cc pc = .ok (.ior, 1)) (k : AW g y cc nL ret R E F kc ks (pc + 1) lv (.int (x ||| z) :: st) ws) : AW g y cc nL ret R E F kc ks pc lv (.int z :: .int x :: st) ws :=
  fun p e s m args below meth c H locs A ls C D hl => lv_ior C.1 C.2.1 hd (k p e s m args below meth c H locs A ls C D hl)
theorem aw_ixor {x z : Int32} (hd : decode cc pc = .ok (.ixor, 1)) (k : AW g y cc nL ret R E F kc ks (pc + 1) lv (.int (x ^^^ z) :: st) ws) : AW g y cc nL ret R E F kc ks pc lv (.int z :: .int x :: st) ws :=
  fun p e s m args below meth c H locs A ls C D hl => lv_ixor C.1 C.2.1 hd (k p e s m args below meth c H locs A ls C D hl)
theorem aw_ishl {x z : Int32} (hd : decode cc pc = .ok (.ishl, 1)) (k : AW g y cc nL ret R E F kc ks (pc + 1) lv (.int (x <<< (z &&& 31)) :: st) ws) : AW g y cc nL ret R E F kc ks pc lv (.int z :: .int x :: st) ws :=
  fun p e s m args below meth c H locs A ls C D hl => lv_ishl C.1 C.2.1 hd (k p e s m args below meth c H locs A ls C D hl)
theorem aw_ishr {x z : Int32} (hd : decode cc pc = .ok (.ishr, 1)) (k : AW g y cc nL ret R E F kc ks (pc + 1) lv (.int (x >>> (z &&& 31)) :: st) ws) : AW g y cc nL ret R E F kc ks pc lv (.int z :: .int x :: st) ws :=
  fun p e s m args below meth c H locs A ls C D hl => lv_ishr C.1 C.2.1 hd (k p e s m args below meth c H locs A ls C D hl)
theorem aw_ladd {x z : Int64} (hd : decode cc pc = .ok (.ladd, 1)) (k : AW g y cc nL ret R E F kc ks (pc + 1) lv (.long (x + z) :: st) ws) : AW g y cc nL ret R E F kc ks pc lv (.long z :: .long x :: st) ws :=
  fun p e s m args below meth c H locs A ls C D hl => lv_ladd C.1 C.2.1 hd (k p e s m args below meth c H locs A ls C D hl)
theorem aw_lsub {x z : Int64} (hd : decode cc pc = .ok (.lsub, 1)) (k : AW g y cc nL ret R E F kc ks (pc + 1) lv (.long (x - z) :: st) ws) : AW g y cc nL ret R E F kc ks pc lv (.long z :: .long x :: st) ws :=
  fun p e s m args below meth c H locs A ls C D hl => lv_lsub C.1 C.2.1 hd (k p e s m args below meth c H locs A ls C D hl)
theorem aw_lmul {x z : Int64} (hd : decode cc pc = .ok (.lmul, 1)) (k : AW g y cc nL ret R E F kc ks (pc + 1) lv (.long (x * z) :: st) ws) : AW g y cc nL ret R E F kc ks pc lv (.long z :: .long x :: st) ws :=
  fun p e s m args below meth c H locs A ls C D hl => lv_lmul C.1 C.2.1 hd (k p e s m args below meth c H locs A ls C D hl)
theorem aw_land {x z : Int64} (hd : decode cc pc = .ok (.land, 1)) (k : AW g y cc nL ret R E F kc ks (pc + 1) lv (.long (x &&& z) :: st) ws) : AW g y cc nL ret R E F kc ks pc lv (.long z :: .long x :: st) ws :=
  fun p e s m args below meth c H locs A ls C D hl => lv_land C.1 C.2.1 hd (k p e s m args below meth c H locs A ls C D hl)
theorem aw_lor {x z : Int64} (hd : decode cc pc = .ok (.lor, 1)) (k : AW g y cc nL ret R E F kc ks (pc + 1) lv (.long (x ||| z) :: st) ws) : AW g y cc nL ret R E F kc ks pc lv (.long z :: .long x :: st) ws :=
  fun p e s m args below meth c H locs A ls C D hl => lv_lor C.1 C.2.1 hd (k p e s m args below meth c H locs A ls C D hl)
theorem aw_lxor {x z : Int64} (hd : decode cc pc = .ok (.lxor, 1)) (k : AW g y cc nL ret R E F kc ks (pc + 1) lv (.long (x ^^^ z) :: st) ws) : AW g y cc nL ret R E F kc ks pc lv (.long z :: .long x :: st) ws :=
  fun p e s m args below meth c H locs A ls C D hl => lv_lxor C.1 C.2.1 hd (k p e s m args below meth c H locs A ls C D hl)
theorem aw_idiv {x z : Int32} (hd : decode cc pc = .ok (.idiv, 1)) (hne : ¬ z = 0) (k : AW g y cc nL ret R E F kc ks (pc + 1) lv (.int (x / z) :: st) ws) : AW g y cc nL ret R E F kc ks pc lv (.int z :: .int x :: st) ws :=
  fun p e s m args below meth c H locs A ls C D hl => lv_idiv C.1 C.2.1 hd hne (k p e s m args below meth c H locs A ls C D hl)
theorem aw_irem {x z : Int32} (hd : decode cc pc = .ok (.irem, 1)) (hne : ¬ z = 0) (k : AW g y cc nL ret R E F kc ks (pc + 1) lv (.int (x - x / z * z) :: st) ws) : AW g y cc nL ret R E F kc ks pc lv (.int z :: .int x :: st) ws :=
  fun p e s m args below meth c H locs A ls C D hl => lv_irem C.1 C.2.1 hd hne (k p e s m args below meth c H locs A ls C D hl)
theorem aw_ldiv {x z : Int64} (hd : decode cc pc = .ok (.ldiv, 1)) (hne : ¬ z = 0) (k : AW g y cc nL ret R E F kc ks (pc + 1) lv (.long (x / z) :: st) ws) : AW g y cc nL ret R E F kc ks pc lv (.long z :: .long x :: st) ws :=
  fun p e s m args below meth c H locs A ls C D hl => lv_ldiv C.1 C.2.1 hd hne (k p e s m args below meth c H locs A ls C D hl)
theorem aw_lrem {x z : Int64} (hd : decode cc pc = .ok (.lrem, 1)) (hne : ¬ z = 0) (k : AW g y cc nL ret R E F kc ks (pc + 1) lv (.long (x - x / z * z) :: st) ws) : AW g y cc nL ret R E F kc ks pc lv (.long z :: .long x :: st) ws :=
  fun p e s m args below meth c H locs A ls C D hl => lv_lrem C.1 C.2.1 hd hne (k p e s m args below meth c H locs A ls C D hl)
theorem aw_ineg {x : Int32} (hd : decode cc pc = .ok (.ineg, 1)) (k : AW g y cc nL ret R E F kc ks (pc + 1) lv (.int (-x) :: st) ws) : AW g y cc nL ret R E F kc ks pc lv (.int x :: st) ws :=
  fun p e s m args below meth c H locs A ls C D hl => lv_ineg C.1 C.2.1 hd (k p e s m args below meth c H locs A ls C D hl)
theorem aw_lneg {x : Int64} (hd : decode cc pc = .ok (.lneg, 1)) (k : AW g y cc nL ret R E F kc ks (pc + 1) lv (.long (-x) :: st) ws) : AW g y cc nL ret R E F kc ks pc lv (.long x :: st) ws :=
  fun p e s m args below meth c H locs A ls C D hl => lv_lneg C.1 C.2.1 hd (k p e s m args below meth c H locs A ls C D hl)
theorem aw_i2l {x : Int32} (hd : decode cc pc = .ok (.i2l, 1)) (k : AW g y cc nL ret R E F kc ks (pc + 1) lv (.long x.toInt64 :: st) ws) : AW g y cc nL ret R E F kc ks pc lv (.int x :: st) ws :=
  fun p e s m args below meth c H locs A ls C D hl => lv_i2l C.1 C.2.1 hd rfl (k p e s m args below meth c H locs A ls C D hl)
theorem aw_l2i {x : Int64} (hd : decode cc pc = .ok (.l2i, 1)) (k : AW g y cc nL ret R E F kc ks (pc + 1) lv (.int x.toInt32 :: st) ws) : AW g y cc nL ret R E F kc ks pc lv (.long x :: st) ws :=
  fun p e s m args below meth c H locs A ls C D hl => lv_l2i C.1 C.2.1 hd rfl (k p e s m args below meth c H locs A ls C D hl)
theorem aw_iushr {x z : Int32} (hd : decode cc pc = .ok (.iushr, 1)) (k : AW g y cc nL ret R E F kc ks (pc + 1) lv (.int ((x.toUInt32 >>> (z.toUInt32 &&& Int32.toUInt32 31)).toInt32) :: st) ws) : AW g y cc nL ret R E F kc ks pc lv (.int z :: .int x :: st) ws :=
  fun p e s m args below meth c H locs A ls C D hl => lv_iushr C.1 C.2.1 hd rfl (k p e s m args below meth c H locs A ls C D hl)
theorem aw_lushr {x : Int64} {z : Int32} (hd : decode cc pc = .ok (.lushr, 1)) (k : AW g y cc nL ret R E F kc ks (pc + 1) lv (.long ((x.toUInt64 >>> (z.toInt64.toUInt64 &&& Int64.toUInt64 63)).toInt64) :: st) ws) : AW g y cc nL ret R E F kc ks pc lv (.int z :: .long x :: st) ws :=
  fun p e s m args below meth c H locs A ls C D hl => lv_lushr C.1 C.2.1 hd rfl (k p e s m args below meth c H locs A ls C D hl)
theorem aw_lshl {x : Int64} {z : Int32} (hd : decode cc pc = .ok (.lshl, 1)) (k : AW g y cc nL ret R E F kc ks (pc + 1) lv (.long (x <<< (z.toInt64 &&& 63)) :: st) ws) : AW g y cc nL ret R E F kc ks pc lv (.int z :: .long x :: st) ws :=
  fun p e s m args below meth c H locs A ls C D hl => lv_lshl C.1 C.2.1 hd rfl (k p e s m args below meth c H locs A ls C D hl)
theorem aw_lshr {x : Int64} {z : Int32} (hd : decode cc pc = .ok (.lshr, 1)) (k : AW g y cc nL ret R E F kc ks (pc + 1) lv (.long (x >>> (z.toInt64 &&& 63)) :: st) ws) : AW g y cc nL ret R E F kc ks pc lv (.int z :: .long x :: st) ws :=
  fun p e s m args below meth c H locs A ls C D hl => lv_lshr C.1 C.2.1 hd rfl (k p e s m args below meth c H locs A ls C D hl)
theorem aw_lcmp {x z : Int64} (hd : decode cc pc = .ok (.lcmp, 1)) (k : AW g y cc nL ret R E F kc ks (pc + 1) lv (.int (lg_cmp x z) :: st) ws) : AW g y cc nL ret R E F kc ks pc lv (.long z :: .long x :: st) ws :=
  fun p e s m args below meth c H locs A ls C D hl => W.lcmp C.1 C.2.1 hd (k p e s m args below meth c H locs A ls C D hl)
theorem aw_dup {a : Value} (hd : decode cc pc = .ok (.dup, 1)) (ha : a.category = 1) (k : AW g y cc nL ret R E F kc ks (pc + 1) lv (a :: a :: st) ws) : AW g y cc nL ret R E F kc ks pc lv (a :: st) ws :=
  fun p e s m args below meth c H locs A ls C D hl => lv_dup C.1 C.2.1 hd ha (k p e s m args below meth c H locs A ls C D hl)
theorem aw_pop {a : Value} (hd : decode cc pc = .ok (.pop, 1)) (ha : a.category = 1) (k : AW g y cc nL ret R E F kc ks (pc + 1) lv (st) ws) : AW g y cc nL ret R E F kc ks pc lv (a :: st) ws :=
  fun p e s m args below meth c H locs A ls C D hl => lv_pop C.1 C.2.1 hd ha (k p e s m args below meth c H locs A ls C D hl)
theorem aw_dup_x1 {a b : Value} (hd : decode cc pc = .ok (.dup_x1, 1)) (ha : a.category = 1) (hb : b.category = 1) (k : AW g y cc nL ret R E F kc ks (pc + 1) lv (a :: b :: a :: st) ws) : AW g y cc nL ret R E F kc ks pc lv (a :: b :: st) ws :=
  fun p e s m args below meth c H locs A ls C D hl => lv_dup_x1 C.1 C.2.1 hd ha hb (k p e s m args below meth c H locs A ls C D hl)
theorem aw_dup_x2 {a b d : Value} (hd : decode cc pc = .ok (.dup_x2, 1)) (ha : a.category = 1) (hb : b.category = 1) (hc : d.category = 1) (k : AW g y cc nL ret R E F kc ks (pc + 1) lv (a :: b :: d :: a :: st) ws) : AW g y cc nL ret R E F kc ks pc lv (a :: b :: d :: st) ws :=
  fun p e s m args below meth c H locs A ls C D hl => lv_dup_x2 C.1 C.2.1 hd ha hb hc (k p e s m args below meth c H locs A ls C D hl)
theorem aw_dup2_11 {a b : Value} (hd : decode cc pc = .ok (.dup2, 1)) (ha : a.category = 1) (hb : b.category = 1) (k : AW g y cc nL ret R E F kc ks (pc + 1) lv (a :: b :: a :: b :: st) ws) : AW g y cc nL ret R E F kc ks pc lv (a :: b :: st) ws :=
  fun p e s m args below meth c H locs A ls C D hl => lv_dup2_11 C.1 C.2.1 hd ha hb (k p e s m args below meth c H locs A ls C D hl)
theorem aw_dup2_2 {a : Value} (hd : decode cc pc = .ok (.dup2, 1)) (ha : a.category = 2) (k : AW g y cc nL ret R E F kc ks (pc + 1) lv (a :: a :: st) ws) : AW g y cc nL ret R E F kc ks pc lv (a :: st) ws :=
  fun p e s m args below meth c H locs A ls C D hl => lv_dup2_2 C.1 C.2.1 hd ha (k p e s m args below meth c H locs A ls C D hl)
theorem aw_pop2_2 {a : Value} (hd : decode cc pc = .ok (.pop2, 1)) (ha : a.category = 2) (k : AW g y cc nL ret R E F kc ks (pc + 1) lv (st) ws) : AW g y cc nL ret R E F kc ks pc lv (a :: st) ws :=
  fun p e s m args below meth c H locs A ls C D hl => lv_pop2_2 C.1 C.2.1 hd ha (k p e s m args below meth c H locs A ls C D hl)
theorem aw_pop2_11 {a b : Value} (hd : decode cc pc = .ok (.pop2, 1)) (ha : a.category = 1) (hb : b.category = 1) (k : AW g y cc nL ret R E F kc ks (pc + 1) lv (st) ws) : AW g y cc nL ret R E F kc ks pc lv (a :: b :: st) ws :=
  fun p e s m args below meth c H locs A ls C D hl => lv_pop2_11 C.1 C.2.1 hd ha hb (k p e s m args below meth c H locs A ls C D hl)
theorem aw_dup2_x1_2 {a b : Value} (hd : decode cc pc = .ok (.dup2_x1, 1)) (ha : a.category = 2) (hb : b.category = 1) (k : AW g y cc nL ret R E F kc ks (pc + 1) lv (a :: b :: a :: st) ws) : AW g y cc nL ret R E F kc ks pc lv (a :: b :: st) ws :=
  fun p e s m args below meth c H locs A ls C D hl => lv_dup2_x1_2 C.1 C.2.1 hd ha hb (k p e s m args below meth c H locs A ls C D hl)
theorem aw_dup2_x2_2 {a b d : Value} (hd : decode cc pc = .ok (.dup2_x2, 1)) (ha : a.category = 2) (hb : b.category = 1) (hc : d.category = 1) (k : AW g y cc nL ret R E F kc ks (pc + 1) lv (a :: b :: d :: a :: st) ws) : AW g y cc nL ret R E F kc ks pc lv (a :: b :: d :: st) ws :=
  fun p e s m args below meth c H locs A ls C D hl => lv_dup2_x2_2 C.1 C.2.1 hd ha hb hc (k p e s m args below meth c H locs A ls C D hl)
theorem aw_if_eq {x : Int32} {off : Int} {tgt : Nat} (hd : decode cc pc = .ok (.ifCond .eq off, 3)) (ht : (pc : Int) + off = (tgt : Int)) (kt : x = 0 → AW g y cc nL ret R E F kc ks tgt lv st ws) (kf : ¬ x = 0 → AW g y cc nL ret R E F kc ks (pc + 3) lv st ws) : AW g y cc nL ret R E F kc ks pc lv (.int x :: st) ws :=
  fun p e s m args below meth c H locs A ls C D hl => lv_if_eq C.1 C.2.1 hd ht (fun h => kt h p e s m args below meth c H locs A ls C D hl) (fun h => kf h p e s m args below meth c H locs A ls C D hl)
theorem aw_icmp_eq {x z : Int32} {off : Int} {tgt : Nat} (hd : decode cc pc = .ok (.if_icmp .eq off, 3)) (ht : (pc : Int) + off = (tgt : Int)) (kt : x = z → AW g y cc nL ret R E F kc ks tgt lv st ws) (kf : ¬ x = z → AW g y cc nL ret R E F kc ks (pc + 3) lv st ws) : AW g y cc nL ret R E F kc ks pc lv (.int z :: .int x :: st) ws :=
  fun p e s m args below meth c H locs A ls C D hl => lv_icmp_eq C.1 C.2.1 hd ht (fun h => kt h p e s m args below meth c H locs A ls C D hl) (fun h => kf h p e s m args below meth c H locs A ls C D hl)
theorem aw_if_ne {x : Int32} {off : Int} {tgt : Nat} (hd : decode cc pc = .ok (.ifCond .ne off, 3)) (ht : (pc : Int) + off = (tgt : Int)) (kt : ¬ x = 0 → AW g y cc nL ret R E F kc ks tgt lv st ws) (kf : x = 0 → AW g y cc nL ret R E F kc ks (pc + 3) lv st ws) : AW g y cc nL ret R E F kc ks pc lv (.int x :: st) ws :=
  fun p e s m args below meth c H locs A ls C D hl => lv_if_ne C.1 C.2.1 hd ht (fun h => kt h p e s m args below meth c H locs A ls C D hl) (fun h => kf h p e s m args below meth c H locs A ls C D hl)
theorem aw_icmp_ne {x z : Int32} {off : Int} {tgt : Nat} (hd : decode cc pc = .ok (.if_icmp .ne off, 3)) (ht : (pc : Int) + off = (tgt : Int)) (kt : ¬ x = z → AW g y cc nL ret R E F kc ks tgt lv st ws) (kf : x = z → AW g y cc nL ret R E F kc ks (pc + 3) lv st ws) : AW g y cc nL ret R E F kc ks pc lv (.int z :: .int x :: st) ws :=
  fun p e s m args below meth c H locs A ls C D hl => lv_icmp_ne C.1 C.2.1 hd ht (fun h => kt h p e s m args below meth c H locs A ls C D hl) (fun h => kf h p e s m args below meth c H locs A ls C D hl)
theorem aw_if_lt {x : Int32} {off : Int} {tgt : Nat} (hd : decode cc pc = .ok (.ifCond .lt off, 3)) (ht : (pc : Int) + off = (tgt : Int)) (kt : x < 0 → AW g y cc nL ret R E F kc ks tgt lv st ws) (kf : ¬ x < 0 → AW g y cc nL ret R E F kc ks (pc + 3) lv st ws) : AW g y cc nL ret R E F kc ks pc lv (.int x :: st) ws :=
  fun p e s m args below meth c H locs A ls C D hl => lv_if_lt C.1 C.2.1 hd ht (fun h => kt h p e s m args below meth c H locs A ls C D hl) (fun h => kf h p e s m args below meth c H locs A ls C D hl)
theorem aw_icmp_lt {x z : Int32} {off : Int} {tgt : Nat} (hd : decode cc pc = .ok (.if_icmp .lt off, 3)) (ht : (pc : Int) + off = (tgt : Int)) (kt : x < z → AW g y cc nL ret R E F kc ks tgt lv st ws) (kf : ¬ x < z → AW g y cc nL ret R E F kc ks (pc + 3) lv st ws) : AW g y cc nL ret R E F kc ks pc lv (.int z :: .int x :: st) ws :=
  fun p e s m args below meth c H locs A ls C D hl => lv_icmp_lt C.1 C.2.1 hd ht (fun h => kt h p e s m args below meth c H locs A ls C D hl) (fun h => kf h p e s m args below meth c H locs A ls C D hl)
theorem aw_if_ge {x : Int32} {off : Int} {tgt : Nat} (hd : decode cc pc = .ok (.ifCond .ge off, 3)) (ht : (pc : Int) + off = (tgt : Int)) (kt : 0 ≤ x → AW g y cc nL ret R E F kc ks tgt lv st ws) (kf : ¬ 0 ≤ x → AW g y cc nL ret R E F kc ks (pc + 3) lv st ws) : AW g y cc nL ret R E F kc ks pc lv (.int x :: st) ws :=
  fun p e s m args below meth c H locs A ls C D hl => lv_if_ge C.1 C.2.1 hd ht (fun h => kt h p e s m args below meth c H locs A ls C D hl) (fun h => kf h p e s m args below meth c H locs A ls C D hl)
theorem aw_icmp_ge {x z : Int32} {off : Int} {tgt : Nat} (hd : decode cc pc = .ok (.if_icmp .ge off, 3)) (ht : (pc : Int) + off = (tgt : Int)) (kt : z ≤ x → AW g y cc nL ret R E F kc ks tgt lv st ws) (kf : ¬ z ≤ x → AW g y cc nL ret R E F kc ks (pc + 3) lv st ws) : AW g y cc nL ret R E F kc ks pc lv (.int z :: .int x :: st) ws :=
  fun p e s m args below meth c H locs A ls C D hl => lv_icmp_ge C.1 C.2.1 hd ht (fun h => kt h p e s m args below meth c H locs A ls C D hl) (fun h => kf h p e s m args below meth c H locs A ls C D hl)
theorem aw_if_gt {x : Int32} {off : Int} {tgt : Nat} (hd : decode cc pc = .ok (.ifCond .gt off, 3)) (ht : (pc : Int) + off = (tgt : Int)) (kt : 0 < x → AW g y cc nL ret R E F kc ks tgt lv st ws) (kf : ¬ 0 < x → AW g y cc nL ret R E F kc ks (pc + 3) lv st ws) : AW g y cc nL ret R E F kc ks pc lv (.int x :: st) ws :=
  fun p e s m args below meth c H locs A ls C D hl => lv_if_gt C.1 C.2.1 hd ht (fun h => kt h p e s m args below meth c H locs A ls C D hl) (fun h => kf h p e s m args below meth c H locs A ls C D hl)
theorem aw_icmp_gt {x z : Int32} {off : Int} {tgt : Nat} (hd : decode cc pc = .ok (.if_icmp .gt off, 3)) (ht : (pc : Int) + off = (tgt : Int)) (kt : z < x → AW g y cc nL ret R E F kc ks tgt lv st ws) (kf : ¬ z < x → AW g y cc nL ret R E F kc ks (pc + 3) lv st ws) : AW g y cc nL ret R E F kc ks pc lv (.int z :: .int x :: st) ws :=
  fun p e s m args below meth c H locs A ls C D hl => lv_icmp_gt C.1 C.2.1 hd ht (fun h => kt h p e s m args below meth c H locs A ls C D hl) (fun h => kf h p e s m args below meth c H locs A ls C D hl)
theorem aw_if_le {x : Int32} {off : Int} {tgt : Nat} (hd : decode cc pc = .ok (.ifCond .le off, 3)) (ht : (pc : Int) + off = (tgt : Int)) (kt : x ≤ 0 → AW g y cc nL ret R E F kc ks tgt lv st ws) (kf : ¬ x ≤ 0 → AW g y cc nL ret R E F kc ks (pc + 3) lv st ws) : AW g y cc nL ret R E F kc ks pc lv (.int x :: st) ws :=
  fun p e s m args below meth c H locs A ls C D hl => lv_if_le C.1 C.2.1 hd ht (fun h => kt h p e s m args below meth c H locs A ls C D hl) (fun h => kf h p e s m args below meth c H locs A ls C D hl)
theorem aw_icmp_le {x z : Int32} {off : Int} {tgt : Nat} (hd : decode cc pc = .ok (.if_icmp .le off, 3)) (ht : (pc : Int) + off = (tgt : Int)) (kt : x ≤ z → AW g y cc nL ret R E F kc ks tgt lv st ws) (kf : ¬ x ≤ z → AW g y cc nL ret R E F kc ks (pc + 3) lv st ws) : AW g y cc nL ret R E F kc ks pc lv (.int z :: .int x :: st) ws :=
  fun p e s m args below meth c H locs A ls C D hl => lv_icmp_le C.1 C.2.1 hd ht (fun h => kt h p e s m args below meth c H locs A ls C D hl) (fun h => kf h p e s m args below meth c H locs A ls C D hl)
theorem aw_goto {off : Int} {tgt : Nat} (hd : decode cc pc = .ok (.goto off, 3)) (ht : (pc : Int) + off = (tgt : Int)) (k : AW g y cc nL ret R E F kc ks tgt lv st ws) : AW g y cc nL ret R E F kc ks pc lv st ws :=
  fun p e s m args below meth c H locs A ls C D hl => lv_goto C.1 C.2.1 hd ht (k p e s m args below meth c H locs A ls C D hl)
theorem aw_ret {Q : Option Value → va_W → Prop} {v : Option Value} {A : Nat → Prop} {s t : State} {H : Heap} {locs : List Loc} {args : Array Value} (D : aw_wd g A s H locs ws) (hq : Q v ws) (ht : t.heap = H) (hW : s.WarmedH t.vm) : aw_Q g Q A args s (.returned v) t :=
  ⟨⟨v, ws, rfl, hq, by rw [ht]; exact D.2.2.1, va_K.moved hW.alike D.2.1, D.2.2.2⟩, D.1.F ht⟩
theorem aw_iret {Q : Option Value → va_W → Prop} {mc ms : Nat} {v : Int32} (hd : decode cc pc = .ok (.ireturn, 1)) (h1 : kc ≤ mc) (h2 : ks ≤ ms) (hq : Q (some (.int v)) ws) : AW g y cc nL (some .int) R E (aw_F g Q mc ms) kc ks pc lv [.int v] ws :=
  fun p e s m args below meth c H locs A ls C D hl => W.widen h1 h2 (W.iret C.1 C.2.1 C.2.2.1 (fun t ht hW => aw_ret D hq ht hW) D.1.2.2 hd (hlocks := C.2.2.2.2.2.2.1))
theorem aw_lret {Q : Option Value → va_W → Prop} {mc ms : Nat} {v : Int64} (hd : decode cc pc = .ok (.lreturn, 1)) (h1 : kc ≤ mc) (h2 : ks ≤ ms) (hq : Q (some (.long v)) ws) : AW g y cc nL (some .long) R E (aw_F g Q mc ms) kc ks pc lv [.long v] ws :=
  fun p e s m args below meth c H locs A ls C D hl => W.widen h1 h2 (W.lret C.1 C.2.1 C.2.2.1 (fun t ht hW => aw_ret D hq ht hW) D.1.2.2 hd (hlocks := C.2.2.2.2.2.2.1))
theorem aw_zret {Q : Option Value → va_W → Prop} {mc ms : Nat} {v : Int32} {ty : FieldType} (hd : decode cc pc = .ok (.ireturn, 1)) (hn : narrow ty (.int v) = .int v) (h1 : kc ≤ mc) (h2 : ks ≤ ms) (hq : Q (some (.int v)) ws) : AW g y cc nL (some ty) R E (aw_F g Q mc ms) kc ks pc lv [.int v] ws :=
  fun p e s m args below meth c H locs A ls C D hl => W.widen h1 h2 (W.zret C.1 C.2.1 C.2.2.1 hn (fun t ht hW => aw_ret D hq ht hW) D.1.2.2 hd (hlocks := C.2.2.2.2.2.2.1))
theorem aw_vret {Q : Option Value → va_W → Prop} {mc ms : Nat} (hd : decode cc pc = .ok (.return_, 1)) (h1 : kc ≤ mc) (h2 : ks ≤ ms) (hq : Q none ws) : AW g y cc nL none R E (aw_F g Q mc ms) kc ks pc lv [] ws :=
  fun p e s m args below meth c H locs A ls C D hl => W.widen h1 h2 (W.vret C.1 C.2.1 C.2.2.1 (fun t ht hW => aw_ret D hq ht hW) D.1.2.2 hd (hlocks := C.2.2.2.2.2.2.1))
def aw_cc (ci : Nat) (Cn : String) (T : u_T) (N : Nat) (ty : Nat → FieldType) : Prop := vwCl[ci]? = some (Cn, T, N) ∧ (∀ w ∈ u_ws Cn T N, w ∈ aw_WS) ∧ (∀ k, k < N → parseFieldDescriptor (T k).2.2.1 = some (ty k)) ∧ (∀ a, a < N → ∀ b, b < N → a ≠ b → (T a).2.1 ≠ (T b).2.1)
theorem aw_get {ci N index a : Nat} {Cn : String} {T : u_T} {ty : Nat → FieldType} {fs : List Value} {v : Value} (K : aw_cc ci Cn T N ty) (i : Nat) (hi : i < N) (hw : Cond.fieldLink y.cls index (T i).1 (T i).2.1 (T i).2.2.1 ∈ aw_WS) (hd : decode cc pc = .ok (.getfield index, 3)) {q0 : Nat} (he : ws[q0]? = some (a, .inr (ci, fs))) (hv : fs[i]? = some v) (k : AW g y cc nL ret R E F kc ks (pc + 3) lv (v :: st) ws) : AW g y cc nL ret R E F kc ks pc lv (.ref a :: st) ws :=
  fun p e s m args below meth c H locs A ls C D hl => va_get (Ts := aw_WS) C.1 C.2.1 C.2.2.2.2.2.1 K.2.1 C.2.2.2.2.1 D.2.1 D.2.2.1 q0 he K.1 i hi (C.2.2.2.2.2.1 _ hw) (fun _ h9 => h9) hv hd (k p e s m args below meth c H locs A ls C D hl)
theorem aw_put {ci N index a : Nat} {Cn : String} {T : u_T} {ty : Nat → FieldType} {fs : List Value} {v : Value} (K : aw_cc ci Cn T N ty) (i : Nat) (hi : i < N) (hw : Cond.fieldLink y.cls index (T i).1 (T i).2.1 (T i).2.2.1 ∈ aw_WS) (hd : decode cc pc = .ok (.putfield index, 3)) {q0 : Nat} (he : ws[q0]? = some (a, .inr (ci, fs))) (hfin : (T i).2.2.2 = false) (hn : narrow (ty i) v = v) (hfit : fits (ty i) v = true) (hlen : i < fs.length) (k : AW g y cc nL ret R E F kc ks (pc + 3) lv st (ws.set q0 (a, .inr (ci, fs.set i v)))) : AW g y cc nL ret R E F kc ks pc lv (v :: .ref a :: st) ws :=
  fun p e s m args below meth c H locs A ls C D hl => va_put (Ts := aw_WS) C.1 C.2.1 C.2.2.2.2.2.1 K.2.1 ty K.2.2.1 K.2.2.2 C.2.2.2.2.1 D.2.1 D.2.2.1 D.2.2.2 D.1 q0 he K.1 i hi (C.2.2.2.2.2.1 _ hw) (fun _ h9 => h9) hfin (K.2.2.1 i hi) hn hfit hlen hd (fun H locs hP hD hS => k p e s m args below meth c H locs A ls C ⟨hS, D.2.1, hP, hD⟩ hl)
theorem aw_putF {ci N index a : Nat} {Cn : String} {T : u_T} {ty : Nat → FieldType} {fs : List Value} {v : Value} (K : aw_cc ci Cn T N ty) (i : Nat) (hi : i < N) (hw : Cond.fieldLink y.cls index (T i).1 (T i).2.1 (T i).2.2.1 ∈ aw_WS) (hd : decode cc pc = .ok (.putfield index, 3)) {q0 : Nat} (he : ws[q0]? = some (a, .inr (ci, fs))) (hfin : (T i).2.2.2 = true) (hin : y.name = "<init>") (hde : (T i).1 = y.cls) (hn : narrow (ty i) v = v) (hfit : fits (ty i) v = true) (hlen : i < fs.length) (k : AW g y cc nL ret R E F kc ks (pc + 3) lv st (ws.set q0 (a, .inr (ci, fs.set i v)))) : AW g y cc nL ret R E F kc ks pc lv (v :: .ref a :: st) ws :=
  fun p e s m args below meth c H locs A ls C D hl => va_putF (Ts := aw_WS) C.1 C.2.1 C.2.2.2.2.2.1 K.2.1 ty K.2.2.1 K.2.2.2 C.2.2.2.2.1 D.2.1 D.2.2.1 D.2.2.2 D.1 q0 he K.1 i hi (C.2.2.2.2.2.1 _ hw) (fun _ h9 => h9) hfin (C.2.2.2.2.2.2.2.1.trans hin) hde (K.2.2.1 i hi) hn hfit hlen hd (fun H locs hP hD hS => k p e s m args below meth c H locs A ls C ⟨hS, D.2.1, hP, hD⟩ hl)
theorem aw_iald {a n t0 q0 : Nat} {cA : ClassId} {f : Nat → Int32} {i : Int32} (hd : decode cc pc = .ok (.iaload, 1)) (he : ws[q0]? = some (a, .inl (cA, n, .inl f))) (ht : g.2.2[t0]? = some (cA, .int)) (hin : vp_in i n) (k : AW g y cc nL ret R E F kc ks (pc + 1) lv (.int (f i.toNatClampNeg) :: st) ws) : AW g y cc nL ret R E F kc ks pc lv (.int i :: .ref a :: st) ws :=
  fun p e s m args below meth c H locs A ls C D hl => va_iald C.1 C.2.1 D.2.1 D.2.2.1 q0 t0 he ht hin hd (k p e s m args below meth c H locs A ls C D hl)
theorem aw_iast {a n t0 q0 : Nat} {cA : ClassId} {f : Nat → Int32} {i : Int32} {x : Int32} (hd : decode cc pc = .ok (.iastore, 1)) (he : ws[q0]? = some (a, .inl (cA, n, .inl f))) (ht : g.2.2[t0]? = some (cA, .int)) (hin : vp_in i n) (k : AW g y cc nL ret R E F kc ks (pc + 1) lv st (ws.set q0 (a, .inl (cA, n, .inl (upd f i.toNatClampNeg x))))) : AW g y cc nL ret R E F kc ks pc lv (.int x :: .int i :: .ref a :: st) ws :=
  fun p e s m args below meth c H locs A ls C D hl => va_iast C.1 C.2.1 D.2.1 D.2.2.1 D.2.2.2 D.1 q0 t0 he ht hin hd (fun H locs hP hD hS => k p e s m args below meth c H locs A ls C ⟨hS, D.2.1, hP, hD⟩ hl)
theorem aw_lald {a n t0 q0 : Nat} {cA : ClassId} {f : Nat → Int64} {i : Int32} (hd : decode cc pc = .ok (.laload, 1)) (he : ws[q0]? = some (a, .inl (cA, n, .inr (.inl f)))) (ht : g.2.2[t0]? = some (cA, .long)) (hin : vp_in i n) (k : AW g y cc nL ret R E F kc ks (pc + 1) lv (.long (f i.toNatClampNeg) :: st) ws) : AW g y cc nL ret R E F kc ks pc lv (.int i :: .ref a :: st) ws :=
  fun p e s m args below meth c H locs A ls C D hl => va_lald C.1 C.2.1 D.2.1 D.2.2.1 q0 t0 he ht hin hd (k p e s m args below meth c H locs A ls C D hl)
theorem aw_last {a n t0 q0 : Nat} {cA : ClassId} {f : Nat → Int64} {i : Int32} {x : Int64} (hd : decode cc pc = .ok (.lastore, 1)) (he : ws[q0]? = some (a, .inl (cA, n, .inr (.inl f)))) (ht : g.2.2[t0]? = some (cA, .long)) (hin : vp_in i n) (k : AW g y cc nL ret R E F kc ks (pc + 1) lv st (ws.set q0 (a, .inl (cA, n, .inr (.inl (vp_updL f i.toNatClampNeg x)))))) : AW g y cc nL ret R E F kc ks pc lv (.long x :: .int i :: .ref a :: st) ws :=
  fun p e s m args below meth c H locs A ls C D hl => va_last C.1 C.2.1 D.2.1 D.2.2.1 D.2.2.2 D.1 q0 t0 he ht hin hd (fun H locs hP hD hS => k p e s m args below meth c H locs A ls C ⟨hS, D.2.1, hP, hD⟩ hl)
theorem aw_alen {a t0 q0 : Nat} {cA : ClassId} {x : vp_A} {fty : FieldType} {v : Int32} (hd : decode cc pc = .ok (.arraylength, 1)) (he : ws[q0]? = some (a, .inl (cA, x))) (ht : g.2.2[t0]? = some (cA, fty)) (hv : Int32.ofNat x.1 = v) (k : AW g y cc nL ret R E F kc ks (pc + 1) lv (.int v :: st) ws) : AW g y cc nL ret R E F kc ks pc lv (.ref a :: st) ws :=
  fun p e s m args below meth c H locs A ls C D hl => va_alen C.1 C.2.1 D.2.1 D.2.2.1 q0 t0 he ht hv hd (k p e s m args below meth c H locs A ls C D hl)
theorem aw_aald {a n t0 q0 b : Nat} {cA : ClassId} {t : FieldType} {f : Nat → Option Nat} {i : Int32} (hd : decode cc pc = .ok (.aaload, 1)) (he : ws[q0]? = some (a, .inl (cA, n, .inr (.inr (.inr (.inr f)))))) (ht : g.2.2[t0]? = some (cA, .array t)) (hin : vp_in i n) (hf : f i.toNatClampNeg = some b) (k : AW g y cc nL ret R E F kc ks (pc + 1) lv (.ref b :: st) ws) : AW g y cc nL ret R E F kc ks pc lv (.int i :: .ref a :: st) ws :=
  fun p e s m args below meth c H locs A ls C D hl => W.aald (v := va_rf (f i.toNatClampNeg)) (ty := .array t) C.1 C.2.1 (D.2.2.1 q0 _ he) ((D.2.1.2 t0 _ ht).1 n (fun j => va_rf (f j))) rfl (fun q => by cases q) (by show ¬ (i < 0 ∨ (arrV _ _ _).slots.size ≤ _); rw [arrV_size]; exact hin) (by show (arrV _ _ _).slots[_]? = _; rw [arrV_read _ _ (Nat.not_le.mp fun q => hin (Or.inr q))]) rfl rfl hd (by rw [hf]; exact (k p e s m args below meth c H locs A ls C D hl))
theorem aw_new {ci N index : Nat} {Cn : String} {T : u_T} {ty : Nat → FieldType} {fs : List Value} (K : aw_cc ci Cn T N ty) (hw1 : Cond.classLink y.cls index Cn ∈ aw_WS) (hw2 : Cond.instantiable Cn N ∈ aw_WS) (hw3 : Cond.initialized Cn ∈ aw_WS) (hd : decode cc pc = .ok (.new index, 3)) (hfs : ∀ j, j < N → defaultValue (ty j) = vp_V fs j) (hc : kc + 1 ≤ R.cells) (hs : ks + N ≤ R.slots) (k : ∀ q : Nat, AW g y cc nL ret R E F (kc + 1) (ks + N) (pc + 3) lv (.ref q :: st) (ws ++ [(q, .inr (ci, fs))])) : AW g y cc nL ret R E F kc ks pc lv st ws :=
  fun p e s m args below meth c H locs A ls C D hl => va_new (Ts := aw_WS) C.1 C.2.1 C.2.2.2.2.2.1 K.2.1 ty K.2.2.1 C.2.2.2.2.1 (C.2.2.2.2.2.1 _ hw1) (C.2.2.2.2.2.1 _ hw2) (C.2.2.2.2.2.1 _ hw3) D.2.1 D.2.2.1 D.2.2.2 D.1 C.2.2.2.2.2.2.2.2.1 K.1 hfs hc hs hd (fun q H hP hD hS => k q p e s m args below meth c H locs A ls C ⟨hS, D.2.1, hP, hD⟩ hl)
theorem aw_newai {t0 N : Nat} {cA : ClassId} {n : Int32} (hd : decode cc pc = .ok (.newarray .int, 2)) (hw : Cond.arrayClass .int ∈ aw_WS) (ht : g.2.2[t0]? = some (cA, .int)) (hn : ¬ n < 0) (hN : n.toNatClampNeg = N) (hby : N * componentBytes .int ≤ 536870912) (hc : kc + 1 ≤ R.cells) (hs : ks + N ≤ R.slots) (k : ∀ q : Nat, AW g y cc nL ret R E F (kc + 1) (ks + N) (pc + 2) lv (.ref q :: st) (ws ++ [(q, .inl (cA, N, .inl (fun _ => 0)))])) : AW g y cc nL ret R E F kc ks pc lv (.int n :: st) ws := by
  intro p e s m args below meth c H locs A ls C D hl
  refine va_newa (atype := .int) (ty := .int) (a0 := (N, .inl (fun _ => 0))) C.1 C.2.1 (C.2.2.2.2.2.1 _ hw) rfl D.2.1 D.2.2.1 D.2.2.2 D.1 C.2.2.2.2.2.2.2.2.1 (fun cA => rfl) hn hN hby hc hs hd (fun q cB H1 hK hP hD hS => ?_)
  have e1 := (hK.2 g.2.2.length (cB, .int) (by rw [List.getElem?_append_right (Nat.le_refl _), Nat.sub_self]; rfl)).2
  have e2 := (D.2.1.2 t0 _ ht).2
  have e3 : cA = cB := Option.some.inj (e2.symm.trans e1)
  subst e3
  exact k q p e s m args below meth c H1 locs A ls C ⟨hS, D.2.1, hP, hD⟩ hl
theorem aw_newal {t0 N : Nat} {cA : ClassId} {n : Int32} (hd : decode cc pc = .ok (.newarray .long, 2)) (hw : Cond.arrayClass .long ∈ aw_WS) (ht : g.2.2[t0]? = some (cA, .long)) (hn : ¬ n < 0) (hN : n.toNatClampNeg = N) (hby : N * componentBytes .long ≤ 536870912) (hc : kc + 1 ≤ R.cells) (hs : ks + N ≤ R.slots) (k : ∀ q : Nat, AW g y cc nL ret R E F (kc + 1) (ks + N) (pc + 2) lv (.ref q :: st) (ws ++ [(q, .inl (cA, N, .inr (.inl (fun _ => 0))))])) : AW g y cc nL ret R E F kc ks pc lv (.int n :: st) ws := by
  intro p e s m args below meth c H locs A ls C D hl
  refine va_newa (atype := .long) (ty := .long) (a0 := (N, .inr (.inl (fun _ => 0)))) C.1 C.2.1 (C.2.2.2.2.2.1 _ hw) rfl D.2.1 D.2.2.1 D.2.2.2 D.1 C.2.2.2.2.2.2.2.2.1 (fun cA => rfl) hn hN hby hc hs hd (fun q cB H1 hK hP hD hS => ?_)
  have e1 := (hK.2 g.2.2.length (cB, .long) (by rw [List.getElem?_append_right (Nat.le_refl _), Nat.sub_self]; rfl)).2
  have e2 := (D.2.1.2 t0 _ ht).2
  have e3 : cA = cB := Option.some.inj (e2.symm.trans e1)
  subst e3
  exact k q p e s m args below meth c H1 locs A ls C ⟨hS, D.2.1, hP, hD⟩ hl
theorem aw_mr {m : MethodId} {pc : Nat} {ls : Array Slot} {st : List Value} {x r : Nat} (h : x + 12 ≤ r) : 2 * (F0 m pc ls st).monitorRoom + x + 12 ≤ r := by
  have z : (F0 m pc ls st).monitorRoom = 0 := rfl
  rw [z]; omega
theorem aw_objInit {idx a : Nat} (hd : decode cc pc = .ok (.invokespecial idx, 3)) (w1 : Cond.methodLink y.cls idx Lib.objectInit ∈ aw_WS) (w2 : Cond.instanceMethod Lib.objectInit ∈ aw_WS) (w3 : Cond.code Lib.objectInit ⟨#[0xb1]⟩ 1 none ∈ aw_WS) (h1 : 1 ≤ R.frames) (h2 : (st.map fun v => v.category).sum + 12 ≤ R.locals) (k : AW g y cc nL ret R E F kc ks (pc + 3) lv st ws) : AW g y cc nL ret R E F kc ks pc lv (.ref a :: st) ws :=
  fun p e s m args below meth c H locs A ls C D hl => W.objInit C.1 C.2.1 C.2.2.2.2.1 (C.2.2.2.2.2.1 _ w1) (C.2.2.2.2.2.1 _ w2) (C.2.2.2.2.2.1 _ w3) rfl (hl.1.trans C.2.2.2.1.symm) rfl hd h1 (aw_mr h2) (k p e s m args below meth c H locs A ls C D hl)
def aw_card (y : MethodName) (cc : ByteArray) (nL : Nat) (ret : Option FieldType) (n : Nat) : Prop := Cond.code y cc nL ret ∈ aw_WS ∧ Cond.initialized y.cls ∈ aw_WS ∧ y.cls ≠ "java/lang/invoke/MethodHandle" ∧ y.cls ≠ "java/lang/invoke/VarHandle" ∧ (parseMethodDescriptor y.desc).map (fun d => d.parameters.length) = some n
theorem aw_after {p : Program} {e : Env} {s : State} {m : MethodId} {args : Array Value} {below : List Frame} {meth : Method} {c : Code} {H : Heap} {locs : List Loc} {A : Nat → Prop} {ls : Array Slot} {Qf : State → Prop} {Q2 : Option Value → va_W → Prop} {mc2 ms2 : Nat} {st0 rest : List Value} {a : Array Value}
    (hr : va_Run p g.1 e R s m args below meth c H locs kc ks mc2 ms2 (F0 m pc ls st0) rest (aw_Q g Q2 (va_A ws H.size) a) (va_A ws H.size)) (D : aw_wd g A s H locs ws) (hA : ∀ q : Nat, s.heap.size ≤ q → A q)
    (kk : ∀ (v : Option Value) (ws' : va_W) (H1 : Heap) (locs1 : List Loc), Q2 v ws' → aw_wd g A s H1 locs1 ws' → W p g.1 e R s m args below meth c H1 locs1 (kc + mc2) (ks + ms2) Qf (F0 m (pc + 3) ls (v.toList ++ rest))) : W p g.1 e R s m args below meth c H locs kc ks Qf (F0 m pc ls st0) := by
  have hf : ∀ q, va_A ws H.size q → A q := fun q h => by
    rcases h with ⟨k, e', hk⟩ | h
    · exact D.2.2.2.2 k _ hk
    · exact hA q (Nat.le_trans D.1.1 h)
  intro T hT X
  obtain ⟨v, st₀, t, T', L, h0, X', hL, e1, e2, ⟨⟨v', ws', hv, hq, hP, hK, hD⟩, hz, hk⟩, stp⟩ := hr T hT X
  cases hv
  rw [h0] at hz hk
  obtain ⟨t2, a1, b1⟩ := kk v ws' T'.heap (locs ++ L) hq ⟨⟨Nat.le_trans D.1.1 (by rw [e1]; exact hz), fun q h1 h2 => by rw [e1, hk q (Nat.lt_of_lt_of_le h1 D.1.1) (fun z => h2 (hf q z))]; exact D.1.2.1 q h1 h2, fun q hq => by
      rcases List.mem_append.mp hq with h | h
      · exact D.1.2.2 q h
      · exact hf _ (hL q h)⟩, D.2.1, by rw [e1]; exact hP, hD.weaken (fun _ _ _ h => hf _ h)⟩ T' rfl X'
  exact ⟨t2, stp t2 a1, b1⟩
theorem aw_pre {s : State} {H : Heap} {locs : List Loc} {A : Nat → Prop} (av : List Value) (D : aw_wd g A s H locs ws) (hN : aw_NK s) : FrameBlind (aw_Pc g av ws H.size) ∧ ∀ U : State, U.heap = H → s.WarmedH U.vm → aw_Pc g av ws H.size av.toArray U :=
  ⟨fun a U gg mk q => by
    obtain ⟨q0, q1, qP, qK, qD, qN⟩ := q
    exact ⟨q0, q1, qP, va_K.moved (u := U) (U := U.calling gg mk a) (Vm.Alike.refl U.vm) qK, qD, aw_NK.same (s := U) (U := U.calling gg mk a) rfl qN⟩, fun U hU hW => ⟨rfl, by rw [hU], by rw [hU]; exact D.2.2.1, va_K.moved hW.alike D.2.1, D.2.2.2.weaken (fun _ _ _ _ => trivial), hN.warm hW⟩⟩
theorem aw_callS {y2 : MethodName} {cc2 : ByteArray} {nL2 : Nat} {ret2 : Option FieldType} {n d2 mc2 ms2 idx : Nat} {av rest : List Value} {Q2 : Option Value → va_W → Prop} (hM : AMet g y2 cc2 nL2 ret2 d2 av ws Q2 mc2 ms2) (hK : aw_card y2 cc2 nL2 ret2 n) (w1 : Cond.methodLink y.cls idx y2 ∈ aw_WS) (w2 : Cond.static y2 ∈ aw_WS) (hd : decode cc pc = .ok (.invokestatic idx, 3)) (hn : av.length = n) (hR : d2 + 1 ≤ R.frames ∧ 8 + (nL2 + 11) + 48 * d2 ≤ R.locals) (hcat : (rest.map fun v => v.category).sum ≤ 8) (hf : kc + mc2 ≤ R.cells ∧ ks + ms2 ≤ R.slots) {st0 : List Value} (hst : st0 = av.reverse ++ rest) (k : ∀ (v : Option Value) (ws' : va_W), Q2 v ws' → AW g y cc nL ret R E F (kc + mc2) (ks + ms2) (pc + 3) lv (v.toList ++ rest) ws') : AW g y cc nL ret R E F kc ks pc lv st0 ws := by
  intro p e s m args below meth c H locs A ls C D hl
  exact aw_after (va_runS (Ts := aw_WS) (own := y.cls) (As := av) (rest := rest) ⟨C.1, C.2.1, C.2.2.2.1, C.2.2.2.2.1, C.2.2.2.2.2.1⟩ (hM H.size) ⟨callB_of n C.2.2.2.2.2.1 (aw_goodIn y2 cc2 nL2 ret2 hK.1) rfl rfl rfl (C.2.2.2.2.2.1 _ hK.2.1) (C.2.2.2.2.2.1 _ w1) hK.2.2 hR, C.2.2.2.2.2.1 _ w2⟩ (aw_pre av D C.2.2.2.2.2.2.2.2.2.2) rfl hn hl.1 hst (lv_room hcat) hd hf) D C.2.2.2.2.2.2.2.2.1 (fun v ws' H1 locs1 hq D' => k v ws' hq p e s m args below meth c H1 locs1 A ls C D' hl)
theorem aw_callSN {y2 : MethodName} {cc2 : ByteArray} {nL2 : Nat} {ret2 : Option FieldType} {n d2 mc2 ms2 idx : Nat} {av rest : List Value} {Q2 : Option Value → va_W → Prop} {host : String} (hM : AMet g y2 cc2 nL2 ret2 d2 av ws Q2 mc2 ms2) (hK : aw_card y2 cc2 nL2 ret2 n) (w1 : Cond.methodLinkNest y.cls idx y2 host ∈ aw_NW) (w2 : Cond.static y2 ∈ aw_WS) (hd : decode cc pc = .ok (.invokestatic idx, 3)) (hn : av.length = n) (hR : d2 + 1 ≤ R.frames ∧ 8 + (nL2 + 11) + 48 * d2 ≤ R.locals) (hcat : (rest.map fun v => v.category).sum ≤ 8) (hf : kc + mc2 ≤ R.cells ∧ ks + ms2 ≤ R.slots) {st0 : List Value} (hst : st0 = av.reverse ++ rest) (k : ∀ (v : Option Value) (ws' : va_W), Q2 v ws' → AW g y cc nL ret R E F (kc + mc2) (ks + ms2) (pc + 3) lv (v.toList ++ rest) ws') : AW g y cc nL ret R E F kc ks pc lv st0 ws := by
  intro p e s m args below meth c H locs A ls C D hl
  exact aw_after (va_runSN (Ts := aw_WS) (own := y.cls) (As := av) (rest := rest) ⟨C.1, C.2.1, C.2.2.2.1, C.2.2.2.2.1, C.2.2.2.2.2.1⟩ (hM H.size) ⟨va_cnB n C.2.2.2.2.2.1 (aw_goodIn y2 cc2 nL2 ret2 hK.1) rfl rfl rfl (C.2.2.2.2.2.2.2.2.2.2.1 _ w1) (C.2.2.2.2.2.1 _ hK.2.1) hK.2.2 hR, C.2.2.2.2.2.1 _ w2, trivial⟩ (aw_pre av D C.2.2.2.2.2.2.2.2.2.2) rfl hn hl.1 hst (lv_room hcat) hd hf) D C.2.2.2.2.2.2.2.2.1 (fun v ws' H1 locs1 hq D' => k v ws' hq p e s m args below meth c H1 locs1 A ls C D' hl)
theorem aw_callV {y2 : MethodName} {cc2 : ByteArray} {nL2 : Nat} {ret2 : Option FieldType} {n d2 mc2 ms2 idx : Nat} {av rest : List Value} {Q2 : Option Value → va_W → Prop} {b : Nat} {ci N q0 : Nat} {Cn : String} {T : u_T} {fs : List Value} (hM : AMet g y2 cc2 nL2 ret2 d2 (.ref b :: av) ws Q2 mc2 ms2) (hK : aw_card y2 cc2 nL2 ret2 n) (w1 : Cond.methodLink y.cls idx y2 ∈ aw_WS) (w2 : Cond.instanceMethod y2 ∈ aw_WS) (w3 : Cond.selects Cn y2 y2 ∈ aw_WS) (hc : vwCl[ci]? = some (Cn, T, N)) (he : ws[q0]? = some (b, .inr (ci, fs))) (hd : decode cc pc = .ok (.invokevirtual idx, 3)) (hn : av.length = n) (hR : d2 + 1 ≤ R.frames ∧ 8 + (nL2 + 11) + 48 * d2 ≤ R.locals) (hcat : (rest.map fun v => v.category).sum ≤ 8) (hf : kc + mc2 ≤ R.cells ∧ ks + ms2 ≤ R.slots) {st0 : List Value} (hst : st0 = av.reverse ++ .ref b :: rest) (k : ∀ (v : Option Value) (ws' : va_W), Q2 v ws' → AW g y cc nL ret R E F (kc + mc2) (ks + ms2) (pc + 3) lv (v.toList ++ rest) ws') : AW g y cc nL ret R E F kc ks pc lv st0 ws := by
  intro p e s m args below meth c H locs A ls C D hl
  exact aw_after (va_runV (Ts := aw_WS) (own := y.cls) (As := av) (rest := rest) ⟨C.1, C.2.1, C.2.2.2.1, C.2.2.2.2.1, C.2.2.2.2.2.1⟩ (hM H.size) ⟨callB_of n C.2.2.2.2.2.1 (aw_goodIn y2 cc2 nL2 ret2 hK.1) rfl rfl rfl (C.2.2.2.2.2.1 _ hK.2.1) (C.2.2.2.2.2.1 _ w1) hK.2.2 hR, C.2.2.2.2.2.1 _ w2, C.2.2.2.2.2.1 _ w3⟩ ⟨(aw_pre (.ref b :: av) D C.2.2.2.2.2.2.2.2.2.2).1, va_recv D.2.1 D.2.2.1 hc he, (aw_pre (.ref b :: av) D C.2.2.2.2.2.2.2.2.2.2).2⟩ rfl hn hl.1 hst (lv_room hcat) hd hf) D C.2.2.2.2.2.2.2.2.1 (fun v ws' H1 locs1 hq D' => k v ws' hq p e s m args below meth c H1 locs1 A ls C D' hl)
theorem aw_callVN {y2 : MethodName} {cc2 : ByteArray} {nL2 : Nat} {ret2 : Option FieldType} {n d2 mc2 ms2 idx : Nat} {av rest : List Value} {Q2 : Option Value → va_W → Prop} {b : Nat} {ci N q0 : Nat} {Cn : String} {T : u_T} {fs : List Value} {host : String} (hM : AMet g y2 cc2 nL2 ret2 d2 (.ref b :: av) ws Q2 mc2 ms2) (hK : aw_card y2 cc2 nL2 ret2 n) (w1 : Cond.methodLinkNest y.cls idx y2 host ∈ aw_NW) (w2 : Cond.instanceMethod y2 ∈ aw_WS) (w3 : Cond.selects Cn y2 y2 ∈ aw_WS) (hc : vwCl[ci]? = some (Cn, T, N)) (he : ws[q0]? = some (b, .inr (ci, fs))) (hd : decode cc pc = .ok (.invokevirtual idx, 3)) (hn : av.length = n) (hR : d2 + 1 ≤ R.frames ∧ 8 + (nL2 + 11) + 48 * d2 ≤ R.locals) (hcat : (rest.map fun v => v.category).sum ≤ 8) (hf : kc + mc2 ≤ R.cells ∧ ks + ms2 ≤ R.slots) {st0 : List Value} (hst : st0 = av.reverse ++ .ref b :: rest) (k : ∀ (v : Option Value) (ws' : va_W), Q2 v ws' → AW g y cc nL ret R E F (kc + mc2) (ks + ms2) (pc + 3) lv (v.toList ++ rest) ws') : AW g y cc nL ret R E F kc ks pc lv st0 ws := by
  intro p e s m args below meth c H locs A ls C D hl
  exact aw_after (va_runVN (Ts := aw_WS) (own := y.cls) (As := av) (rest := rest) ⟨C.1, C.2.1, C.2.2.2.1, C.2.2.2.2.1, C.2.2.2.2.2.1⟩ (hM H.size) ⟨va_cnB n C.2.2.2.2.2.1 (aw_goodIn y2 cc2 nL2 ret2 hK.1) rfl rfl rfl (C.2.2.2.2.2.2.2.2.2.2.1 _ w1) (C.2.2.2.2.2.1 _ hK.2.1) hK.2.2 hR, C.2.2.2.2.2.1 _ w2, C.2.2.2.2.2.1 _ w3⟩ ⟨(aw_pre (.ref b :: av) D C.2.2.2.2.2.2.2.2.2.2).1, va_recv D.2.1 D.2.2.1 hc he, (aw_pre (.ref b :: av) D C.2.2.2.2.2.2.2.2.2.2).2⟩ rfl hn hl.1 hst (lv_room hcat) hd hf) D C.2.2.2.2.2.2.2.2.1 (fun v ws' H1 locs1 hq D' => k v ws' hq p e s m args below meth c H1 locs1 A ls C D' hl)
theorem aw_callI {y2 : MethodName} {cc2 : ByteArray} {nL2 : Nat} {n d2 mc2 ms2 idx : Nat} {av rest : List Value} {Q2 : Option Value → va_W → Prop} {b : Nat} (hM : AMet g y2 cc2 nL2 none d2 (.ref b :: av) ws Q2 mc2 ms2) (hK : aw_card y2 cc2 nL2 none n) (w1 : Cond.methodLink y.cls idx y2 ∈ aw_WS) (w2 : Cond.instanceMethod y2 ∈ aw_WS) (hin : y2.name = "<init>") (hd : decode cc pc = .ok (.invokespecial idx, 3)) (hn : av.length = n) (hR : d2 + 1 ≤ R.frames ∧ 8 + (nL2 + 11) + 48 * d2 ≤ R.locals) (hcat : (rest.map fun v => v.category).sum ≤ 8) (hf : kc + mc2 ≤ R.cells ∧ ks + ms2 ≤ R.slots) {st0 : List Value} (hst : st0 = av.reverse ++ .ref b :: rest) (k : ∀ (v : Option Value) (ws' : va_W), Q2 v ws' → AW g y cc nL ret R E F (kc + mc2) (ks + ms2) (pc + 3) lv (v.toList ++ rest) ws') : AW g y cc nL ret R E F kc ks pc lv st0 ws := by
  intro p e s m args below meth c H locs A ls C D hl
  exact aw_after (va_runI (Ts := aw_WS) (own := y.cls) (As := av) (rest := rest) ⟨C.1, C.2.1, C.2.2.2.1, C.2.2.2.2.1, C.2.2.2.2.2.1⟩ (hM H.size) ⟨callB_of n C.2.2.2.2.2.1 (aw_goodIn y2 cc2 nL2 none hK.1) rfl rfl rfl (C.2.2.2.2.2.1 _ hK.2.1) (C.2.2.2.2.2.1 _ w1) hK.2.2 hR, hin, C.2.2.2.2.2.1 _ w2⟩ (aw_pre (.ref b :: av) D C.2.2.2.2.2.2.2.2.2.2) rfl hn hl.1 hst (lv_room hcat) hd hf) D C.2.2.2.2.2.2.2.2.1 (fun v ws' H1 locs1 hq D' => k v ws' hq p e s m args below meth c H1 locs1 A ls C D' hl)
theorem aw_callIN {y2 : MethodName} {cc2 : ByteArray} {nL2 : Nat} {n d2 mc2 ms2 idx : Nat} {av rest : List Value} {Q2 : Option Value → va_W → Prop} {b : Nat} {host : String} (hM : AMet g y2 cc2 nL2 none d2 (.ref b :: av) ws Q2 mc2 ms2) (hK : aw_card y2 cc2 nL2 none n) (w1 : Cond.methodLinkNest y.cls idx y2 host ∈ aw_NW) (w2 : Cond.instanceMethod y2 ∈ aw_WS) (hin : y2.name = "<init>") (hd : decode cc pc = .ok (.invokespecial idx, 3)) (hn : av.length = n) (hR : d2 + 1 ≤ R.frames ∧ 8 + (nL2 + 11) + 48 * d2 ≤ R.locals) (hcat : (rest.map fun v => v.category).sum ≤ 8) (hf : kc + mc2 ≤ R.cells ∧ ks + ms2 ≤ R.slots) {st0 : List Value} (hst : st0 = av.reverse ++ .ref b :: rest) (k : ∀ (v : Option Value) (ws' : va_W), Q2 v ws' → AW g y cc nL ret R E F (kc + mc2) (ks + ms2) (pc + 3) lv (v.toList ++ rest) ws') : AW g y cc nL ret R E F kc ks pc lv st0 ws := by
  intro p e s m args below meth c H locs A ls C D hl
  exact aw_after (va_runIN (Ts := aw_WS) (own := y.cls) (As := av) (rest := rest) ⟨C.1, C.2.1, C.2.2.2.1, C.2.2.2.2.1, C.2.2.2.2.2.1⟩ (hM H.size) ⟨va_cnB n C.2.2.2.2.2.1 (aw_goodIn y2 cc2 nL2 none hK.1) rfl rfl rfl (C.2.2.2.2.2.2.2.2.2.2.1 _ w1) (C.2.2.2.2.2.1 _ hK.2.1) hK.2.2 hR, hin, C.2.2.2.2.2.1 _ w2⟩ (aw_pre (.ref b :: av) D C.2.2.2.2.2.2.2.2.2.2) rfl hn hl.1 hst (lv_room hcat) hd hf) D C.2.2.2.2.2.2.2.2.1 (fun v ws' H1 locs1 hq D' => k v ws' hq p e s m args below meth c H1 locs1 A ls C D' hl)
def aw_EX (b L : Nat) (xs : Nat → Int32) : (Nat → Prop) → State → Array Value → Prop := fun A s args => va_X b L xs s s.heap ∧ b < s.heap.size ∧ ¬ A b ∧ args = #[Value.ref b] ∧ ∀ q, A q → s.heap.size ≤ q
theorem aw_sld {b L : Nat} {xs : Nat → Int32} {i : Int32} (hd : decode cc pc = .ok (.iaload, 1)) (hin : vp_in i L) (k : AW g y cc nL ret R (aw_EX b L xs) F kc ks (pc + 1) lv (.int (xs i.toNatClampNeg) :: st) ws) : AW g y cc nL ret R (aw_EX b L xs) F kc ks pc lv (.int i :: .ref b :: st) ws :=
  fun p e s m args below meth c H locs A ls C D hl => va_sld C.1 C.2.1 C.2.2.2.2.2.2.2.2.2.1.1 C.2.2.2.2.2.2.2.2.2.1.2.1 C.2.2.2.2.2.2.2.2.2.1.2.2.1 D.1 hin hd (k p e s m args below meth c H locs A ls C D hl)
theorem aw_slen {b L : Nat} {xs : Nat → Int32} (hd : decode cc pc = .ok (.arraylength, 1)) (k : AW g y cc nL ret R (aw_EX b L xs) F kc ks (pc + 1) lv (.int (Int32.ofNat L) :: st) ws) : AW g y cc nL ret R (aw_EX b L xs) F kc ks pc lv (.ref b :: st) ws :=
  fun p e s m args below meth c H locs A ls C D hl => va_slen C.1 C.2.1 C.2.2.2.2.2.2.2.2.2.1.1 C.2.2.2.2.2.2.2.2.2.1.2.1 C.2.2.2.2.2.2.2.2.2.1.2.2.1 D.1 hd (k p e s m args below meth c H locs A ls C D hl)
theorem aw_tableOut {dflt lo hi : Int} {offs : Array Int} {len : Nat} {x : Int32} {tgt : Nat} (hd : decode cc pc = .ok (.tableswitch dflt lo hi offs, len)) (h : x.toInt < lo ∨ hi < x.toInt) (ht : (pc : Int) + dflt = (tgt : Int)) (k : AW g y cc nL ret R E F kc ks tgt lv st ws) : AW g y cc nL ret R E F kc ks pc lv (.int x :: st) ws :=
  fun p e s m args below meth c H locs A ls C D hl => lv_tableOut C.1 C.2.1 hd h ht (k p e s m args below meth c H locs A ls C D hl)
theorem aw_tableIn {dflt lo hi off : Int} {offs : Array Int} {len : Nat} {x : Int32} {tgt : Nat} (hd : decode cc pc = .ok (.tableswitch dflt lo hi offs, len)) (h1 : ¬ x.toInt < lo) (h2 : ¬ hi < x.toInt) (ho : offs[(x.toInt - lo).toNat]? = some off) (ht : (pc : Int) + off = (tgt : Int)) (k : AW g y cc nL ret R E F kc ks tgt lv st ws) : AW g y cc nL ret R E F kc ks pc lv (.int x :: st) ws :=
  fun p e s m args below meth c H locs A ls C D hl => lv_tableIn C.1 C.2.1 hd h1 h2 ho ht (k p e s m args below meth c H locs A ls C D hl)
def bI (b : Bool) : Int32 := if b then 1 else 0
def lI (z : Int) : Int64 := Int64.ofInt z
def fup {α : Type} (f : Nat → α) (k : Nat) (x : α) : Nat → α := fun j => if j = k then x else f j
theorem fup_s {α : Type} (f : Nat → α) (k : Nat) (x : α) : fup f k x k = x := if_pos rfl
theorem fup_n {α : Type} {f : Nat → α} {k j : Nat} {x : α} (h : j ≠ k) : fup f k x j = f j := if_neg h
theorem aw_setS {ws : va_W} {q0 : Nat} {x z : Nat × va_E} (he : ws[q0]? = some x) : (ws.set q0 z)[q0]? = some z := by
  rw [List.getElem?_set_self]
  exact (List.getElem?_eq_some_iff.mp he).1
theorem aw_setN {ws : va_W} {q0 : Nat} {z : Nat × va_E} : ∀ j, j ≠ q0 → (ws.set q0 z)[j]? = ws[j]? := fun j h => List.getElem?_set_ne (Ne.symm h)
theorem upd_fup (f : Nat → Int32) (k : Nat) (x : Int32) : upd f k x = fup f k x := rfl
theorem updL_fup (f : Nat → Int64) (k : Nat) (x : Int64) : vp_updL f k x = fup f k x := rfl
theorem aw_nmi {x z : Int32} (h : x = z) (k : AW g y cc nL ret R E F kc ks pc lv (.int z :: st) ws) : AW g y cc nL ret R E F kc ks pc lv (.int x :: st) ws := by rw [h]; exact k
theorem aw_nml {x z : Int64} (h : x = z) (k : AW g y cc nL ret R E F kc ks pc lv (.long z :: st) ws) : AW g y cc nL ret R E F kc ks pc lv (.long x :: st) ws := by rw [h]; exact k
theorem aw_iinc1 {i a : Nat} {lv' : List (Nat × Value)} (hd : decode cc pc = .ok (.iinc i 1, 3)) (hj : lv.lookup i = some (.int (nI a))) (hn : i < nL) (hl' : aw_st1 lv i (.int (nI (a + 1))) = lv') (k : AW g y cc nL ret R E F kc ks (pc + 3) lv' st ws) : AW g y cc nL ret R E F kc ks pc lv st ws :=
  aw_iinc hd hj (nI_1 a) hn hl' k
theorem aw_putN {ci N index a : Nat} {Cn : String} {T : u_T} {ty : Nat → FieldType} {fs : List Value} {v : Value} (K : aw_cc ci Cn T N ty) (i : Nat) (hi : i < N) (hw : Cond.fieldLink y.cls index (T i).1 (T i).2.1 (T i).2.2.1 ∈ aw_WS) (hd : decode cc pc = .ok (.putfield index, 3)) {q0 : Nat} (he : ws[q0]? = some (a, .inr (ci, fs))) (hfin : (T i).2.2.2 = false) (hn : narrow (ty i) v = v) (hfit : fits (ty i) v = true) (hlen : i < fs.length) (k : ∀ ws' : va_W, ws'[q0]? = some (a, .inr (ci, fs.set i v)) → (∀ j, j ≠ q0 → ws'[j]? = ws[j]?) → ws'.length = ws.length → AW g y cc nL ret R E F kc ks (pc + 3) lv st ws') : AW g y cc nL ret R E F kc ks pc lv (v :: .ref a :: st) ws :=
  aw_put K i hi hw hd he hfin hn hfit hlen (k _ (aw_setS he) aw_setN List.length_set)
theorem aw_putFN {ci N index a : Nat} {Cn : String} {T : u_T} {ty : Nat → FieldType} {fs : List Value} {v : Value} (K : aw_cc ci Cn T N ty) (i : Nat) (hi : i < N) (hw : Cond.fieldLink y.cls index (T i).1 (T i).2.1 (T i).2.2.1 ∈ aw_WS) (hd : decode cc pc = .ok (.putfield index, 3)) {q0 : Nat} (he : ws[q0]? = some (a, .inr (ci, fs))) (hfin : (T i).2.2.2 = true) (hin : y.name = "<init>") (hde : (T i).1 = y.cls) (hn : narrow (ty i) v = v) (hfit : fits (ty i) v = true) (hlen : i < fs.length) (k : ∀ ws' : va_W, ws'[q0]? = some (a, .inr (ci, fs.set i v)) → (∀ j, j ≠ q0 → ws'[j]? = ws[j]?) → ws'.length = ws.length → AW g y cc nL ret R E F kc ks (pc + 3) lv st ws') : AW g y cc nL ret R E F kc ks pc lv (v :: .ref a :: st) ws :=
  aw_putF K i hi hw hd he hfin hin hde hn hfit hlen (k _ (aw_setS he) aw_setN List.length_set)
theorem aw_ialdN {a n t0 q0 j : Nat} {cA : ClassId} {f : Nat → Int32} (hd : decode cc pc = .ok (.iaload, 1)) (he : ws[q0]? = some (a, .inl (cA, n, .inl f))) (ht : g.2.2[t0]? = some (cA, .int)) (hj : j < n) (hn : n < 2 ^ 31) (k : AW g y cc nL ret R E F kc ks (pc + 1) lv (.int (f j) :: st) ws) : AW g y cc nL ret R E F kc ks pc lv (.int (nI j) :: .ref a :: st) ws :=
  aw_iald hd he ht (vp_in_nI hj hn) (by rw [nI_clamp (Nat.lt_trans hj hn)]; exact k)
theorem aw_iastN {a n t0 q0 j : Nat} {cA : ClassId} {f : Nat → Int32} {x : Int32} (hd : decode cc pc = .ok (.iastore, 1)) (he : ws[q0]? = some (a, .inl (cA, n, .inl f))) (ht : g.2.2[t0]? = some (cA, .int)) (hj : j < n) (hn : n < 2 ^ 31) (k : ∀ ws' : va_W, ws'[q0]? = some (a, .inl (cA, n, .inl (fup f j x))) → (∀ j, j ≠ q0 → ws'[j]? = ws[j]?) → ws'.length = ws.length → AW g y cc nL ret R E F kc ks (pc + 1) lv st ws') : AW g y cc nL ret R E F kc ks pc lv (.int x :: .int (nI j) :: .ref a :: st) ws :=
  aw_iast hd he ht (vp_in_nI hj hn) (by rw [nI_clamp (Nat.lt_trans hj hn)]; exact k _ (aw_setS he) aw_setN List.length_set)
theorem aw_laldN {a n t0 q0 j : Nat} {cA : ClassId} {f : Nat → Int64} (hd : decode cc pc = .ok (.laload, 1)) (he : ws[q0]? = some (a, .inl (cA, n, .inr (.inl f)))) (ht : g.2.2[t0]? = some (cA, .long)) (hj : j < n) (hn : n < 2 ^ 31) (k : AW g y cc nL ret R E F kc ks (pc + 1) lv (.long (f j) :: st) ws) : AW g y cc nL ret R E F kc ks pc lv (.int (nI j) :: .ref a :: st) ws :=
  aw_lald hd he ht (vp_in_nI hj hn) (by rw [nI_clamp (Nat.lt_trans hj hn)]; exact k)
theorem aw_lastN {a n t0 q0 j : Nat} {cA : ClassId} {f : Nat → Int64} {x : Int64} (hd : decode cc pc = .ok (.lastore, 1)) (he : ws[q0]? = some (a, .inl (cA, n, .inr (.inl f)))) (ht : g.2.2[t0]? = some (cA, .long)) (hj : j < n) (hn : n < 2 ^ 31) (k : ∀ ws' : va_W, ws'[q0]? = some (a, .inl (cA, n, .inr (.inl (fup f j x)))) → (∀ j, j ≠ q0 → ws'[j]? = ws[j]?) → ws'.length = ws.length → AW g y cc nL ret R E F kc ks (pc + 1) lv st ws') : AW g y cc nL ret R E F kc ks pc lv (.long x :: .int (nI j) :: .ref a :: st) ws :=
  aw_last hd he ht (vp_in_nI hj hn) (by rw [nI_clamp (Nat.lt_trans hj hn)]; exact k _ (aw_setS he) aw_setN List.length_set)
theorem aw_aaldN {a n t0 q0 b j : Nat} {cA : ClassId} {t : FieldType} {f : Nat → Option Nat} (hd : decode cc pc = .ok (.aaload, 1)) (he : ws[q0]? = some (a, .inl (cA, n, .inr (.inr (.inr (.inr f)))))) (ht : g.2.2[t0]? = some (cA, .array t)) (hj : j < n) (hn : n < 2 ^ 31) (hf : f j = some b) (k : AW g y cc nL ret R E F kc ks (pc + 1) lv (.ref b :: st) ws) : AW g y cc nL ret R E F kc ks pc lv (.int (nI j) :: .ref a :: st) ws :=
  aw_aald hd he ht (vp_in_nI hj hn) (by rw [nI_clamp (Nat.lt_trans hj hn)]; exact hf) k
theorem aw_icmp_eqN {a b : Nat} {off : Int} {tgt : Nat} (hd : decode cc pc = .ok (.if_icmp .eq off, 3)) (ht : (pc : Int) + off = (tgt : Int)) (ha : a < 2 ^ 31) (hb : b < 2 ^ 31) (kt : a = b → AW g y cc nL ret R E F kc ks tgt lv st ws) (kf : ¬ a = b → AW g y cc nL ret R E F kc ks (pc + 3) lv st ws) : AW g y cc nL ret R E F kc ks pc lv (.int (nI b) :: .int (nI a) :: st) ws :=
  aw_icmp_eq hd ht (fun h => kt ((nI_eq ha hb).mp h)) (fun h => kf (fun q => h ((nI_eq ha hb).mpr q)))
theorem aw_icmp_neN {a b : Nat} {off : Int} {tgt : Nat} (hd : decode cc pc = .ok (.if_icmp .ne off, 3)) (ht : (pc : Int) + off = (tgt : Int)) (ha : a < 2 ^ 31) (hb : b < 2 ^ 31) (kt : ¬ a = b → AW g y cc nL ret R E F kc ks tgt lv st ws) (kf : a = b → AW g y cc nL ret R E F kc ks (pc + 3) lv st ws) : AW g y cc nL ret R E F kc ks pc lv (.int (nI b) :: .int (nI a) :: st) ws :=
  aw_icmp_ne hd ht (fun h => kt (fun q => h ((nI_eq ha hb).mpr q))) (fun h => kf ((nI_eq ha hb).mp h))
theorem aw_icmp_ltN {a b : Nat} {off : Int} {tgt : Nat} (hd : decode cc pc = .ok (.if_icmp .lt off, 3)) (ht : (pc : Int) + off = (tgt : Int)) (ha : a < 2 ^ 31) (hb : b < 2 ^ 31) (kt : a < b → AW g y cc nL ret R E F kc ks tgt lv st ws) (kf : b ≤ a → AW g y cc nL ret R E F kc ks (pc + 3) lv st ws) : AW g y cc nL ret R E F kc ks pc lv (.int (nI b) :: .int (nI a) :: st) ws :=
  aw_icmp_lt hd ht (fun h => kt ((nI_ltI ha hb).mp h)) (fun h => kf (Nat.not_lt.mp (fun q => h ((nI_ltI ha hb).mpr q))))
theorem aw_icmp_geN {a b : Nat} {off : Int} {tgt : Nat} (hd : decode cc pc = .ok (.if_icmp .ge off, 3)) (ht : (pc : Int) + off = (tgt : Int)) (ha : a < 2 ^ 31) (hb : b < 2 ^ 31) (kt : b ≤ a → AW g y cc nL ret R E F kc ks tgt lv st ws) (kf : a < b → AW g y cc nL ret R E F kc ks (pc + 3) lv st ws) : AW g y cc nL ret R E F kc ks pc lv (.int (nI b) :: .int (nI a) :: st) ws :=
  aw_icmp_ge hd ht (fun h => kt ((nI_leI hb ha).mp h)) (fun h => kf (Nat.not_le.mp (fun q => h ((nI_leI hb ha).mpr q))))
theorem aw_icmp_gtN {a b : Nat} {off : Int} {tgt : Nat} (hd : decode cc pc = .ok (.if_icmp .gt off, 3)) (ht : (pc : Int) + off = (tgt : Int)) (ha : a < 2 ^ 31) (hb : b < 2 ^ 31) (kt : b < a → AW g y cc nL ret R E F kc ks tgt lv st ws) (kf : a ≤ b → AW g y cc nL ret R E F kc ks (pc + 3) lv st ws) : AW g y cc nL ret R E F kc ks pc lv (.int (nI b) :: .int (nI a) :: st) ws :=
  aw_icmp_gt hd ht (fun h => kt ((nI_ltI hb ha).mp h)) (fun h => kf (Nat.not_lt.mp (fun q => h ((nI_ltI hb ha).mpr q))))
theorem aw_icmp_leN {a b : Nat} {off : Int} {tgt : Nat} (hd : decode cc pc = .ok (.if_icmp .le off, 3)) (ht : (pc : Int) + off = (tgt : Int)) (ha : a < 2 ^ 31) (hb : b < 2 ^ 31) (kt : a ≤ b → AW g y cc nL ret R E F kc ks tgt lv st ws) (kf : b < a → AW g y cc nL ret R E F kc ks (pc + 3) lv st ws) : AW g y cc nL ret R E F kc ks pc lv (.int (nI b) :: .int (nI a) :: st) ws :=
  aw_icmp_le hd ht (fun h => kt ((nI_leI ha hb).mp h)) (fun h => kf (Nat.not_le.mp (fun q => h ((nI_leI ha hb).mpr q))))
theorem aw_if_eqN {a : Nat} {off : Int} {tgt : Nat} (hd : decode cc pc = .ok (.ifCond .eq off, 3)) (ht : (pc : Int) + off = (tgt : Int)) (ha : a < 2 ^ 31) (kt : a = 0 → AW g y cc nL ret R E F kc ks tgt lv st ws) (kf : ¬ a = 0 → AW g y cc nL ret R E F kc ks (pc + 3) lv st ws) : AW g y cc nL ret R E F kc ks pc lv (.int (nI a) :: st) ws :=
  aw_if_eq hd ht (fun h => kt ((nI_eq ha (by decide)).mp (h.trans nI_0.symm))) (fun h => kf (fun q => h (by rw [q]; exact nI_0)))
theorem aw_if_neN {a : Nat} {off : Int} {tgt : Nat} (hd : decode cc pc = .ok (.ifCond .ne off, 3)) (ht : (pc : Int) + off = (tgt : Int)) (ha : a < 2 ^ 31) (kt : ¬ a = 0 → AW g y cc nL ret R E F kc ks tgt lv st ws) (kf : a = 0 → AW g y cc nL ret R E F kc ks (pc + 3) lv st ws) : AW g y cc nL ret R E F kc ks pc lv (.int (nI a) :: st) ws :=
  aw_if_ne hd ht (fun h => kt (fun q => h (by rw [q]; exact nI_0))) (fun h => kf ((nI_eq ha (by decide)).mp (h.trans nI_0.symm)))
theorem aw_if_gtN {a : Nat} {off : Int} {tgt : Nat} (hd : decode cc pc = .ok (.ifCond .gt off, 3)) (ht : (pc : Int) + off = (tgt : Int)) (ha : a < 2 ^ 31) (kt : 0 < a → AW g y cc nL ret R E F kc ks tgt lv st ws) (kf : a = 0 → AW g y cc nL ret R E F kc ks (pc + 3) lv st ws) : AW g y cc nL ret R E F kc ks pc lv (.int (nI a) :: st) ws :=
  aw_if_gt hd ht (fun h => kt ((nI_ltI (by decide) ha).mp (by rw [nI_0]; exact h))) (fun h => kf (Nat.eq_zero_of_not_pos (fun q => h (by rw [← nI_0]; exact (nI_ltI (by decide) ha).mpr q))))
theorem aw_if_leN {a : Nat} {off : Int} {tgt : Nat} (hd : decode cc pc = .ok (.ifCond .le off, 3)) (ht : (pc : Int) + off = (tgt : Int)) (ha : a < 2 ^ 31) (kt : a = 0 → AW g y cc nL ret R E F kc ks tgt lv st ws) (kf : 0 < a → AW g y cc nL ret R E F kc ks (pc + 3) lv st ws) : AW g y cc nL ret R E F kc ks pc lv (.int (nI a) :: st) ws :=
  aw_if_le hd ht (fun h => kt (by have q := (nI_leI ha (b := 0) (by decide)).mp (by rw [nI_0]; exact h); omega)) (fun h => kf (Nat.pos_of_ne_zero (fun q => h (by rw [q, nI_0]; exact Int32.le_refl 0))))
theorem aw_if_eqB {b : Bool} {off : Int} {tgt : Nat} (hd : decode cc pc = .ok (.ifCond .eq off, 3)) (ht : (pc : Int) + off = (tgt : Int)) (kt : b = false → AW g y cc nL ret R E F kc ks tgt lv st ws) (kf : b = true → AW g y cc nL ret R E F kc ks (pc + 3) lv st ws) : AW g y cc nL ret R E F kc ks pc lv (.int (bI b) :: st) ws :=
  aw_if_eq hd ht (fun h => kt (by cases b <;> simp_all [bI])) (fun h => kf (by cases b <;> simp_all [bI]))
theorem aw_if_neB {b : Bool} {off : Int} {tgt : Nat} (hd : decode cc pc = .ok (.ifCond .ne off, 3)) (ht : (pc : Int) + off = (tgt : Int)) (kt : b = true → AW g y cc nL ret R E F kc ks tgt lv st ws) (kf : b = false → AW g y cc nL ret R E F kc ks (pc + 3) lv st ws) : AW g y cc nL ret R E F kc ks pc lv (.int (bI b) :: st) ws :=
  aw_if_ne hd ht (fun h => kt (by cases b <;> simp_all [bI])) (fun h => kf (by cases b <;> simp_all [bI]))
end AWR
end
section
-- the first rows (vr_, va_mna) are pasted from claim/NAMES.whole.lean.txt
/-! ===== BEGIN new T[n][m]: the outer array a place, the inner ones among the pooled ===== -/
/-- f, but v at every address of l -/
def vr_up {α : Type} (f : Nat → α) (l : List Nat) (v : α) : Nat → α := fun a => if a ∈ l then v else f a
theorem vr_up_in {α : Type} {f : Nat → α} {l : List Nat} {v : α} {a : Nat} (h : a ∈ l) : vr_up f l v a = v := if_pos h
theorem vr_up_ne {α : Type} {f : Nat → α} {l : List Nat} {v : α} {a : Nat} (h : a ∉ l) : vr_up f l v a = f a := if_neg h
theorem vr_rows {L l : List Nat} {f : Nat → va_E} {e : va_E} (h : ∀ a, a ∈ l → a ∉ L) : va_pl L f ++ l.map (fun a => (a, e)) = va_pl (L ++ l) (vr_up f l e) := by
  unfold va_pl
  rw [List.map_append]
  congr 1
  · apply List.map_congr_left
    intro a ha
    rw [vr_up_ne (fun q => h a q ha)]
  · apply List.map_congr_left
    intro a ha
    rw [vr_up_in ha]
theorem vr_lay {X rows : va_W} {x : Nat × va_E} {pl : va_W} {D : va_G} {cl : List vw_C} {H : Heap} (hP : va_P D cl (((X ++ pl) ++ [x]) ++ rows) H) : va_P D cl ((X ++ [x]) ++ (pl ++ rows)) H := by
  rw [List.append_assoc (X ++ pl)] at hP
  have h := va_P.swap hP
  rw [← List.append_assoc X] at h
  have h2 := va_P.swap h
  rw [List.append_assoc (X ++ [x])] at h2
  exact h2
theorem vr_layD {X rows : va_W} {x : Nat × va_E} {pl : va_W} {A : Nat → Prop} (hD : va_D A (((X ++ pl) ++ [x]) ++ rows)) : va_D A ((X ++ [x]) ++ (pl ++ rows)) := by
  rw [List.append_assoc (X ++ pl)] at hD
  have h := va_D.swap hD
  rw [← List.append_assoc X] at h
  have h2 := va_D.swap h
  rw [List.append_assoc (X ++ [x])] at h2
  exact h2
theorem vr_outer (c : ClassId) (N h0 : Nat) : ∀ i : Nat, Jvm.Free.Multi.outerC c N h0 i = arrV c N (fun j => va_rf (if j < i then some (h0 + 1 + j) else none))
  | 0 => by
    show ({ cls := c, slots := Array.replicate N .null, vm := .none } : Cell) = _
    rw [arrV_new]
    refine congrArg (arrV c N) (funext fun j => ?_)
    simp [va_rf]
  | i + 1 => by
    show (Jvm.Free.Multi.outerC c N h0 i).setSlot i (.ref (h0 + 1 + i)) = _
    rw [vr_outer c N h0 i, arrV_store]
    refine congrArg (arrV c N) (funext fun j => ?_)
    by_cases e : j = i
    · subst e
      simp [updV, va_rf]
    · by_cases h : j < i
      · simp [updV, e, h, Nat.lt_succ_of_lt h]
      · simp [updV, e, h, show ¬ j < i + 1 by omega]
section VGM
variable {p : Program} {l : Launch} {e : Env} {R : Room} {s : State} {m : MethodId} {args : Array Value} {below : List Frame} {meth : Method} {c : Code} {H : Heap} {locs : List Loc} {cells slots : Nat} {Q : State → Prop}
variable {cc : ByteArray} {pc : Nat} {ls : Array Slot} {rest : List Value} {D : va_G} {cl : List vw_C} {A : Nat → Prop} {a : Nat} {tys : List (ClassId × FieldType)} {ws : va_W} {H0 : Heap}
theorem va_mna {X : va_W} {L : List Nat} {f : Nat → va_E} {cc : ByteArray} (hexec : p.tables.exec = Jvm.exec) (hb : c.code = cc) {own : String} {index : Nat} {ty : FieldType} {cy : ClassId} (hown : s.vm.findClass own = some m.cls) (hclink : (Cond.classLink own index ("[" ++ (FieldType.array ty).toString)).before args s = true) (hover : va_AOA ty s) (harr : (Cond.arrayClass ty).before args s = true) (hcy : s.vm.findClass (FieldType.array ty).toString = some cy)
    (hK : va_K D cl tys s) (hP : va_P D cl (X ++ va_pl L f) H) (hD : va_D A (X ++ va_pl L f)) (hS : va_S A H0 H locs) (hA : ∀ q, H0.size ≤ q → A q) {n k : Int32} {N' K' : Nat} {z : vp_A} (hn : ¬ n < 0) (hk : ¬ k < 0) (hN : n.toNatClampNeg = N') (hM : k.toNatClampNeg = K')
    (hb1 : N' * 4 ≤ 536870912) (hb2 : K' * componentBytes ty ≤ 536870912) (hb3 : K' ≤ 536870912) (hdf : fits ty (defaultValue ty) = true) (hdd : (defaultValue ty).isDefault = true) (hcells : cells + (1 + N') ≤ R.cells) (hslots : slots + (N' + N' * K') ≤ R.slots) (hz : ∀ c : ClassId, Jvm.Free.Multi.innerC c K' (defaultValue ty) = vp_cell c z) (hdg : decode cc pc = .ok (.multianewarray index 2, 4))
    (kk : ∀ (q : Nat) (r : Nat → Nat) (cA : ClassId) (H1 : Heap), (∀ i j : Nat, i < N' → j < N' → r i = r j → i = j) → (∀ i : Nat, i < N' → r i ∉ L) → va_K D cl (tys ++ [(cA, .array ty)]) s →
      va_P D cl ((X ++ [(q, .inl (cA, N', .inr (.inr (.inr (.inr (fun i => if i < N' then some (r i) else none))))))]) ++ va_pl (L ++ (List.range N').map r) (vr_up f ((List.range N').map r) (.inl (cy, z)))) H1 → va_D A ((X ++ [(q, .inl (cA, N', .inr (.inr (.inr (.inr (fun i => if i < N' then some (r i) else none))))))]) ++ va_pl (L ++ (List.range N').map r) (vr_up f ((List.range N').map r) (.inl (cy, z)))) → va_S A H0 H1 locs →
      W p l e R s m args below meth c H1 locs (cells + 1 + N') (slots + N' + N' * K') Q (F0 m (pc + 4) ls (.ref q :: rest))) : W p l e R s m args below meth c H locs cells slots Q (F0 m pc ls (.int k :: .int n :: rest)) := by
  subst hN
  subst hM
  intro T hT Xs
  obtain ⟨vm₁, cA, comp, -, fA, fC, hO, -, X', step⟩ := Xs.multianewarray2F hexec hown hclink (va_AOA.use hover) harr (g := F0 m pc ls (.int k :: .int n :: rest)) rfl (by rw [hb]; exact hdg) rfl hn hk hb1 hb2 hb3 hdf hdd hcells hslots
  have ec : some cy = some comp := hcy.symm.trans fC
  cases ec
  generalize hF : Jvm.Free.Multi.fill (T.setVm vm₁) cA cy n.toNatClampNeg k.toNatClampNeg (defaultValue ty) n.toNatClampNeg = F at X' step
  have hTh : (T.setVm vm₁).heap = H := hT
  obtain ⟨f1, f2, -, -⟩ := Jvm.Free.Multi.fill_facts (T.setVm vm₁) cA cy n.toNatClampNeg k.toNatClampNeg (defaultValue ty) n.toNatClampNeg
  rw [hF, hTh] at f1 f2
  have hold : ∀ x : Nat, x < H.size → F.heap[x]? = H[x]? := fun x hx => by
    have := Jvm.Free.Multi.fill_old (T.setVm vm₁) cA cy n.toNatClampNeg k.toNatClampNeg (defaultValue ty) (a := x) (by rw [hTh]; exact hx) n.toNatClampNeg
    rw [hF, hTh] at this
    exact this
  have hrow : ∀ j : Nat, j < n.toNatClampNeg → F.heap[H.size + 1 + j]? = some (vp_cell cy z) := fun j hj => by
    have := Jvm.Free.Multi.fill_inner (T.setVm vm₁) cA cy n.toNatClampNeg k.toNatClampNeg (defaultValue ty) n.toNatClampNeg j hj
    rw [hF, hTh, hz] at this
    exact this
  have hout : Jvm.Free.Multi.outerC cA n.toNatClampNeg H.size n.toNatClampNeg = vp_cell cA (n.toNatClampNeg, .inr (.inr (.inr (.inr (fun i => if i < n.toNatClampNeg then some (H.size + 1 + i) else none))))) := by
    rw [vp_cell_q]
    exact vr_outer cA n.toNatClampNeg H.size n.toNatClampNeg
  rw [hout] at f2
  have hlt : ∀ a, a ∈ L → a < H.size := fun a ha => by
    obtain ⟨k9, hk9⟩ := va_pl_get (X := X) (f := f) ha
    exact (hP k9 _ hk9).lt
  have hnl : ∀ i : Nat, i < n.toNatClampNeg → H.size + 1 + i ∉ L := fun i _ h => by
    have := hlt _ h
    omega
  have hnm : ∀ a, a ∈ (List.range n.toNatClampNeg).map (fun i => H.size + 1 + i) → a ∉ L := fun a ha h => by
    obtain ⟨i, -, rfl⟩ := List.mem_map.mp ha
    have := hlt _ h
    omega
  have hP0 : va_P D cl (X ++ va_pl L f) F.heap := hP.kept (fun k9 x hx => hold x.1 ((hP k9 x hx).lt))
  have hP1 : va_P D cl ((X ++ va_pl L f) ++ [(H.size, .inl (cA, n.toNatClampNeg, .inr (.inr (.inr (.inr (fun i => if i < n.toNatClampNeg then some (H.size + 1 + i) else none))))))]) F.heap := hP0.app (fun k9 x hx => by
    have h0 : k9 < 1 := (List.getElem?_eq_some_iff.mp hx).1
    rw [show k9 = 0 by omega] at hx
    cases hx
    exact f2)
  have hP2 : va_P D cl (((X ++ va_pl L f) ++ [(H.size, .inl (cA, n.toNatClampNeg, .inr (.inr (.inr (.inr (fun i => if i < n.toNatClampNeg then some (H.size + 1 + i) else none))))))]) ++ ((List.range n.toNatClampNeg).map (fun i => H.size + 1 + i)).map (fun a => (a, .inl (cy, z)))) F.heap := hP1.app (fun k9 x hx => by
    obtain ⟨a, ha, rfl⟩ := List.mem_map.mp (List.mem_of_getElem? hx)
    obtain ⟨i, hi, rfl⟩ := List.mem_map.mp ha
    exact hrow i (List.mem_range.mp hi))
  have hD2 : va_D A (((X ++ va_pl L f) ++ [(H.size, .inl (cA, n.toNatClampNeg, .inr (.inr (.inr (.inr (fun i => if i < n.toNatClampNeg then some (H.size + 1 + i) else none))))))]) ++ ((List.range n.toNatClampNeg).map (fun i => H.size + 1 + i)).map (fun a => (a, .inl (cy, z)))) := by
    have hD1 := hD.push (e := .inl (cA, n.toNatClampNeg, .inr (.inr (.inr (.inr (fun i => if i < n.toNatClampNeg then some (H.size + 1 + i) else none)))))) hP rfl (hA _ hS.1)
    generalize hW1 : (X ++ va_pl L f) ++ [(H.size, .inl (cA, n.toNatClampNeg, .inr (.inr (.inr (.inr (fun i => if i < n.toNatClampNeg then some (H.size + 1 + i) else none))))))] = W1 at hD1 hP1 ⊢
    have hle : ∀ (k9 : Nat) (x : Nat × va_E), W1[k9]? = some x → x.1 ≤ H.size := fun k9 x hx => by
      rw [← hW1] at hx
      by_cases hl : k9 < (X ++ va_pl L f).length
      · rw [List.getElem?_append_left hl] at hx
        exact Nat.le_of_lt ((hP k9 x hx).lt)
      · rw [List.getElem?_append_right (by omega)] at hx
        have h0 : k9 - (X ++ va_pl L f).length < 1 := (List.getElem?_eq_some_iff.mp hx).1
        rw [show k9 - (X ++ va_pl L f).length = 0 by omega] at hx
        cases hx
        exact Nat.le_refl _
    have hr : ∀ (k9 : Nat) (x : Nat × va_E), (((List.range n.toNatClampNeg).map (fun i => H.size + 1 + i)).map (fun a => ((a, .inl (cy, z)) : Nat × va_E)))[k9]? = some x → x.1 = H.size + 1 + k9 := fun k9 x hx => by
      rw [List.getElem?_map, List.getElem?_map] at hx
      by_cases h9 : k9 < n.toNatClampNeg
      · rw [List.getElem?_range h9] at hx
        cases hx
        rfl
      · have hn0 : (List.range n.toNatClampNeg)[k9]? = none := List.getElem?_eq_none (by rw [List.length_range]; omega)
        rw [hn0] at hx
        cases hx
    refine ⟨fun i j x y hi hj hxy => ?_, fun k9 x hx => ?_⟩
    · by_cases h1 : i < W1.length <;> by_cases h2 : j < W1.length
      · rw [List.getElem?_append_left h1] at hi
        rw [List.getElem?_append_left h2] at hj
        exact hD1.1 i j x y hi hj hxy
      · rw [List.getElem?_append_left h1] at hi
        rw [List.getElem?_append_right (by omega)] at hj
        have := hle _ _ hi
        have := hr _ _ hj
        omega
      · rw [List.getElem?_append_right (by omega)] at hi
        rw [List.getElem?_append_left h2] at hj
        have := hle _ _ hj
        have := hr _ _ hi
        omega
      · rw [List.getElem?_append_right (by omega)] at hi hj
        have := hr _ _ hi
        have := hr _ _ hj
        omega
    · by_cases h1 : k9 < W1.length
      · rw [List.getElem?_append_left h1] at hx
        exact hD1.2 k9 x hx
      · rw [List.getElem?_append_right (by omega)] at hx
        have := hr _ _ hx
        exact hA _ (by have := hS.1; omega)
  have hAr : ArrOfT s cA (.array ty) := fun N9 z9 => by
    obtain ⟨-, k9, hk9, cm9, hkk9⟩ := (hO 0 0 0).1
    exact ⟨(fun q hq => by cases hq), k9, hk9, cm9, hkk9⟩
  have hK2 : va_K D cl (tys ++ [(cA, .array ty)]) s := ⟨hK.1, fun k9 x hx => by
    by_cases hl : k9 < tys.length
    · rw [List.getElem?_append_left hl] at hx
      exact hK.2 k9 x hx
    · rw [List.getElem?_append_right (by omega)] at hx
      have h0 : k9 - tys.length < 1 := (List.getElem?_eq_some_iff.mp hx).1
      rw [show k9 - tys.length = 0 by omega] at hx
      cases hx
      exact ⟨hAr, fA⟩⟩
  obtain ⟨t, a1, b1⟩ := kk H.size (fun i => H.size + 1 + i) cA F.heap (fun i j _ _ h => by have h9 : H.size + 1 + i = H.size + 1 + j := h; omega) hnl hK2 (by rw [← vr_rows hnm]; exact vr_lay hP2) (by rw [← vr_rows hnm]; exact vr_layD hD2) ⟨by rw [f1]; have := hS.1; omega, fun x h1 h2 => (hold x (Nat.lt_of_lt_of_le h1 hS.1)).trans (hS.2.1 x h1 h2), hS.2.2⟩ F rfl X'
  refine ⟨t, step t ?_, b1⟩
  have e : T.heap.size = H.size := by rw [hT]
  rw [e]
  exact a1
end VGM
section AWM
variable {g : aw_G} {y : MethodName} {cc : ByteArray} {nL : Nat} {ret : Option FieldType} {R : Room} {E : (Nat → Prop) → State → Array Value → Prop} {F : List Frame → Array Value → State → (Nat → Prop) → State → Prop} {kc ks pc : Nat} {lv : List (Nat × Value)} {st : List Value} {ws : va_W}
def aw_grid (cA : ClassId) (N : Nat) (r : Nat → Nat) : va_E := .inl (cA, N, .inr (.inr (.inr (.inr (fun i => if i < N then some (r i) else none)))))
theorem aw_rows {N : Nat} {r : Nat → Nat} {f : Nat → va_E} {v : va_E} : va_pl ([] ++ (List.range N).map r) (vr_up f ((List.range N).map r) v) = (List.range N).map (fun i => (r i, v)) := by
  unfold va_pl
  rw [List.nil_append, List.map_map]
  apply List.map_congr_left
  intro i hi
  show (r i, vr_up f ((List.range N).map r) v (r i)) = (r i, v)
  rw [vr_up_in (List.mem_map_of_mem hi)]
theorem aw_mna_int {index t0 t1 : Nat} {cA cy : ClassId} (N' K' : Nat) {n k : Int32} (hd : decode cc pc = .ok (.multianewarray index 2, 4)) (w1 : Cond.classLink y.cls index ("[" ++ (FieldType.array .int).toString) ∈ aw_WS) (w3 : Cond.arrayClass .int ∈ aw_WS) (ht0 : g.2.2[t0]? = some (cy, .int)) (ht1 : g.2.2[t1]? = some (cA, .array .int)) (hn : ¬ n < 0) (hk : ¬ k < 0) (hN : n.toNatClampNeg = N') (hK : k.toNatClampNeg = K') (hb1 : N' * 4 ≤ 536870912) (hb2 : K' * componentBytes .int ≤ 536870912) (hb3 : K' ≤ 536870912) (hc : kc + (1 + N') ≤ R.cells) (hs : ks + (N' + N' * K') ≤ R.slots)
    (kk : ∀ (q : Nat) (r : Nat → Nat), AW g y cc nL ret R E F (kc + 1 + N') (ks + N' + N' * K') (pc + 4) lv (.ref q :: st) ((ws ++ [(q, aw_grid cA N' r)]) ++ (List.range N').map (fun i => (r i, .inl (cy, K', .inl (fun _ => 0)))))) : AW g y cc nL ret R E F kc ks pc lv (.int k :: .int n :: st) ws := by
  intro p e s m args below meth c H locs A ls C D hl
  have ea : ws ++ va_pl [] (fun _ => (.inr (0, []) : va_E)) = ws := by simp [va_pl]
  refine va_mna (X := ws) (L := []) (f := fun _ => (.inr (0, []) : va_E)) (ty := .int) (cy := cy) (z := (K', .inl (fun _ => 0))) C.1 C.2.1 C.2.2.2.2.1 (C.2.2.2.2.2.1 _ w1) C.2.2.2.2.2.2.2.2.2.2.2.1 (C.2.2.2.2.2.1 _ w3) (D.2.1.2 t0 _ ht0).2 D.2.1 (by rw [ea]; exact D.2.2.1) (by rw [ea]; exact D.2.2.2) D.1 C.2.2.2.2.2.2.2.2.1 hn hk hN hK hb1 hb2 hb3 rfl rfl hc hs (fun cB => arrV_new cB K' _) hd (fun q r cB H1 _ _ hK1 hP1 hD1 hS1 => ?_)
  have e1 := (hK1.2 g.2.2.length (cB, .array .int) (by rw [List.getElem?_append_right (Nat.le_refl _), Nat.sub_self]; rfl)).2
  have e2 := (D.2.1.2 t1 _ ht1).2
  have e3 : cA = cB := Option.some.inj (e2.symm.trans e1)
  subst e3
  rw [aw_rows] at hP1 hD1
  exact kk q r p e s m args below meth c H1 locs A ls C ⟨hS1, D.2.1, hP1, hD1⟩ hl
theorem aw_mna_long {index t0 t1 : Nat} {cA cy : ClassId} (N' K' : Nat) {n k : Int32} (hd : decode cc pc = .ok (.multianewarray index 2, 4)) (w1 : Cond.classLink y.cls index ("[" ++ (FieldType.array .long).toString) ∈ aw_WS) (w3 : Cond.arrayClass .long ∈ aw_WS) (ht0 : g.2.2[t0]? = some (cy, .long)) (ht1 : g.2.2[t1]? = some (cA, .array .long)) (hn : ¬ n < 0) (hk : ¬ k < 0) (hN : n.toNatClampNeg = N') (hK : k.toNatClampNeg = K') (hb1 : N' * 4 ≤ 536870912) (hb2 : K' * componentBytes .long ≤ 536870912) (hb3 : K' ≤ 536870912) (hc : kc + (1 + N') ≤ R.cells) (hs : ks + (N' + N' * K') ≤ R.slots)
    (kk : ∀ (q : Nat) (r : Nat → Nat), AW g y cc nL ret R E F (kc + 1 + N') (ks + N' + N' * K') (pc + 4) lv (.ref q :: st) ((ws ++ [(q, aw_grid cA N' r)]) ++ (List.range N').map (fun i => (r i, .inl (cy, K', .inr (.inl (fun _ => 0))))))) : AW g y cc nL ret R E F kc ks pc lv (.int k :: .int n :: st) ws := by
  intro p e s m args below meth c H locs A ls C D hl
  have ea : ws ++ va_pl [] (fun _ => (.inr (0, []) : va_E)) = ws := by simp [va_pl]
  refine va_mna (X := ws) (L := []) (f := fun _ => (.inr (0, []) : va_E)) (ty := .long) (cy := cy) (z := (K', .inr (.inl (fun _ => 0)))) C.1 C.2.1 C.2.2.2.2.1 (C.2.2.2.2.2.1 _ w1) C.2.2.2.2.2.2.2.2.2.2.2.2 (C.2.2.2.2.2.1 _ w3) (D.2.1.2 t0 _ ht0).2 D.2.1 (by rw [ea]; exact D.2.2.1) (by rw [ea]; exact D.2.2.2) D.1 C.2.2.2.2.2.2.2.2.1 hn hk hN hK hb1 hb2 hb3 rfl rfl hc hs (fun cB => arrV_new cB K' _) hd (fun q r cB H1 _ _ hK1 hP1 hD1 hS1 => ?_)
  have e1 := (hK1.2 g.2.2.length (cB, .array .long) (by rw [List.getElem?_append_right (Nat.le_refl _), Nat.sub_self]; rfl)).2
  have e2 := (D.2.1.2 t1 _ ht1).2
  have e3 : cA = cB := Option.some.inj (e2.symm.trans e1)
  subst e3
  rw [aw_rows] at hP1 hD1
  exact kk q r p e s m args below meth c H1 locs A ls C ⟨hS1, D.2.1, hP1, hD1⟩ hl
end AWM
end
section
-- facts on the words of the tables, by their places
set_option maxRecDepth 100000 in
theorem k_0 : (Jvm.Cond.initialized "WalkRanksLaw") ∈ aw_WS := aw_in (List.mem_of_getElem? (i := 23) rfl) rfl
set_option maxRecDepth 100000 in
theorem k_1 : (Jvm.Cond.initialized "WalkRanks") ∈ aw_WS := aw_in (List.mem_of_getElem? (i := 24) rfl) rfl
set_option maxRecDepth 100000 in
theorem k_2 : (Jvm.Cond.initialized "WalkRanks$Graph") ∈ aw_WS := aw_in (List.mem_of_getElem? (i := 25) rfl) rfl
set_option maxRecDepth 100000 in
theorem k_3 : (Jvm.Cond.initialized "WalkRanks$Steps") ∈ aw_WS := aw_in (List.mem_of_getElem? (i := 26) rfl) rfl
set_option maxRecDepth 100000 in
theorem k_4 : (Jvm.Cond.initialized "WalkRanks$ClosedSets") ∈ aw_WS := aw_in (List.mem_of_getElem? (i := 27) rfl) rfl
set_option maxRecDepth 100000 in
theorem k_5 : (Jvm.Cond.initialized "WalkRanks$Equations") ∈ aw_WS := aw_in (List.mem_of_getElem? (i := 28) rfl) rfl
set_option maxRecDepth 100000 in
theorem k_6 : (Jvm.Cond.initialized "WalkRanks$Spread") ∈ aw_WS := aw_in (List.mem_of_getElem? (i := 29) rfl) rfl
set_option maxRecDepth 100000 in
theorem k_7 : (Jvm.Cond.initialized "WalkRanksModel") ∈ aw_WS := aw_in (List.mem_of_getElem? (i := 30) rfl) rfl
set_option maxRecDepth 100000 in
theorem k_8 : (Jvm.Cond.classLink "WalkRanksLaw" (7 : Nat) "WalkRanks") ∈ aw_WS := aw_in (List.mem_of_getElem? (i := 31) rfl) rfl
set_option maxRecDepth 100000 in
theorem k_9 : (Jvm.Cond.instantiable "WalkRanks" (6 : Nat)) ∈ aw_WS := aw_in (List.mem_of_getElem? (i := 32) rfl) rfl
set_option maxRecDepth 100000 in
theorem k_10 : (Jvm.Cond.methodLink "WalkRanksLaw" (9 : Nat) ({ cls := "WalkRanks", name := "<init>", desc := "()V" } : Jvm.MethodName)) ∈ aw_WS := aw_in (List.mem_of_getElem? (i := 33) rfl) rfl
set_option maxRecDepth 100000 in
theorem k_11 : (Jvm.Cond.instanceMethod ({ cls := "WalkRanks", name := "<init>", desc := "()V" } : Jvm.MethodName)) ∈ aw_WS := aw_in (List.mem_of_getElem? (i := 34) rfl) rfl
set_option maxRecDepth 100000 in
theorem k_12 : (Jvm.Cond.code ({ cls := "WalkRanks", name := "<init>", desc := "()V" } : Jvm.MethodName) prog_1_method_1_code (1 : Nat) (Option.none : Option Jvm.ClassFile.FieldType)) ∈ aw_WS := aw_in (List.mem_of_getElem? (i := 35) rfl) rfl
set_option maxRecDepth 100000 in
theorem k_13 : (Jvm.Cond.methodLink "WalkRanks" (1 : Nat) ({ cls := "java/lang/Object", name := "<init>", desc := "()V" } : Jvm.MethodName)) ∈ aw_WS := aw_in (List.mem_of_getElem? (i := 36) rfl) rfl
set_option maxRecDepth 100000 in
theorem k_14 : (Jvm.Cond.instanceMethod ({ cls := "java/lang/Object", name := "<init>", desc := "()V" } : Jvm.MethodName)) ∈ aw_WS := aw_in (List.mem_of_getElem? (i := 37) rfl) rfl
set_option maxRecDepth 100000 in
theorem k_15 : (Jvm.Cond.code ({ cls := "java/lang/Object", name := "<init>", desc := "()V" } : Jvm.MethodName) object_method_1_code (1 : Nat) (Option.none : Option Jvm.ClassFile.FieldType)) ∈ aw_WS := aw_in (List.mem_of_getElem? (i := 38) rfl) rfl
set_option maxRecDepth 100000 in
theorem k_16 : (Jvm.Cond.classLink "WalkRanks" (7 : Nat) "WalkRanks$Graph") ∈ aw_WS := aw_in (List.mem_of_getElem? (i := 39) rfl) rfl
set_option maxRecDepth 100000 in
theorem k_17 : (Jvm.Cond.instantiable "WalkRanks$Graph" (5 : Nat)) ∈ aw_WS := aw_in (List.mem_of_getElem? (i := 40) rfl) rfl
set_option maxRecDepth 100000 in
theorem k_18 : (Jvm.Cond.methodLinkNest "WalkRanks" (9 : Nat) ({ cls := "WalkRanks$Graph", name := "<init>", desc := "()V" } : Jvm.MethodName) "WalkRanks") ∈ aw_NW := aw_inN (List.mem_of_getElem? (i := 41) rfl) rfl
set_option maxRecDepth 100000 in
theorem k_19 : (Jvm.Cond.instanceMethod ({ cls := "WalkRanks$Graph", name := "<init>", desc := "()V" } : Jvm.MethodName)) ∈ aw_WS := aw_in (List.mem_of_getElem? (i := 42) rfl) rfl
set_option maxRecDepth 100000 in
theorem k_20 : (Jvm.Cond.code ({ cls := "WalkRanks$Graph", name := "<init>", desc := "()V" } : Jvm.MethodName) prog_4_method_1_code (1 : Nat) (Option.none : Option Jvm.ClassFile.FieldType)) ∈ aw_WS := aw_in (List.mem_of_getElem? (i := 43) rfl) rfl
set_option maxRecDepth 100000 in
theorem k_21 : (Jvm.Cond.methodLink "WalkRanks$Graph" (3 : Nat) ({ cls := "java/lang/Object", name := "<init>", desc := "()V" } : Jvm.MethodName)) ∈ aw_WS := aw_in (List.mem_of_getElem? (i := 44) rfl) rfl
set_option maxRecDepth 100000 in
theorem k_22 : (Jvm.Cond.classLink "WalkRanks$Graph" (21 : Nat) "[[I") ∈ aw_WS := aw_in (List.mem_of_getElem? (i := 45) rfl) rfl
set_option maxRecDepth 100000 in
theorem k_24 : (Jvm.Cond.fieldLink "WalkRanks$Graph" (9 : Nat) "WalkRanks$Graph" "size" "I") ∈ aw_WS := aw_in (List.mem_of_getElem? (i := 47) rfl) rfl
set_option maxRecDepth 100000 in
theorem k_25 : (Jvm.Cond.fieldLink "WalkRanks$Steps" (27 : Nat) "WalkRanks$Graph" "size" "I") ∈ aw_WS := aw_in (List.mem_of_getElem? (i := 48) rfl) rfl
set_option maxRecDepth 100000 in
theorem k_26 : (Jvm.Cond.fieldLink "WalkRanks$Spread" (27 : Nat) "WalkRanks$Graph" "size" "I") ∈ aw_WS := aw_in (List.mem_of_getElem? (i := 49) rfl) rfl
set_option maxRecDepth 100000 in
theorem k_27 : (Jvm.Cond.fieldLink "WalkRanks" (48 : Nat) "WalkRanks$Graph" "size" "I") ∈ aw_WS := aw_in (List.mem_of_getElem? (i := 50) rfl) rfl
set_option maxRecDepth 100000 in
theorem k_28 : (Jvm.Cond.fieldLink "WalkRanks$Graph" (15 : Nat) "WalkRanks$Graph" "keepAbove" "I") ∈ aw_WS := aw_in (List.mem_of_getElem? (i := 51) rfl) rfl
set_option maxRecDepth 100000 in
theorem k_29 : (Jvm.Cond.fieldLink "WalkRanks$Steps" (49 : Nat) "WalkRanks$Graph" "keepAbove" "I") ∈ aw_WS := aw_in (List.mem_of_getElem? (i := 52) rfl) rfl
set_option maxRecDepth 100000 in
theorem k_30 : (Jvm.Cond.fieldLink "WalkRanks" (71 : Nat) "WalkRanks$Graph" "keepAbove" "I") ∈ aw_WS := aw_in (List.mem_of_getElem? (i := 53) rfl) rfl
set_option maxRecDepth 100000 in
theorem k_31 : (Jvm.Cond.fieldLink "WalkRanks$Graph" (18 : Nat) "WalkRanks$Graph" "keepBelow" "I") ∈ aw_WS := aw_in (List.mem_of_getElem? (i := 54) rfl) rfl
set_option maxRecDepth 100000 in
theorem k_32 : (Jvm.Cond.fieldLink "WalkRanks$Steps" (52 : Nat) "WalkRanks$Graph" "keepBelow" "I") ∈ aw_WS := aw_in (List.mem_of_getElem? (i := 55) rfl) rfl
set_option maxRecDepth 100000 in
theorem k_33 : (Jvm.Cond.fieldLink "WalkRanks" (74 : Nat) "WalkRanks$Graph" "keepBelow" "I") ∈ aw_WS := aw_in (List.mem_of_getElem? (i := 56) rfl) rfl
set_option maxRecDepth 100000 in
theorem k_34 : (Jvm.Cond.fieldLink "WalkRanks$Graph" (23 : Nat) "WalkRanks$Graph" "weights" "[[I") ∈ aw_WS := aw_in (List.mem_of_getElem? (i := 57) rfl) rfl
set_option maxRecDepth 100000 in
theorem k_35 : (Jvm.Cond.fieldLink "WalkRanks$Spread" (30 : Nat) "WalkRanks$Graph" "weights" "[[I") ∈ aw_WS := aw_in (List.mem_of_getElem? (i := 58) rfl) rfl
set_option maxRecDepth 100000 in
theorem k_36 : (Jvm.Cond.fieldLink "WalkRanks" (63 : Nat) "WalkRanks$Graph" "weights" "[[I") ∈ aw_WS := aw_in (List.mem_of_getElem? (i := 59) rfl) rfl
set_option maxRecDepth 100000 in
theorem k_37 : (Jvm.Cond.fieldLink "WalkRanks$Steps" (55 : Nat) "WalkRanks$Graph" "weights" "[[I") ∈ aw_WS := aw_in (List.mem_of_getElem? (i := 60) rfl) rfl
set_option maxRecDepth 100000 in
theorem k_38 : (Jvm.Cond.fieldLink "WalkRanks$Graph" (26 : Nat) "WalkRanks$Graph" "jumps" "[I") ∈ aw_WS := aw_in (List.mem_of_getElem? (i := 61) rfl) rfl
set_option maxRecDepth 100000 in
theorem k_39 : (Jvm.Cond.fieldLink "WalkRanks$Steps" (58 : Nat) "WalkRanks$Graph" "jumps" "[I") ∈ aw_WS := aw_in (List.mem_of_getElem? (i := 62) rfl) rfl
set_option maxRecDepth 100000 in
theorem k_40 : (Jvm.Cond.fieldLink "WalkRanks" (67 : Nat) "WalkRanks$Graph" "jumps" "[I") ∈ aw_WS := aw_in (List.mem_of_getElem? (i := 63) rfl) rfl
set_option maxRecDepth 100000 in
theorem k_41 : (Jvm.Cond.lays "WalkRanks$Graph" "WalkRanks$Graph" "size" "I") ∈ aw_WS := aw_in (List.mem_of_getElem? (i := 64) rfl) rfl
set_option maxRecDepth 100000 in
theorem k_42 : (Jvm.Cond.soleField "WalkRanks$Graph" "size") ∈ aw_WS := aw_in (List.mem_of_getElem? (i := 65) rfl) rfl
set_option maxRecDepth 100000 in
theorem k_43 : (Jvm.Cond.lays "WalkRanks$Graph" "WalkRanks$Graph" "keepAbove" "I") ∈ aw_WS := aw_in (List.mem_of_getElem? (i := 66) rfl) rfl
set_option maxRecDepth 100000 in
theorem k_44 : (Jvm.Cond.soleField "WalkRanks$Graph" "keepAbove") ∈ aw_WS := aw_in (List.mem_of_getElem? (i := 67) rfl) rfl
set_option maxRecDepth 100000 in
theorem k_45 : (Jvm.Cond.lays "WalkRanks$Graph" "WalkRanks$Graph" "keepBelow" "I") ∈ aw_WS := aw_in (List.mem_of_getElem? (i := 68) rfl) rfl
set_option maxRecDepth 100000 in
theorem k_46 : (Jvm.Cond.soleField "WalkRanks$Graph" "keepBelow") ∈ aw_WS := aw_in (List.mem_of_getElem? (i := 69) rfl) rfl
set_option maxRecDepth 100000 in
theorem k_47 : (Jvm.Cond.laysFinal "WalkRanks$Graph" "WalkRanks$Graph" "weights" "[[I") ∈ aw_WS := aw_in (List.mem_of_getElem? (i := 70) rfl) rfl
set_option maxRecDepth 100000 in
theorem k_48 : (Jvm.Cond.soleField "WalkRanks$Graph" "weights") ∈ aw_WS := aw_in (List.mem_of_getElem? (i := 71) rfl) rfl
set_option maxRecDepth 100000 in
theorem k_49 : (Jvm.Cond.laysFinal "WalkRanks$Graph" "WalkRanks$Graph" "jumps" "[I") ∈ aw_WS := aw_in (List.mem_of_getElem? (i := 72) rfl) rfl
set_option maxRecDepth 100000 in
theorem k_50 : (Jvm.Cond.soleField "WalkRanks$Graph" "jumps") ∈ aw_WS := aw_in (List.mem_of_getElem? (i := 73) rfl) rfl
set_option maxRecDepth 100000 in
theorem k_51 : (Jvm.Cond.superclass "WalkRanks$Graph" "java/lang/Object") ∈ aw_WS := aw_in (List.mem_of_getElem? (i := 74) rfl) rfl
set_option maxRecDepth 100000 in
theorem k_52 : (Jvm.Cond.arrayClass Jvm.ClassFile.FieldType.int) ∈ aw_WS := aw_in (List.mem_of_getElem? (i := 75) rfl) rfl
set_option maxRecDepth 100000 in
theorem k_53 : (Jvm.Cond.classLink "WalkRanks" (16 : Nat) "WalkRanks$Steps") ∈ aw_WS := aw_in (List.mem_of_getElem? (i := 76) rfl) rfl
set_option maxRecDepth 100000 in
theorem k_54 : (Jvm.Cond.instantiable "WalkRanks$Steps" (4 : Nat)) ∈ aw_WS := aw_in (List.mem_of_getElem? (i := 77) rfl) rfl
set_option maxRecDepth 100000 in
theorem k_55 : (Jvm.Cond.methodLinkNest "WalkRanks" (18 : Nat) ({ cls := "WalkRanks$Steps", name := "<init>", desc := "()V" } : Jvm.MethodName) "WalkRanks") ∈ aw_NW := aw_inN (List.mem_of_getElem? (i := 78) rfl) rfl
set_option maxRecDepth 100000 in
theorem k_56 : (Jvm.Cond.instanceMethod ({ cls := "WalkRanks$Steps", name := "<init>", desc := "()V" } : Jvm.MethodName)) ∈ aw_WS := aw_in (List.mem_of_getElem? (i := 79) rfl) rfl
set_option maxRecDepth 100000 in
theorem k_57 : (Jvm.Cond.code ({ cls := "WalkRanks$Steps", name := "<init>", desc := "()V" } : Jvm.MethodName) prog_6_method_1_code (1 : Nat) (Option.none : Option Jvm.ClassFile.FieldType)) ∈ aw_WS := aw_in (List.mem_of_getElem? (i := 80) rfl) rfl
set_option maxRecDepth 100000 in
theorem k_58 : (Jvm.Cond.methodLink "WalkRanks$Steps" (3 : Nat) ({ cls := "java/lang/Object", name := "<init>", desc := "()V" } : Jvm.MethodName)) ∈ aw_WS := aw_in (List.mem_of_getElem? (i := 81) rfl) rfl
set_option maxRecDepth 100000 in
theorem k_59 : (Jvm.Cond.classLink "WalkRanks$Steps" (15 : Nat) "[[I") ∈ aw_WS := aw_in (List.mem_of_getElem? (i := 82) rfl) rfl
set_option maxRecDepth 100000 in
theorem k_60 : (Jvm.Cond.fieldLink "WalkRanks$Steps" (9 : Nat) "WalkRanks$Steps" "size" "I") ∈ aw_WS := aw_in (List.mem_of_getElem? (i := 83) rfl) rfl
set_option maxRecDepth 100000 in
theorem k_61 : (Jvm.Cond.fieldLink "WalkRanks$ClosedSets" (31 : Nat) "WalkRanks$Steps" "size" "I") ∈ aw_WS := aw_in (List.mem_of_getElem? (i := 84) rfl) rfl
set_option maxRecDepth 100000 in
theorem k_62 : (Jvm.Cond.fieldLink "WalkRanks$Equations" (20 : Nat) "WalkRanks$Steps" "size" "I") ∈ aw_WS := aw_in (List.mem_of_getElem? (i := 85) rfl) rfl
set_option maxRecDepth 100000 in
theorem k_63 : (Jvm.Cond.fieldLink "WalkRanks$Spread" (34 : Nat) "WalkRanks$Steps" "size" "I") ∈ aw_WS := aw_in (List.mem_of_getElem? (i := 86) rfl) rfl
set_option maxRecDepth 100000 in
theorem k_64 : (Jvm.Cond.fieldLink "WalkRanks$Steps" (17 : Nat) "WalkRanks$Steps" "parts" "[[I") ∈ aw_WS := aw_in (List.mem_of_getElem? (i := 87) rfl) rfl
set_option maxRecDepth 100000 in
theorem k_65 : (Jvm.Cond.fieldLink "WalkRanks$Equations" (31 : Nat) "WalkRanks$Steps" "parts" "[[I") ∈ aw_WS := aw_in (List.mem_of_getElem? (i := 88) rfl) rfl
set_option maxRecDepth 100000 in
theorem k_66 : (Jvm.Cond.fieldLink "WalkRanks$Spread" (41 : Nat) "WalkRanks$Steps" "parts" "[[I") ∈ aw_WS := aw_in (List.mem_of_getElem? (i := 89) rfl) rfl
set_option maxRecDepth 100000 in
theorem k_67 : (Jvm.Cond.fieldLink "WalkRanks" (77 : Nat) "WalkRanks$Steps" "parts" "[[I") ∈ aw_WS := aw_in (List.mem_of_getElem? (i := 90) rfl) rfl
set_option maxRecDepth 100000 in
theorem k_68 : (Jvm.Cond.fieldLink "WalkRanks$Steps" (20 : Nat) "WalkRanks$Steps" "totals" "[I") ∈ aw_WS := aw_in (List.mem_of_getElem? (i := 91) rfl) rfl
set_option maxRecDepth 100000 in
theorem k_69 : (Jvm.Cond.fieldLink "WalkRanks$Equations" (27 : Nat) "WalkRanks$Steps" "totals" "[I") ∈ aw_WS := aw_in (List.mem_of_getElem? (i := 92) rfl) rfl
set_option maxRecDepth 100000 in
theorem k_70 : (Jvm.Cond.fieldLink "WalkRanks$Spread" (37 : Nat) "WalkRanks$Steps" "totals" "[I") ∈ aw_WS := aw_in (List.mem_of_getElem? (i := 93) rfl) rfl
set_option maxRecDepth 100000 in
theorem k_71 : (Jvm.Cond.fieldLink "WalkRanks" (80 : Nat) "WalkRanks$Steps" "totals" "[I") ∈ aw_WS := aw_in (List.mem_of_getElem? (i := 94) rfl) rfl
set_option maxRecDepth 100000 in
theorem k_72 : (Jvm.Cond.fieldLink "WalkRanks$Steps" (24 : Nat) "WalkRanks$Steps" "next" "[I") ∈ aw_WS := aw_in (List.mem_of_getElem? (i := 95) rfl) rfl
set_option maxRecDepth 100000 in
theorem k_73 : (Jvm.Cond.lays "WalkRanks$Steps" "WalkRanks$Steps" "size" "I") ∈ aw_WS := aw_in (List.mem_of_getElem? (i := 96) rfl) rfl
set_option maxRecDepth 100000 in
theorem k_74 : (Jvm.Cond.soleField "WalkRanks$Steps" "size") ∈ aw_WS := aw_in (List.mem_of_getElem? (i := 97) rfl) rfl
set_option maxRecDepth 100000 in
theorem k_75 : (Jvm.Cond.laysFinal "WalkRanks$Steps" "WalkRanks$Steps" "parts" "[[I") ∈ aw_WS := aw_in (List.mem_of_getElem? (i := 98) rfl) rfl
set_option maxRecDepth 100000 in
theorem k_76 : (Jvm.Cond.soleField "WalkRanks$Steps" "parts") ∈ aw_WS := aw_in (List.mem_of_getElem? (i := 99) rfl) rfl
set_option maxRecDepth 100000 in
theorem k_77 : (Jvm.Cond.laysFinal "WalkRanks$Steps" "WalkRanks$Steps" "totals" "[I") ∈ aw_WS := aw_in (List.mem_of_getElem? (i := 100) rfl) rfl
set_option maxRecDepth 100000 in
theorem k_78 : (Jvm.Cond.soleField "WalkRanks$Steps" "totals") ∈ aw_WS := aw_in (List.mem_of_getElem? (i := 101) rfl) rfl
set_option maxRecDepth 100000 in
theorem k_79 : (Jvm.Cond.laysFinal "WalkRanks$Steps" "WalkRanks$Steps" "next" "[I") ∈ aw_WS := aw_in (List.mem_of_getElem? (i := 102) rfl) rfl
set_option maxRecDepth 100000 in
theorem k_80 : (Jvm.Cond.soleField "WalkRanks$Steps" "next") ∈ aw_WS := aw_in (List.mem_of_getElem? (i := 103) rfl) rfl
set_option maxRecDepth 100000 in
theorem k_81 : (Jvm.Cond.superclass "WalkRanks$Steps" "java/lang/Object") ∈ aw_WS := aw_in (List.mem_of_getElem? (i := 104) rfl) rfl
set_option maxRecDepth 100000 in
theorem k_82 : (Jvm.Cond.classLink "WalkRanks" (23 : Nat) "WalkRanks$ClosedSets") ∈ aw_WS := aw_in (List.mem_of_getElem? (i := 105) rfl) rfl
set_option maxRecDepth 100000 in
theorem k_83 : (Jvm.Cond.instantiable "WalkRanks$ClosedSets" (6 : Nat)) ∈ aw_WS := aw_in (List.mem_of_getElem? (i := 106) rfl) rfl
set_option maxRecDepth 100000 in
theorem k_84 : (Jvm.Cond.methodLinkNest "WalkRanks" (25 : Nat) ({ cls := "WalkRanks$ClosedSets", name := "<init>", desc := "()V" } : Jvm.MethodName) "WalkRanks") ∈ aw_NW := aw_inN (List.mem_of_getElem? (i := 107) rfl) rfl
set_option maxRecDepth 100000 in
theorem k_85 : (Jvm.Cond.instanceMethod ({ cls := "WalkRanks$ClosedSets", name := "<init>", desc := "()V" } : Jvm.MethodName)) ∈ aw_WS := aw_in (List.mem_of_getElem? (i := 108) rfl) rfl
set_option maxRecDepth 100000 in
theorem k_86 : (Jvm.Cond.code ({ cls := "WalkRanks$ClosedSets", name := "<init>", desc := "()V" } : Jvm.MethodName) prog_2_method_1_code (1 : Nat) (Option.none : Option Jvm.ClassFile.FieldType)) ∈ aw_WS := aw_in (List.mem_of_getElem? (i := 109) rfl) rfl
set_option maxRecDepth 100000 in
theorem k_87 : (Jvm.Cond.methodLink "WalkRanks$ClosedSets" (3 : Nat) ({ cls := "java/lang/Object", name := "<init>", desc := "()V" } : Jvm.MethodName)) ∈ aw_WS := aw_in (List.mem_of_getElem? (i := 110) rfl) rfl
set_option maxRecDepth 100000 in
theorem k_88 : (Jvm.Cond.fieldLink "WalkRanks$ClosedSets" (9 : Nat) "WalkRanks$ClosedSets" "number" "I") ∈ aw_WS := aw_in (List.mem_of_getElem? (i := 111) rfl) rfl
set_option maxRecDepth 100000 in
theorem k_89 : (Jvm.Cond.fieldLink "WalkRanks" (83 : Nat) "WalkRanks$ClosedSets" "number" "I") ∈ aw_WS := aw_in (List.mem_of_getElem? (i := 112) rfl) rfl
set_option maxRecDepth 100000 in
theorem k_90 : (Jvm.Cond.fieldLink "WalkRanks$ClosedSets" (15 : Nat) "WalkRanks$ClosedSets" "members" "[I") ∈ aw_WS := aw_in (List.mem_of_getElem? (i := 113) rfl) rfl
set_option maxRecDepth 100000 in
theorem k_91 : (Jvm.Cond.fieldLink "WalkRanks" (108 : Nat) "WalkRanks$ClosedSets" "members" "[I") ∈ aw_WS := aw_in (List.mem_of_getElem? (i := 114) rfl) rfl
set_option maxRecDepth 100000 in
theorem k_92 : (Jvm.Cond.fieldLink "WalkRanks$ClosedSets" (19 : Nat) "WalkRanks$ClosedSets" "leastNodes" "[I") ∈ aw_WS := aw_in (List.mem_of_getElem? (i := 115) rfl) rfl
set_option maxRecDepth 100000 in
theorem k_93 : (Jvm.Cond.fieldLink "WalkRanks" (92 : Nat) "WalkRanks$ClosedSets" "leastNodes" "[I") ∈ aw_WS := aw_in (List.mem_of_getElem? (i := 116) rfl) rfl
set_option maxRecDepth 100000 in
theorem k_94 : (Jvm.Cond.fieldLink "WalkRanks$ClosedSets" (22 : Nat) "WalkRanks$ClosedSets" "setOf" "[I") ∈ aw_WS := aw_in (List.mem_of_getElem? (i := 117) rfl) rfl
set_option maxRecDepth 100000 in
theorem k_95 : (Jvm.Cond.fieldLink "WalkRanks" (86 : Nat) "WalkRanks$ClosedSets" "setOf" "[I") ∈ aw_WS := aw_in (List.mem_of_getElem? (i := 118) rfl) rfl
set_option maxRecDepth 100000 in
theorem k_96 : (Jvm.Cond.fieldLink "WalkRanks$ClosedSets" (25 : Nat) "WalkRanks$ClosedSets" "size" "I") ∈ aw_WS := aw_in (List.mem_of_getElem? (i := 119) rfl) rfl
set_option maxRecDepth 100000 in
theorem k_97 : (Jvm.Cond.fieldLink "WalkRanks$ClosedSets" (28 : Nat) "WalkRanks$ClosedSets" "leads" "[I") ∈ aw_WS := aw_in (List.mem_of_getElem? (i := 120) rfl) rfl
set_option maxRecDepth 100000 in
theorem k_98 : (Jvm.Cond.lays "WalkRanks$ClosedSets" "WalkRanks$ClosedSets" "number" "I") ∈ aw_WS := aw_in (List.mem_of_getElem? (i := 121) rfl) rfl
set_option maxRecDepth 100000 in
theorem k_99 : (Jvm.Cond.soleField "WalkRanks$ClosedSets" "number") ∈ aw_WS := aw_in (List.mem_of_getElem? (i := 122) rfl) rfl
set_option maxRecDepth 100000 in
theorem k_100 : (Jvm.Cond.laysFinal "WalkRanks$ClosedSets" "WalkRanks$ClosedSets" "members" "[I") ∈ aw_WS := aw_in (List.mem_of_getElem? (i := 123) rfl) rfl
set_option maxRecDepth 100000 in
theorem k_101 : (Jvm.Cond.soleField "WalkRanks$ClosedSets" "members") ∈ aw_WS := aw_in (List.mem_of_getElem? (i := 124) rfl) rfl
set_option maxRecDepth 100000 in
theorem k_102 : (Jvm.Cond.laysFinal "WalkRanks$ClosedSets" "WalkRanks$ClosedSets" "leastNodes" "[I") ∈ aw_WS := aw_in (List.mem_of_getElem? (i := 125) rfl) rfl
set_option maxRecDepth 100000 in
theorem k_103 : (Jvm.Cond.soleField "WalkRanks$ClosedSets" "leastNodes") ∈ aw_WS := aw_in (List.mem_of_getElem? (i := 126) rfl) rfl
set_option maxRecDepth 100000 in
theorem k_104 : (Jvm.Cond.laysFinal "WalkRanks$ClosedSets" "WalkRanks$ClosedSets" "setOf" "[I") ∈ aw_WS := aw_in (List.mem_of_getElem? (i := 127) rfl) rfl
set_option maxRecDepth 100000 in
theorem k_105 : (Jvm.Cond.soleField "WalkRanks$ClosedSets" "setOf") ∈ aw_WS := aw_in (List.mem_of_getElem? (i := 128) rfl) rfl
set_option maxRecDepth 100000 in
theorem k_106 : (Jvm.Cond.lays "WalkRanks$ClosedSets" "WalkRanks$ClosedSets" "size" "I") ∈ aw_WS := aw_in (List.mem_of_getElem? (i := 129) rfl) rfl
set_option maxRecDepth 100000 in
theorem k_107 : (Jvm.Cond.soleField "WalkRanks$ClosedSets" "size") ∈ aw_WS := aw_in (List.mem_of_getElem? (i := 130) rfl) rfl
set_option maxRecDepth 100000 in
theorem k_108 : (Jvm.Cond.laysFinal "WalkRanks$ClosedSets" "WalkRanks$ClosedSets" "leads" "[I") ∈ aw_WS := aw_in (List.mem_of_getElem? (i := 131) rfl) rfl
set_option maxRecDepth 100000 in
theorem k_109 : (Jvm.Cond.soleField "WalkRanks$ClosedSets" "leads") ∈ aw_WS := aw_in (List.mem_of_getElem? (i := 132) rfl) rfl
set_option maxRecDepth 100000 in
theorem k_110 : (Jvm.Cond.superclass "WalkRanks$ClosedSets" "java/lang/Object") ∈ aw_WS := aw_in (List.mem_of_getElem? (i := 133) rfl) rfl
set_option maxRecDepth 100000 in
theorem k_111 : (Jvm.Cond.classLink "WalkRanks" (30 : Nat) "WalkRanks$Equations") ∈ aw_WS := aw_in (List.mem_of_getElem? (i := 134) rfl) rfl
set_option maxRecDepth 100000 in
theorem k_112 : (Jvm.Cond.instantiable "WalkRanks$Equations" (2 : Nat)) ∈ aw_WS := aw_in (List.mem_of_getElem? (i := 135) rfl) rfl
set_option maxRecDepth 100000 in
theorem k_113 : (Jvm.Cond.methodLinkNest "WalkRanks" (32 : Nat) ({ cls := "WalkRanks$Equations", name := "<init>", desc := "()V" } : Jvm.MethodName) "WalkRanks") ∈ aw_NW := aw_inN (List.mem_of_getElem? (i := 136) rfl) rfl
set_option maxRecDepth 100000 in
theorem k_114 : (Jvm.Cond.instanceMethod ({ cls := "WalkRanks$Equations", name := "<init>", desc := "()V" } : Jvm.MethodName)) ∈ aw_WS := aw_in (List.mem_of_getElem? (i := 137) rfl) rfl
set_option maxRecDepth 100000 in
theorem k_115 : (Jvm.Cond.code ({ cls := "WalkRanks$Equations", name := "<init>", desc := "()V" } : Jvm.MethodName) prog_3_method_1_code (1 : Nat) (Option.none : Option Jvm.ClassFile.FieldType)) ∈ aw_WS := aw_in (List.mem_of_getElem? (i := 138) rfl) rfl
set_option maxRecDepth 100000 in
theorem k_116 : (Jvm.Cond.methodLink "WalkRanks$Equations" (3 : Nat) ({ cls := "java/lang/Object", name := "<init>", desc := "()V" } : Jvm.MethodName)) ∈ aw_WS := aw_in (List.mem_of_getElem? (i := 139) rfl) rfl
set_option maxRecDepth 100000 in
theorem k_117 : (Jvm.Cond.classLink "WalkRanks$Equations" (15 : Nat) "[[J") ∈ aw_WS := aw_in (List.mem_of_getElem? (i := 140) rfl) rfl
set_option maxRecDepth 100000 in
theorem k_119 : (Jvm.Cond.fieldLink "WalkRanks$Equations" (9 : Nat) "WalkRanks$Equations" "size" "I") ∈ aw_WS := aw_in (List.mem_of_getElem? (i := 142) rfl) rfl
set_option maxRecDepth 100000 in
theorem k_120 : (Jvm.Cond.fieldLink "WalkRanks$Equations" (17 : Nat) "WalkRanks$Equations" "cells" "[[J") ∈ aw_WS := aw_in (List.mem_of_getElem? (i := 143) rfl) rfl
set_option maxRecDepth 100000 in
theorem k_121 : (Jvm.Cond.lays "WalkRanks$Equations" "WalkRanks$Equations" "size" "I") ∈ aw_WS := aw_in (List.mem_of_getElem? (i := 144) rfl) rfl
set_option maxRecDepth 100000 in
theorem k_122 : (Jvm.Cond.soleField "WalkRanks$Equations" "size") ∈ aw_WS := aw_in (List.mem_of_getElem? (i := 145) rfl) rfl
set_option maxRecDepth 100000 in
theorem k_123 : (Jvm.Cond.laysFinal "WalkRanks$Equations" "WalkRanks$Equations" "cells" "[[J") ∈ aw_WS := aw_in (List.mem_of_getElem? (i := 146) rfl) rfl
set_option maxRecDepth 100000 in
theorem k_124 : (Jvm.Cond.soleField "WalkRanks$Equations" "cells") ∈ aw_WS := aw_in (List.mem_of_getElem? (i := 147) rfl) rfl
set_option maxRecDepth 100000 in
theorem k_125 : (Jvm.Cond.superclass "WalkRanks$Equations" "java/lang/Object") ∈ aw_WS := aw_in (List.mem_of_getElem? (i := 148) rfl) rfl
set_option maxRecDepth 100000 in
theorem k_126 : (Jvm.Cond.arrayClass Jvm.ClassFile.FieldType.long) ∈ aw_WS := aw_in (List.mem_of_getElem? (i := 149) rfl) rfl
set_option maxRecDepth 100000 in
theorem k_127 : (Jvm.Cond.classLink "WalkRanks" (37 : Nat) "WalkRanks$Spread") ∈ aw_WS := aw_in (List.mem_of_getElem? (i := 150) rfl) rfl
set_option maxRecDepth 100000 in
theorem k_128 : (Jvm.Cond.instantiable "WalkRanks$Spread" (4 : Nat)) ∈ aw_WS := aw_in (List.mem_of_getElem? (i := 151) rfl) rfl
set_option maxRecDepth 100000 in
theorem k_129 : (Jvm.Cond.methodLinkNest "WalkRanks" (39 : Nat) ({ cls := "WalkRanks$Spread", name := "<init>", desc := "()V" } : Jvm.MethodName) "WalkRanks") ∈ aw_NW := aw_inN (List.mem_of_getElem? (i := 152) rfl) rfl
set_option maxRecDepth 100000 in
theorem k_130 : (Jvm.Cond.instanceMethod ({ cls := "WalkRanks$Spread", name := "<init>", desc := "()V" } : Jvm.MethodName)) ∈ aw_WS := aw_in (List.mem_of_getElem? (i := 153) rfl) rfl
set_option maxRecDepth 100000 in
theorem k_131 : (Jvm.Cond.code ({ cls := "WalkRanks$Spread", name := "<init>", desc := "()V" } : Jvm.MethodName) prog_5_method_1_code (1 : Nat) (Option.none : Option Jvm.ClassFile.FieldType)) ∈ aw_WS := aw_in (List.mem_of_getElem? (i := 154) rfl) rfl
set_option maxRecDepth 100000 in
theorem k_132 : (Jvm.Cond.methodLink "WalkRanks$Spread" (3 : Nat) ({ cls := "java/lang/Object", name := "<init>", desc := "()V" } : Jvm.MethodName)) ∈ aw_WS := aw_in (List.mem_of_getElem? (i := 155) rfl) rfl
set_option maxRecDepth 100000 in
theorem k_133 : (Jvm.Cond.classLink "WalkRanks$Spread" (22 : Nat) "[[J") ∈ aw_WS := aw_in (List.mem_of_getElem? (i := 156) rfl) rfl
set_option maxRecDepth 100000 in
theorem k_134 : (Jvm.Cond.fieldLink "WalkRanks$Spread" (9 : Nat) "WalkRanks$Spread" "now" "[J") ∈ aw_WS := aw_in (List.mem_of_getElem? (i := 157) rfl) rfl
set_option maxRecDepth 100000 in
theorem k_135 : (Jvm.Cond.fieldLink "WalkRanks$Spread" (15 : Nat) "WalkRanks$Spread" "next" "[J") ∈ aw_WS := aw_in (List.mem_of_getElem? (i := 158) rfl) rfl
set_option maxRecDepth 100000 in
theorem k_136 : (Jvm.Cond.fieldLink "WalkRanks$Spread" (18 : Nat) "WalkRanks$Spread" "size" "I") ∈ aw_WS := aw_in (List.mem_of_getElem? (i := 159) rfl) rfl
set_option maxRecDepth 100000 in
theorem k_137 : (Jvm.Cond.fieldLink "WalkRanks$Spread" (24 : Nat) "WalkRanks$Spread" "factors" "[[J") ∈ aw_WS := aw_in (List.mem_of_getElem? (i := 160) rfl) rfl
set_option maxRecDepth 100000 in
theorem k_138 : (Jvm.Cond.lays "WalkRanks$Spread" "WalkRanks$Spread" "now" "[J") ∈ aw_WS := aw_in (List.mem_of_getElem? (i := 161) rfl) rfl
set_option maxRecDepth 100000 in
theorem k_139 : (Jvm.Cond.soleField "WalkRanks$Spread" "now") ∈ aw_WS := aw_in (List.mem_of_getElem? (i := 162) rfl) rfl
set_option maxRecDepth 100000 in
theorem k_140 : (Jvm.Cond.lays "WalkRanks$Spread" "WalkRanks$Spread" "next" "[J") ∈ aw_WS := aw_in (List.mem_of_getElem? (i := 163) rfl) rfl
set_option maxRecDepth 100000 in
theorem k_141 : (Jvm.Cond.soleField "WalkRanks$Spread" "next") ∈ aw_WS := aw_in (List.mem_of_getElem? (i := 164) rfl) rfl
set_option maxRecDepth 100000 in
theorem k_142 : (Jvm.Cond.lays "WalkRanks$Spread" "WalkRanks$Spread" "size" "I") ∈ aw_WS := aw_in (List.mem_of_getElem? (i := 165) rfl) rfl
set_option maxRecDepth 100000 in
theorem k_143 : (Jvm.Cond.soleField "WalkRanks$Spread" "size") ∈ aw_WS := aw_in (List.mem_of_getElem? (i := 166) rfl) rfl
set_option maxRecDepth 100000 in
theorem k_144 : (Jvm.Cond.laysFinal "WalkRanks$Spread" "WalkRanks$Spread" "factors" "[[J") ∈ aw_WS := aw_in (List.mem_of_getElem? (i := 167) rfl) rfl
set_option maxRecDepth 100000 in
theorem k_145 : (Jvm.Cond.soleField "WalkRanks$Spread" "factors") ∈ aw_WS := aw_in (List.mem_of_getElem? (i := 168) rfl) rfl
set_option maxRecDepth 100000 in
theorem k_146 : (Jvm.Cond.superclass "WalkRanks$Spread" "java/lang/Object") ∈ aw_WS := aw_in (List.mem_of_getElem? (i := 169) rfl) rfl
set_option maxRecDepth 100000 in
theorem k_147 : (Jvm.Cond.fieldLink "WalkRanks" (10 : Nat) "WalkRanks" "graph" "LWalkRanks$Graph;") ∈ aw_WS := aw_in (List.mem_of_getElem? (i := 170) rfl) rfl
set_option maxRecDepth 100000 in
theorem k_148 : (Jvm.Cond.fieldLink "WalkRanks" (19 : Nat) "WalkRanks" "steps" "LWalkRanks$Steps;") ∈ aw_WS := aw_in (List.mem_of_getElem? (i := 171) rfl) rfl
set_option maxRecDepth 100000 in
theorem k_149 : (Jvm.Cond.fieldLink "WalkRanks" (26 : Nat) "WalkRanks" "sets" "LWalkRanks$ClosedSets;") ∈ aw_WS := aw_in (List.mem_of_getElem? (i := 172) rfl) rfl
set_option maxRecDepth 100000 in
theorem k_150 : (Jvm.Cond.fieldLink "WalkRanks" (33 : Nat) "WalkRanks" "equations" "LWalkRanks$Equations;") ∈ aw_WS := aw_in (List.mem_of_getElem? (i := 173) rfl) rfl
set_option maxRecDepth 100000 in
theorem k_151 : (Jvm.Cond.fieldLink "WalkRanks" (40 : Nat) "WalkRanks" "spread" "LWalkRanks$Spread;") ∈ aw_WS := aw_in (List.mem_of_getElem? (i := 174) rfl) rfl
set_option maxRecDepth 100000 in
theorem k_152 : (Jvm.Cond.fieldLink "WalkRanks" (44 : Nat) "WalkRanks" "shares" "[J") ∈ aw_WS := aw_in (List.mem_of_getElem? (i := 175) rfl) rfl
set_option maxRecDepth 100000 in
theorem k_153 : (Jvm.Cond.laysFinal "WalkRanks" "WalkRanks" "graph" "LWalkRanks$Graph;") ∈ aw_WS := aw_in (List.mem_of_getElem? (i := 176) rfl) rfl
set_option maxRecDepth 100000 in
theorem k_154 : (Jvm.Cond.soleField "WalkRanks" "graph") ∈ aw_WS := aw_in (List.mem_of_getElem? (i := 177) rfl) rfl
set_option maxRecDepth 100000 in
theorem k_155 : (Jvm.Cond.laysFinal "WalkRanks" "WalkRanks" "steps" "LWalkRanks$Steps;") ∈ aw_WS := aw_in (List.mem_of_getElem? (i := 178) rfl) rfl
set_option maxRecDepth 100000 in
theorem k_156 : (Jvm.Cond.soleField "WalkRanks" "steps") ∈ aw_WS := aw_in (List.mem_of_getElem? (i := 179) rfl) rfl
set_option maxRecDepth 100000 in
theorem k_157 : (Jvm.Cond.laysFinal "WalkRanks" "WalkRanks" "sets" "LWalkRanks$ClosedSets;") ∈ aw_WS := aw_in (List.mem_of_getElem? (i := 180) rfl) rfl
set_option maxRecDepth 100000 in
theorem k_158 : (Jvm.Cond.soleField "WalkRanks" "sets") ∈ aw_WS := aw_in (List.mem_of_getElem? (i := 181) rfl) rfl
set_option maxRecDepth 100000 in
theorem k_159 : (Jvm.Cond.laysFinal "WalkRanks" "WalkRanks" "equations" "LWalkRanks$Equations;") ∈ aw_WS := aw_in (List.mem_of_getElem? (i := 182) rfl) rfl
set_option maxRecDepth 100000 in
theorem k_160 : (Jvm.Cond.soleField "WalkRanks" "equations") ∈ aw_WS := aw_in (List.mem_of_getElem? (i := 183) rfl) rfl
set_option maxRecDepth 100000 in
theorem k_161 : (Jvm.Cond.laysFinal "WalkRanks" "WalkRanks" "spread" "LWalkRanks$Spread;") ∈ aw_WS := aw_in (List.mem_of_getElem? (i := 184) rfl) rfl
set_option maxRecDepth 100000 in
theorem k_162 : (Jvm.Cond.soleField "WalkRanks" "spread") ∈ aw_WS := aw_in (List.mem_of_getElem? (i := 185) rfl) rfl
set_option maxRecDepth 100000 in
theorem k_163 : (Jvm.Cond.laysFinal "WalkRanks" "WalkRanks" "shares" "[J") ∈ aw_WS := aw_in (List.mem_of_getElem? (i := 186) rfl) rfl
set_option maxRecDepth 100000 in
theorem k_164 : (Jvm.Cond.soleField "WalkRanks" "shares") ∈ aw_WS := aw_in (List.mem_of_getElem? (i := 187) rfl) rfl
set_option maxRecDepth 100000 in
theorem k_165 : (Jvm.Cond.superclass "WalkRanks" "java/lang/Object") ∈ aw_WS := aw_in (List.mem_of_getElem? (i := 188) rfl) rfl
set_option maxRecDepth 100000 in
theorem k_166 : (Jvm.Cond.methodLink "WalkRanksLaw" (13 : Nat) ({ cls := "WalkRanks", name := "node", desc := "()I" } : Jvm.MethodName)) ∈ aw_WS := aw_in (List.mem_of_getElem? (i := 189) rfl) rfl
set_option maxRecDepth 100000 in
theorem k_167 : (Jvm.Cond.instanceMethod ({ cls := "WalkRanks", name := "node", desc := "()I" } : Jvm.MethodName)) ∈ aw_WS := aw_in (List.mem_of_getElem? (i := 190) rfl) rfl
set_option maxRecDepth 100000 in
theorem k_168 : (Jvm.Cond.selects "WalkRanks" ({ cls := "WalkRanks", name := "node", desc := "()I" } : Jvm.MethodName) ({ cls := "WalkRanks", name := "node", desc := "()I" } : Jvm.MethodName)) ∈ aw_WS := aw_in (List.mem_of_getElem? (i := 191) rfl) rfl
set_option maxRecDepth 100000 in
theorem k_169 : (Jvm.Cond.code ({ cls := "WalkRanks", name := "node", desc := "()I" } : Jvm.MethodName) prog_1_method_2_code (2 : Nat) (Option.some Jvm.ClassFile.FieldType.int)) ∈ aw_WS := aw_in (List.mem_of_getElem? (i := 192) rfl) rfl
set_option maxRecDepth 100000 in
theorem k_170 : (Jvm.Cond.methodLink "WalkRanks" (52 : Nat) ({ cls := "WalkRanks$Graph", name := "addNode", desc := "()I" } : Jvm.MethodName)) ∈ aw_WS := aw_in (List.mem_of_getElem? (i := 193) rfl) rfl
set_option maxRecDepth 100000 in
theorem k_171 : (Jvm.Cond.instanceMethod ({ cls := "WalkRanks$Graph", name := "addNode", desc := "()I" } : Jvm.MethodName)) ∈ aw_WS := aw_in (List.mem_of_getElem? (i := 194) rfl) rfl
set_option maxRecDepth 100000 in
theorem k_172 : (Jvm.Cond.selects "WalkRanks$Graph" ({ cls := "WalkRanks$Graph", name := "addNode", desc := "()I" } : Jvm.MethodName) ({ cls := "WalkRanks$Graph", name := "addNode", desc := "()I" } : Jvm.MethodName)) ∈ aw_WS := aw_in (List.mem_of_getElem? (i := 195) rfl) rfl
set_option maxRecDepth 100000 in
theorem k_173 : (Jvm.Cond.code ({ cls := "WalkRanks$Graph", name := "addNode", desc := "()I" } : Jvm.MethodName) prog_4_method_2_code (3 : Nat) (Option.some Jvm.ClassFile.FieldType.int)) ∈ aw_WS := aw_in (List.mem_of_getElem? (i := 196) rfl) rfl
set_option maxRecDepth 100000 in
theorem k_174 : (Jvm.Cond.methodLink "WalkRanks" (56 : Nat) ({ cls := "WalkRanks", name := "renew", desc := "()V" } : Jvm.MethodName)) ∈ aw_WS := aw_in (List.mem_of_getElem? (i := 197) rfl) rfl
set_option maxRecDepth 100000 in
theorem k_176 : (Jvm.Cond.instanceMethod ({ cls := "WalkRanks", name := "renew", desc := "()V" } : Jvm.MethodName)) ∈ aw_WS := aw_in (List.mem_of_getElem? (i := 199) rfl) rfl
set_option maxRecDepth 100000 in
theorem k_177 : (Jvm.Cond.code ({ cls := "WalkRanks", name := "renew", desc := "()V" } : Jvm.MethodName) prog_1_method_24_code (1 : Nat) (Option.none : Option Jvm.ClassFile.FieldType)) ∈ aw_WS := aw_in (List.mem_of_getElem? (i := 200) rfl) rfl
set_option maxRecDepth 100000 in
theorem k_178 : (Jvm.Cond.methodLink "WalkRanks" (171 : Nat) ({ cls := "WalkRanks$Steps", name := "renew", desc := "(LWalkRanks$Graph;)V" } : Jvm.MethodName)) ∈ aw_WS := aw_in (List.mem_of_getElem? (i := 201) rfl) rfl
set_option maxRecDepth 100000 in
theorem k_179 : (Jvm.Cond.instanceMethod ({ cls := "WalkRanks$Steps", name := "renew", desc := "(LWalkRanks$Graph;)V" } : Jvm.MethodName)) ∈ aw_WS := aw_in (List.mem_of_getElem? (i := 202) rfl) rfl
set_option maxRecDepth 100000 in
theorem k_180 : (Jvm.Cond.selects "WalkRanks$Steps" ({ cls := "WalkRanks$Steps", name := "renew", desc := "(LWalkRanks$Graph;)V" } : Jvm.MethodName) ({ cls := "WalkRanks$Steps", name := "renew", desc := "(LWalkRanks$Graph;)V" } : Jvm.MethodName)) ∈ aw_WS := aw_in (List.mem_of_getElem? (i := 203) rfl) rfl
set_option maxRecDepth 100000 in
theorem k_181 : (Jvm.Cond.code ({ cls := "WalkRanks$Steps", name := "renew", desc := "(LWalkRanks$Graph;)V" } : Jvm.MethodName) prog_6_method_2_code (4 : Nat) (Option.none : Option Jvm.ClassFile.FieldType)) ∈ aw_WS := aw_in (List.mem_of_getElem? (i := 204) rfl) rfl
set_option maxRecDepth 100000 in
theorem k_182 : (Jvm.Cond.methodLink "WalkRanks$Steps" (30 : Nat) ({ cls := "WalkRanks$Graph", name := "allJumps", desc := "()I" } : Jvm.MethodName)) ∈ aw_WS := aw_in (List.mem_of_getElem? (i := 205) rfl) rfl
set_option maxRecDepth 100000 in
theorem k_183 : (Jvm.Cond.instanceMethod ({ cls := "WalkRanks$Graph", name := "allJumps", desc := "()I" } : Jvm.MethodName)) ∈ aw_WS := aw_in (List.mem_of_getElem? (i := 206) rfl) rfl
set_option maxRecDepth 100000 in
theorem k_184 : (Jvm.Cond.selects "WalkRanks$Graph" ({ cls := "WalkRanks$Graph", name := "allJumps", desc := "()I" } : Jvm.MethodName) ({ cls := "WalkRanks$Graph", name := "allJumps", desc := "()I" } : Jvm.MethodName)) ∈ aw_WS := aw_in (List.mem_of_getElem? (i := 207) rfl) rfl
set_option maxRecDepth 100000 in
theorem k_185 : (Jvm.Cond.code ({ cls := "WalkRanks$Graph", name := "allJumps", desc := "()I" } : Jvm.MethodName) prog_4_method_4_code (3 : Nat) (Option.some Jvm.ClassFile.FieldType.int)) ∈ aw_WS := aw_in (List.mem_of_getElem? (i := 208) rfl) rfl
set_option maxRecDepth 100000 in
theorem k_186 : (Jvm.Cond.methodLink "WalkRanks$Steps" (34 : Nat) ({ cls := "WalkRanks$Steps", name := "fillParts", desc := "(LWalkRanks$Graph;II)V" } : Jvm.MethodName)) ∈ aw_WS := aw_in (List.mem_of_getElem? (i := 209) rfl) rfl
set_option maxRecDepth 100000 in
theorem k_188 : (Jvm.Cond.instanceMethod ({ cls := "WalkRanks$Steps", name := "fillParts", desc := "(LWalkRanks$Graph;II)V" } : Jvm.MethodName)) ∈ aw_WS := aw_in (List.mem_of_getElem? (i := 211) rfl) rfl
set_option maxRecDepth 100000 in
theorem k_189 : (Jvm.Cond.code ({ cls := "WalkRanks$Steps", name := "fillParts", desc := "(LWalkRanks$Graph;II)V" } : Jvm.MethodName) prog_6_method_3_code (8 : Nat) (Option.none : Option Jvm.ClassFile.FieldType)) ∈ aw_WS := aw_in (List.mem_of_getElem? (i := 212) rfl) rfl
set_option maxRecDepth 100000 in
theorem k_190 : (Jvm.Cond.methodLink "WalkRanks$Steps" (45 : Nat) ({ cls := "WalkRanks$Graph", name := "outOf", desc := "(I)I" } : Jvm.MethodName)) ∈ aw_WS := aw_in (List.mem_of_getElem? (i := 213) rfl) rfl
set_option maxRecDepth 100000 in
theorem k_191 : (Jvm.Cond.instanceMethod ({ cls := "WalkRanks$Graph", name := "outOf", desc := "(I)I" } : Jvm.MethodName)) ∈ aw_WS := aw_in (List.mem_of_getElem? (i := 214) rfl) rfl
set_option maxRecDepth 100000 in
theorem k_192 : (Jvm.Cond.selects "WalkRanks$Graph" ({ cls := "WalkRanks$Graph", name := "outOf", desc := "(I)I" } : Jvm.MethodName) ({ cls := "WalkRanks$Graph", name := "outOf", desc := "(I)I" } : Jvm.MethodName)) ∈ aw_WS := aw_in (List.mem_of_getElem? (i := 215) rfl) rfl
set_option maxRecDepth 100000 in
theorem k_193 : (Jvm.Cond.code ({ cls := "WalkRanks$Graph", name := "outOf", desc := "(I)I" } : Jvm.MethodName) prog_4_method_3_code (4 : Nat) (Option.some Jvm.ClassFile.FieldType.int)) ∈ aw_WS := aw_in (List.mem_of_getElem? (i := 216) rfl) rfl
set_option maxRecDepth 100000 in
theorem k_194 : (Jvm.Cond.methodLink "WalkRanks$Steps" (38 : Nat) ({ cls := "WalkRanks$Steps", name := "lowerParts", desc := "(I)V" } : Jvm.MethodName)) ∈ aw_WS := aw_in (List.mem_of_getElem? (i := 217) rfl) rfl
set_option maxRecDepth 100000 in
theorem k_196 : (Jvm.Cond.instanceMethod ({ cls := "WalkRanks$Steps", name := "lowerParts", desc := "(I)V" } : Jvm.MethodName)) ∈ aw_WS := aw_in (List.mem_of_getElem? (i := 219) rfl) rfl
set_option maxRecDepth 100000 in
theorem k_197 : (Jvm.Cond.code ({ cls := "WalkRanks$Steps", name := "lowerParts", desc := "(I)V" } : Jvm.MethodName) prog_6_method_4_code (4 : Nat) (Option.none : Option Jvm.ClassFile.FieldType)) ∈ aw_WS := aw_in (List.mem_of_getElem? (i := 220) rfl) rfl
set_option maxRecDepth 100000 in
theorem k_198 : (Jvm.Cond.methodLinkNest "WalkRanks$Steps" (61 : Nat) ({ cls := "WalkRanks", name := "greatestDivisor", desc := "(JJ)J" } : Jvm.MethodName) "WalkRanks") ∈ aw_NW := aw_inN (List.mem_of_getElem? (i := 221) rfl) rfl
set_option maxRecDepth 100000 in
theorem k_199 : (Jvm.Cond.static ({ cls := "WalkRanks", name := "greatestDivisor", desc := "(JJ)J" } : Jvm.MethodName)) ∈ aw_WS := aw_in (List.mem_of_getElem? (i := 222) rfl) rfl
set_option maxRecDepth 100000 in
theorem k_200 : (Jvm.Cond.code ({ cls := "WalkRanks", name := "greatestDivisor", desc := "(JJ)J" } : Jvm.MethodName) prog_1_method_29_code (11 : Nat) (Option.some Jvm.ClassFile.FieldType.long)) ∈ aw_WS := aw_in (List.mem_of_getElem? (i := 223) rfl) rfl
set_option maxRecDepth 100000 in
theorem k_201 : (Jvm.Cond.methodLink "WalkRanks$Steps" (42 : Nat) ({ cls := "WalkRanks$Steps", name := "sumUp", desc := "(I)V" } : Jvm.MethodName)) ∈ aw_WS := aw_in (List.mem_of_getElem? (i := 224) rfl) rfl
set_option maxRecDepth 100000 in
theorem k_203 : (Jvm.Cond.instanceMethod ({ cls := "WalkRanks$Steps", name := "sumUp", desc := "(I)V" } : Jvm.MethodName)) ∈ aw_WS := aw_in (List.mem_of_getElem? (i := 226) rfl) rfl
set_option maxRecDepth 100000 in
theorem k_204 : (Jvm.Cond.code ({ cls := "WalkRanks$Steps", name := "sumUp", desc := "(I)V" } : Jvm.MethodName) prog_6_method_5_code (3 : Nat) (Option.none : Option Jvm.ClassFile.FieldType)) ∈ aw_WS := aw_in (List.mem_of_getElem? (i := 227) rfl) rfl
set_option maxRecDepth 100000 in
theorem k_205 : (Jvm.Cond.methodLinkNest "WalkRanks$Steps" (65 : Nat) ({ cls := "WalkRanks", name := "only", desc := "(I)I" } : Jvm.MethodName) "WalkRanks") ∈ aw_NW := aw_inN (List.mem_of_getElem? (i := 228) rfl) rfl
set_option maxRecDepth 100000 in
theorem k_206 : (Jvm.Cond.static ({ cls := "WalkRanks", name := "only", desc := "(I)I" } : Jvm.MethodName)) ∈ aw_WS := aw_in (List.mem_of_getElem? (i := 229) rfl) rfl
set_option maxRecDepth 100000 in
theorem k_207 : (Jvm.Cond.code ({ cls := "WalkRanks", name := "only", desc := "(I)I" } : Jvm.MethodName) prog_1_method_30_code (1 : Nat) (Option.some Jvm.ClassFile.FieldType.int)) ∈ aw_WS := aw_in (List.mem_of_getElem? (i := 230) rfl) rfl
set_option maxRecDepth 100000 in
theorem k_208 : (Jvm.Cond.methodLink "WalkRanks" (173 : Nat) ({ cls := "WalkRanks$ClosedSets", name := "renew", desc := "(LWalkRanks$Steps;)V" } : Jvm.MethodName)) ∈ aw_WS := aw_in (List.mem_of_getElem? (i := 231) rfl) rfl
set_option maxRecDepth 100000 in
theorem k_209 : (Jvm.Cond.instanceMethod ({ cls := "WalkRanks$ClosedSets", name := "renew", desc := "(LWalkRanks$Steps;)V" } : Jvm.MethodName)) ∈ aw_WS := aw_in (List.mem_of_getElem? (i := 232) rfl) rfl
set_option maxRecDepth 100000 in
theorem k_210 : (Jvm.Cond.selects "WalkRanks$ClosedSets" ({ cls := "WalkRanks$ClosedSets", name := "renew", desc := "(LWalkRanks$Steps;)V" } : Jvm.MethodName) ({ cls := "WalkRanks$ClosedSets", name := "renew", desc := "(LWalkRanks$Steps;)V" } : Jvm.MethodName)) ∈ aw_WS := aw_in (List.mem_of_getElem? (i := 233) rfl) rfl
set_option maxRecDepth 100000 in
theorem k_211 : (Jvm.Cond.code ({ cls := "WalkRanks$ClosedSets", name := "renew", desc := "(LWalkRanks$Steps;)V" } : Jvm.MethodName) prog_2_method_2_code (3 : Nat) (Option.none : Option Jvm.ClassFile.FieldType)) ∈ aw_WS := aw_in (List.mem_of_getElem? (i := 234) rfl) rfl
set_option maxRecDepth 100000 in
theorem k_212 : (Jvm.Cond.methodLink "WalkRanks$ClosedSets" (34 : Nat) ({ cls := "WalkRanks$Steps", name := "nodesBehind", desc := "(II)I" } : Jvm.MethodName)) ∈ aw_WS := aw_in (List.mem_of_getElem? (i := 235) rfl) rfl
set_option maxRecDepth 100000 in
theorem k_213 : (Jvm.Cond.instanceMethod ({ cls := "WalkRanks$Steps", name := "nodesBehind", desc := "(II)I" } : Jvm.MethodName)) ∈ aw_WS := aw_in (List.mem_of_getElem? (i := 236) rfl) rfl
set_option maxRecDepth 100000 in
theorem k_214 : (Jvm.Cond.selects "WalkRanks$Steps" ({ cls := "WalkRanks$Steps", name := "nodesBehind", desc := "(II)I" } : Jvm.MethodName) ({ cls := "WalkRanks$Steps", name := "nodesBehind", desc := "(II)I" } : Jvm.MethodName)) ∈ aw_WS := aw_in (List.mem_of_getElem? (i := 237) rfl) rfl
set_option maxRecDepth 100000 in
theorem k_215 : (Jvm.Cond.code ({ cls := "WalkRanks$Steps", name := "nodesBehind", desc := "(II)I" } : Jvm.MethodName) prog_6_method_8_code (5 : Nat) (Option.some Jvm.ClassFile.FieldType.int)) ∈ aw_WS := aw_in (List.mem_of_getElem? (i := 238) rfl) rfl
set_option maxRecDepth 100000 in
theorem k_216 : (Jvm.Cond.methodLink "WalkRanks$Steps" (72 : Nat) ({ cls := "WalkRanks$Steps", name := "nextOf", desc := "(I)I" } : Jvm.MethodName)) ∈ aw_WS := aw_in (List.mem_of_getElem? (i := 239) rfl) rfl
set_option maxRecDepth 100000 in
theorem k_218 : (Jvm.Cond.instanceMethod ({ cls := "WalkRanks$Steps", name := "nextOf", desc := "(I)I" } : Jvm.MethodName)) ∈ aw_WS := aw_in (List.mem_of_getElem? (i := 241) rfl) rfl
set_option maxRecDepth 100000 in
theorem k_219 : (Jvm.Cond.code ({ cls := "WalkRanks$Steps", name := "nextOf", desc := "(I)I" } : Jvm.MethodName) prog_6_method_7_code (4 : Nat) (Option.some Jvm.ClassFile.FieldType.int)) ∈ aw_WS := aw_in (List.mem_of_getElem? (i := 242) rfl) rfl
set_option maxRecDepth 100000 in
theorem k_220 : (Jvm.Cond.methodLinkNest "WalkRanks$Steps" (68 : Nat) ({ cls := "WalkRanks", name := "has", desc := "(II)Z" } : Jvm.MethodName) "WalkRanks") ∈ aw_NW := aw_inN (List.mem_of_getElem? (i := 243) rfl) rfl
set_option maxRecDepth 100000 in
theorem k_221 : (Jvm.Cond.static ({ cls := "WalkRanks", name := "has", desc := "(II)Z" } : Jvm.MethodName)) ∈ aw_WS := aw_in (List.mem_of_getElem? (i := 244) rfl) rfl
set_option maxRecDepth 100000 in
theorem k_222 : (Jvm.Cond.code ({ cls := "WalkRanks", name := "has", desc := "(II)Z" } : Jvm.MethodName) prog_1_method_31_code (2 : Nat) (Option.some Jvm.ClassFile.FieldType.boolean)) ∈ aw_WS := aw_in (List.mem_of_getElem? (i := 245) rfl) rfl
set_option maxRecDepth 100000 in
theorem k_223 : (Jvm.Cond.methodLink "WalkRanks" (122 : Nat) ({ cls := "WalkRanks", name := "only", desc := "(I)I" } : Jvm.MethodName)) ∈ aw_WS := aw_in (List.mem_of_getElem? (i := 246) rfl) rfl
set_option maxRecDepth 100000 in
theorem k_224 : (Jvm.Cond.methodLink "WalkRanks$ClosedSets" (38 : Nat) ({ cls := "WalkRanks$ClosedSets", name := "isClosedFrom", desc := "(I)Z" } : Jvm.MethodName)) ∈ aw_WS := aw_in (List.mem_of_getElem? (i := 247) rfl) rfl
set_option maxRecDepth 100000 in
theorem k_226 : (Jvm.Cond.instanceMethod ({ cls := "WalkRanks$ClosedSets", name := "isClosedFrom", desc := "(I)Z" } : Jvm.MethodName)) ∈ aw_WS := aw_in (List.mem_of_getElem? (i := 249) rfl) rfl
set_option maxRecDepth 100000 in
theorem k_227 : (Jvm.Cond.code ({ cls := "WalkRanks$ClosedSets", name := "isClosedFrom", desc := "(I)Z" } : Jvm.MethodName) prog_2_method_3_code (2 : Nat) (Option.some Jvm.ClassFile.FieldType.boolean)) ∈ aw_WS := aw_in (List.mem_of_getElem? (i := 250) rfl) rfl
set_option maxRecDepth 100000 in
theorem k_228 : (Jvm.Cond.methodLinkNest "WalkRanks$ClosedSets" (46 : Nat) ({ cls := "WalkRanks", name := "only", desc := "(I)I" } : Jvm.MethodName) "WalkRanks") ∈ aw_NW := aw_inN (List.mem_of_getElem? (i := 251) rfl) rfl
set_option maxRecDepth 100000 in
theorem k_229 : (Jvm.Cond.methodLink "WalkRanks$ClosedSets" (50 : Nat) ({ cls := "WalkRanks$ClosedSets", name := "leadingTo", desc := "(I)I" } : Jvm.MethodName)) ∈ aw_WS := aw_in (List.mem_of_getElem? (i := 252) rfl) rfl
set_option maxRecDepth 100000 in
theorem k_230 : (Jvm.Cond.instanceMethod ({ cls := "WalkRanks$ClosedSets", name := "leadingTo", desc := "(I)I" } : Jvm.MethodName)) ∈ aw_WS := aw_in (List.mem_of_getElem? (i := 253) rfl) rfl
set_option maxRecDepth 100000 in
theorem k_231 : (Jvm.Cond.selects "WalkRanks$ClosedSets" ({ cls := "WalkRanks$ClosedSets", name := "leadingTo", desc := "(I)I" } : Jvm.MethodName) ({ cls := "WalkRanks$ClosedSets", name := "leadingTo", desc := "(I)I" } : Jvm.MethodName)) ∈ aw_WS := aw_in (List.mem_of_getElem? (i := 254) rfl) rfl
set_option maxRecDepth 100000 in
theorem k_232 : (Jvm.Cond.code ({ cls := "WalkRanks$ClosedSets", name := "leadingTo", desc := "(I)I" } : Jvm.MethodName) prog_2_method_5_code (4 : Nat) (Option.some Jvm.ClassFile.FieldType.int)) ∈ aw_WS := aw_in (List.mem_of_getElem? (i := 255) rfl) rfl
set_option maxRecDepth 100000 in
theorem k_233 : (Jvm.Cond.methodLink "WalkRanks$ClosedSets" (42 : Nat) ({ cls := "WalkRanks$ClosedSets", name := "addSet", desc := "(I)V" } : Jvm.MethodName)) ∈ aw_WS := aw_in (List.mem_of_getElem? (i := 256) rfl) rfl
set_option maxRecDepth 100000 in
theorem k_235 : (Jvm.Cond.instanceMethod ({ cls := "WalkRanks$ClosedSets", name := "addSet", desc := "(I)V" } : Jvm.MethodName)) ∈ aw_WS := aw_in (List.mem_of_getElem? (i := 258) rfl) rfl
set_option maxRecDepth 100000 in
theorem k_236 : (Jvm.Cond.code ({ cls := "WalkRanks$ClosedSets", name := "addSet", desc := "(I)V" } : Jvm.MethodName) prog_2_method_4_code (3 : Nat) (Option.none : Option Jvm.ClassFile.FieldType)) ∈ aw_WS := aw_in (List.mem_of_getElem? (i := 259) rfl) rfl
set_option maxRecDepth 100000 in
theorem k_237 : (Jvm.Cond.methodLinkNest "WalkRanks$ClosedSets" (53 : Nat) ({ cls := "WalkRanks", name := "has", desc := "(II)Z" } : Jvm.MethodName) "WalkRanks") ∈ aw_NW := aw_inN (List.mem_of_getElem? (i := 260) rfl) rfl
set_option maxRecDepth 100000 in
theorem k_238 : (Jvm.Cond.methodLink "WalkRanksLaw" (18 : Nat) ({ cls := "WalkRanks", name := "weight", desc := "(III)I" } : Jvm.MethodName)) ∈ aw_WS := aw_in (List.mem_of_getElem? (i := 261) rfl) rfl
set_option maxRecDepth 100000 in
theorem k_239 : (Jvm.Cond.instanceMethod ({ cls := "WalkRanks", name := "weight", desc := "(III)I" } : Jvm.MethodName)) ∈ aw_WS := aw_in (List.mem_of_getElem? (i := 262) rfl) rfl
set_option maxRecDepth 100000 in
theorem k_240 : (Jvm.Cond.selects "WalkRanks" ({ cls := "WalkRanks", name := "weight", desc := "(III)I" } : Jvm.MethodName) ({ cls := "WalkRanks", name := "weight", desc := "(III)I" } : Jvm.MethodName)) ∈ aw_WS := aw_in (List.mem_of_getElem? (i := 263) rfl) rfl
set_option maxRecDepth 100000 in
theorem k_241 : (Jvm.Cond.code ({ cls := "WalkRanks", name := "weight", desc := "(III)I" } : Jvm.MethodName) prog_1_method_3_code (5 : Nat) (Option.some Jvm.ClassFile.FieldType.int)) ∈ aw_WS := aw_in (List.mem_of_getElem? (i := 264) rfl) rfl
set_option maxRecDepth 100000 in
theorem k_242 : (Jvm.Cond.methodLink "WalkRanks" (59 : Nat) ({ cls := "WalkRanks", name := "isNode", desc := "(I)Z" } : Jvm.MethodName)) ∈ aw_WS := aw_in (List.mem_of_getElem? (i := 265) rfl) rfl
set_option maxRecDepth 100000 in
theorem k_244 : (Jvm.Cond.instanceMethod ({ cls := "WalkRanks", name := "isNode", desc := "(I)Z" } : Jvm.MethodName)) ∈ aw_WS := aw_in (List.mem_of_getElem? (i := 267) rfl) rfl
set_option maxRecDepth 100000 in
theorem k_245 : (Jvm.Cond.code ({ cls := "WalkRanks", name := "isNode", desc := "(I)Z" } : Jvm.MethodName) prog_1_method_21_code (2 : Nat) (Option.some Jvm.ClassFile.FieldType.boolean)) ∈ aw_WS := aw_in (List.mem_of_getElem? (i := 268) rfl) rfl
set_option maxRecDepth 100000 in
theorem k_246 : (Jvm.Cond.methodLink "WalkRanksLaw" (23 : Nat) ({ cls := "WalkRanks", name := "jump", desc := "(II)I" } : Jvm.MethodName)) ∈ aw_WS := aw_in (List.mem_of_getElem? (i := 269) rfl) rfl
set_option maxRecDepth 100000 in
theorem k_247 : (Jvm.Cond.instanceMethod ({ cls := "WalkRanks", name := "jump", desc := "(II)I" } : Jvm.MethodName)) ∈ aw_WS := aw_in (List.mem_of_getElem? (i := 270) rfl) rfl
set_option maxRecDepth 100000 in
theorem k_248 : (Jvm.Cond.selects "WalkRanks" ({ cls := "WalkRanks", name := "jump", desc := "(II)I" } : Jvm.MethodName) ({ cls := "WalkRanks", name := "jump", desc := "(II)I" } : Jvm.MethodName)) ∈ aw_WS := aw_in (List.mem_of_getElem? (i := 271) rfl) rfl
set_option maxRecDepth 100000 in
theorem k_249 : (Jvm.Cond.code ({ cls := "WalkRanks", name := "jump", desc := "(II)I" } : Jvm.MethodName) prog_1_method_4_code (4 : Nat) (Option.some Jvm.ClassFile.FieldType.int)) ∈ aw_WS := aw_in (List.mem_of_getElem? (i := 272) rfl) rfl
set_option maxRecDepth 100000 in
theorem k_250 : (Jvm.Cond.methodLink "WalkRanksLaw" (28 : Nat) ({ cls := "WalkRanks", name := "keep", desc := "(II)I" } : Jvm.MethodName)) ∈ aw_WS := aw_in (List.mem_of_getElem? (i := 273) rfl) rfl
set_option maxRecDepth 100000 in
theorem k_251 : (Jvm.Cond.instanceMethod ({ cls := "WalkRanks", name := "keep", desc := "(II)I" } : Jvm.MethodName)) ∈ aw_WS := aw_in (List.mem_of_getElem? (i := 274) rfl) rfl
set_option maxRecDepth 100000 in
theorem k_252 : (Jvm.Cond.selects "WalkRanks" ({ cls := "WalkRanks", name := "keep", desc := "(II)I" } : Jvm.MethodName) ({ cls := "WalkRanks", name := "keep", desc := "(II)I" } : Jvm.MethodName)) ∈ aw_WS := aw_in (List.mem_of_getElem? (i := 275) rfl) rfl
set_option maxRecDepth 100000 in
theorem k_253 : (Jvm.Cond.code ({ cls := "WalkRanks", name := "keep", desc := "(II)I" } : Jvm.MethodName) prog_1_method_5_code (3 : Nat) (Option.some Jvm.ClassFile.FieldType.int)) ∈ aw_WS := aw_in (List.mem_of_getElem? (i := 276) rfl) rfl
set_option maxRecDepth 100000 in
theorem k_254 : (Jvm.Cond.methodLink "WalkRanksLaw" (32 : Nat) ({ cls := "WalkRanks", name := "clear", desc := "()I" } : Jvm.MethodName)) ∈ aw_WS := aw_in (List.mem_of_getElem? (i := 277) rfl) rfl
set_option maxRecDepth 100000 in
theorem k_255 : (Jvm.Cond.instanceMethod ({ cls := "WalkRanks", name := "clear", desc := "()I" } : Jvm.MethodName)) ∈ aw_WS := aw_in (List.mem_of_getElem? (i := 278) rfl) rfl
set_option maxRecDepth 100000 in
theorem k_256 : (Jvm.Cond.selects "WalkRanks" ({ cls := "WalkRanks", name := "clear", desc := "()I" } : Jvm.MethodName) ({ cls := "WalkRanks", name := "clear", desc := "()I" } : Jvm.MethodName)) ∈ aw_WS := aw_in (List.mem_of_getElem? (i := 279) rfl) rfl
set_option maxRecDepth 100000 in
theorem k_257 : (Jvm.Cond.code ({ cls := "WalkRanks", name := "clear", desc := "()I" } : Jvm.MethodName) prog_1_method_6_code (2 : Nat) (Option.some Jvm.ClassFile.FieldType.int)) ∈ aw_WS := aw_in (List.mem_of_getElem? (i := 280) rfl) rfl
set_option maxRecDepth 100000 in
theorem k_258 : (Jvm.Cond.methodLink "WalkRanksLaw" (36 : Nat) ({ cls := "WalkRanks", name := "row", desc := "(II)I" } : Jvm.MethodName)) ∈ aw_WS := aw_in (List.mem_of_getElem? (i := 281) rfl) rfl
set_option maxRecDepth 100000 in
theorem k_259 : (Jvm.Cond.instanceMethod ({ cls := "WalkRanks", name := "row", desc := "(II)I" } : Jvm.MethodName)) ∈ aw_WS := aw_in (List.mem_of_getElem? (i := 282) rfl) rfl
set_option maxRecDepth 100000 in
theorem k_260 : (Jvm.Cond.selects "WalkRanks" ({ cls := "WalkRanks", name := "row", desc := "(II)I" } : Jvm.MethodName) ({ cls := "WalkRanks", name := "row", desc := "(II)I" } : Jvm.MethodName)) ∈ aw_WS := aw_in (List.mem_of_getElem? (i := 283) rfl) rfl
set_option maxRecDepth 100000 in
theorem k_261 : (Jvm.Cond.code ({ cls := "WalkRanks", name := "row", desc := "(II)I" } : Jvm.MethodName) prog_1_method_7_code (3 : Nat) (Option.some Jvm.ClassFile.FieldType.int)) ∈ aw_WS := aw_in (List.mem_of_getElem? (i := 284) rfl) rfl
set_option maxRecDepth 100000 in
theorem k_262 : (Jvm.Cond.methodLink "WalkRanksLaw" (40 : Nat) ({ cls := "WalkRanks", name := "total", desc := "(I)I" } : Jvm.MethodName)) ∈ aw_WS := aw_in (List.mem_of_getElem? (i := 285) rfl) rfl
set_option maxRecDepth 100000 in
theorem k_263 : (Jvm.Cond.instanceMethod ({ cls := "WalkRanks", name := "total", desc := "(I)I" } : Jvm.MethodName)) ∈ aw_WS := aw_in (List.mem_of_getElem? (i := 286) rfl) rfl
set_option maxRecDepth 100000 in
theorem k_264 : (Jvm.Cond.selects "WalkRanks" ({ cls := "WalkRanks", name := "total", desc := "(I)I" } : Jvm.MethodName) ({ cls := "WalkRanks", name := "total", desc := "(I)I" } : Jvm.MethodName)) ∈ aw_WS := aw_in (List.mem_of_getElem? (i := 287) rfl) rfl
set_option maxRecDepth 100000 in
theorem k_265 : (Jvm.Cond.code ({ cls := "WalkRanks", name := "total", desc := "(I)I" } : Jvm.MethodName) prog_1_method_8_code (2 : Nat) (Option.some Jvm.ClassFile.FieldType.int)) ∈ aw_WS := aw_in (List.mem_of_getElem? (i := 288) rfl) rfl
set_option maxRecDepth 100000 in
theorem k_266 : (Jvm.Cond.methodLink "WalkRanksLaw" (45 : Nat) ({ cls := "WalkRanks", name := "closed", desc := "()I" } : Jvm.MethodName)) ∈ aw_WS := aw_in (List.mem_of_getElem? (i := 289) rfl) rfl
set_option maxRecDepth 100000 in
theorem k_267 : (Jvm.Cond.instanceMethod ({ cls := "WalkRanks", name := "closed", desc := "()I" } : Jvm.MethodName)) ∈ aw_WS := aw_in (List.mem_of_getElem? (i := 290) rfl) rfl
set_option maxRecDepth 100000 in
theorem k_268 : (Jvm.Cond.selects "WalkRanks" ({ cls := "WalkRanks", name := "closed", desc := "()I" } : Jvm.MethodName) ({ cls := "WalkRanks", name := "closed", desc := "()I" } : Jvm.MethodName)) ∈ aw_WS := aw_in (List.mem_of_getElem? (i := 291) rfl) rfl
set_option maxRecDepth 100000 in
theorem k_269 : (Jvm.Cond.code ({ cls := "WalkRanks", name := "closed", desc := "()I" } : Jvm.MethodName) prog_1_method_9_code (1 : Nat) (Option.some Jvm.ClassFile.FieldType.int)) ∈ aw_WS := aw_in (List.mem_of_getElem? (i := 292) rfl) rfl
set_option maxRecDepth 100000 in
theorem k_270 : (Jvm.Cond.methodLink "WalkRanksLaw" (49 : Nat) ({ cls := "WalkRanks", name := "closedOf", desc := "(I)I" } : Jvm.MethodName)) ∈ aw_WS := aw_in (List.mem_of_getElem? (i := 293) rfl) rfl
set_option maxRecDepth 100000 in
theorem k_271 : (Jvm.Cond.instanceMethod ({ cls := "WalkRanks", name := "closedOf", desc := "(I)I" } : Jvm.MethodName)) ∈ aw_WS := aw_in (List.mem_of_getElem? (i := 294) rfl) rfl
set_option maxRecDepth 100000 in
theorem k_272 : (Jvm.Cond.selects "WalkRanks" ({ cls := "WalkRanks", name := "closedOf", desc := "(I)I" } : Jvm.MethodName) ({ cls := "WalkRanks", name := "closedOf", desc := "(I)I" } : Jvm.MethodName)) ∈ aw_WS := aw_in (List.mem_of_getElem? (i := 295) rfl) rfl
set_option maxRecDepth 100000 in
theorem k_273 : (Jvm.Cond.code ({ cls := "WalkRanks", name := "closedOf", desc := "(I)I" } : Jvm.MethodName) prog_1_method_10_code (2 : Nat) (Option.some Jvm.ClassFile.FieldType.int)) ∈ aw_WS := aw_in (List.mem_of_getElem? (i := 296) rfl) rfl
set_option maxRecDepth 100000 in
theorem k_274 : (Jvm.Cond.methodLink "WalkRanksLaw" (53 : Nat) ({ cls := "WalkRanks", name := "period", desc := "(I)I" } : Jvm.MethodName)) ∈ aw_WS := aw_in (List.mem_of_getElem? (i := 297) rfl) rfl
set_option maxRecDepth 100000 in
theorem k_275 : (Jvm.Cond.instanceMethod ({ cls := "WalkRanks", name := "period", desc := "(I)I" } : Jvm.MethodName)) ∈ aw_WS := aw_in (List.mem_of_getElem? (i := 298) rfl) rfl
set_option maxRecDepth 100000 in
theorem k_276 : (Jvm.Cond.selects "WalkRanks" ({ cls := "WalkRanks", name := "period", desc := "(I)I" } : Jvm.MethodName) ({ cls := "WalkRanks", name := "period", desc := "(I)I" } : Jvm.MethodName)) ∈ aw_WS := aw_in (List.mem_of_getElem? (i := 299) rfl) rfl
set_option maxRecDepth 100000 in
theorem k_277 : (Jvm.Cond.code ({ cls := "WalkRanks", name := "period", desc := "(I)I" } : Jvm.MethodName) prog_1_method_11_code (2 : Nat) (Option.some Jvm.ClassFile.FieldType.int)) ∈ aw_WS := aw_in (List.mem_of_getElem? (i := 300) rfl) rfl
set_option maxRecDepth 100000 in
theorem k_278 : (Jvm.Cond.methodLink "WalkRanks" (89 : Nat) ({ cls := "WalkRanks", name := "isSet", desc := "(I)Z" } : Jvm.MethodName)) ∈ aw_WS := aw_in (List.mem_of_getElem? (i := 301) rfl) rfl
set_option maxRecDepth 100000 in
theorem k_280 : (Jvm.Cond.instanceMethod ({ cls := "WalkRanks", name := "isSet", desc := "(I)Z" } : Jvm.MethodName)) ∈ aw_WS := aw_in (List.mem_of_getElem? (i := 303) rfl) rfl
set_option maxRecDepth 100000 in
theorem k_281 : (Jvm.Cond.code ({ cls := "WalkRanks", name := "isSet", desc := "(I)Z" } : Jvm.MethodName) prog_1_method_22_code (2 : Nat) (Option.some Jvm.ClassFile.FieldType.boolean)) ∈ aw_WS := aw_in (List.mem_of_getElem? (i := 304) rfl) rfl
set_option maxRecDepth 100000 in
theorem k_282 : (Jvm.Cond.methodLink "WalkRanks" (95 : Nat) ({ cls := "WalkRanks$Steps", name := "periodAt", desc := "(I)I" } : Jvm.MethodName)) ∈ aw_WS := aw_in (List.mem_of_getElem? (i := 305) rfl) rfl
set_option maxRecDepth 100000 in
theorem k_283 : (Jvm.Cond.instanceMethod ({ cls := "WalkRanks$Steps", name := "periodAt", desc := "(I)I" } : Jvm.MethodName)) ∈ aw_WS := aw_in (List.mem_of_getElem? (i := 306) rfl) rfl
set_option maxRecDepth 100000 in
theorem k_284 : (Jvm.Cond.selects "WalkRanks$Steps" ({ cls := "WalkRanks$Steps", name := "periodAt", desc := "(I)I" } : Jvm.MethodName) ({ cls := "WalkRanks$Steps", name := "periodAt", desc := "(I)I" } : Jvm.MethodName)) ∈ aw_WS := aw_in (List.mem_of_getElem? (i := 307) rfl) rfl
set_option maxRecDepth 100000 in
theorem k_285 : (Jvm.Cond.code ({ cls := "WalkRanks$Steps", name := "periodAt", desc := "(I)I" } : Jvm.MethodName) prog_6_method_9_code (5 : Nat) (Option.some Jvm.ClassFile.FieldType.int)) ∈ aw_WS := aw_in (List.mem_of_getElem? (i := 308) rfl) rfl
set_option maxRecDepth 100000 in
theorem k_286 : (Jvm.Cond.methodLink "WalkRanksLaw" (57 : Nat) ({ cls := "WalkRanks", name := "rank", desc := "(II)J" } : Jvm.MethodName)) ∈ aw_WS := aw_in (List.mem_of_getElem? (i := 309) rfl) rfl
set_option maxRecDepth 100000 in
theorem k_287 : (Jvm.Cond.instanceMethod ({ cls := "WalkRanks", name := "rank", desc := "(II)J" } : Jvm.MethodName)) ∈ aw_WS := aw_in (List.mem_of_getElem? (i := 310) rfl) rfl
set_option maxRecDepth 100000 in
theorem k_288 : (Jvm.Cond.selects "WalkRanks" ({ cls := "WalkRanks", name := "rank", desc := "(II)J" } : Jvm.MethodName) ({ cls := "WalkRanks", name := "rank", desc := "(II)J" } : Jvm.MethodName)) ∈ aw_WS := aw_in (List.mem_of_getElem? (i := 311) rfl) rfl
set_option maxRecDepth 100000 in
theorem k_289 : (Jvm.Cond.code ({ cls := "WalkRanks", name := "rank", desc := "(II)J" } : Jvm.MethodName) prog_1_method_12_code (5 : Nat) (Option.some Jvm.ClassFile.FieldType.long)) ∈ aw_WS := aw_in (List.mem_of_getElem? (i := 312) rfl) rfl
set_option maxRecDepth 100000 in
theorem k_290 : (Jvm.Cond.constantLong "WalkRanks" (99 : Nat) (-1 : Int64)) ∈ aw_WS := aw_in (List.mem_of_getElem? (i := 313) rfl) rfl
set_option maxRecDepth 100000 in
theorem k_291 : (Jvm.Cond.methodLink "WalkRanks" (101 : Nat) ({ cls := "WalkRanks", name := "isPart", desc := "(I)Z" } : Jvm.MethodName)) ∈ aw_WS := aw_in (List.mem_of_getElem? (i := 314) rfl) rfl
set_option maxRecDepth 100000 in
theorem k_292 : (Jvm.Cond.static ({ cls := "WalkRanks", name := "isPart", desc := "(I)Z" } : Jvm.MethodName)) ∈ aw_WS := aw_in (List.mem_of_getElem? (i := 315) rfl) rfl
set_option maxRecDepth 100000 in
theorem k_293 : (Jvm.Cond.code ({ cls := "WalkRanks", name := "isPart", desc := "(I)Z" } : Jvm.MethodName) prog_1_method_23_code (1 : Nat) (Option.some Jvm.ClassFile.FieldType.boolean)) ∈ aw_WS := aw_in (List.mem_of_getElem? (i := 316) rfl) rfl
set_option maxRecDepth 100000 in
theorem k_294 : (Jvm.Cond.constantLong "WalkRanks" (104 : Nat) (-2 : Int64)) ∈ aw_WS := aw_in (List.mem_of_getElem? (i := 317) rfl) rfl
set_option maxRecDepth 100000 in
theorem k_295 : (Jvm.Cond.constantLong "WalkRanks" (106 : Nat) (-3 : Int64)) ∈ aw_WS := aw_in (List.mem_of_getElem? (i := 318) rfl) rfl
set_option maxRecDepth 100000 in
theorem k_296 : (Jvm.Cond.methodLink "WalkRanks" (111 : Nat) ({ cls := "WalkRanks", name := "fillShares", desc := "(I)J" } : Jvm.MethodName)) ∈ aw_WS := aw_in (List.mem_of_getElem? (i := 319) rfl) rfl
set_option maxRecDepth 100000 in
theorem k_298 : (Jvm.Cond.instanceMethod ({ cls := "WalkRanks", name := "fillShares", desc := "(I)J" } : Jvm.MethodName)) ∈ aw_WS := aw_in (List.mem_of_getElem? (i := 321) rfl) rfl
set_option maxRecDepth 100000 in
theorem k_299 : (Jvm.Cond.code ({ cls := "WalkRanks", name := "fillShares", desc := "(I)J" } : Jvm.MethodName) prog_1_method_25_code (5 : Nat) (Option.some Jvm.ClassFile.FieldType.long)) ∈ aw_WS := aw_in (List.mem_of_getElem? (i := 322) rfl) rfl
set_option maxRecDepth 100000 in
theorem k_300 : (Jvm.Cond.methodLink "WalkRanks" (176 : Nat) ({ cls := "WalkRanks", name := "has", desc := "(II)Z" } : Jvm.MethodName)) ∈ aw_WS := aw_in (List.mem_of_getElem? (i := 323) rfl) rfl
set_option maxRecDepth 100000 in
theorem k_301 : (Jvm.Cond.methodLink "WalkRanks" (136 : Nat) ({ cls := "WalkRanks$Equations", name := "fill", desc := "(LWalkRanks$Steps;I)V" } : Jvm.MethodName)) ∈ aw_WS := aw_in (List.mem_of_getElem? (i := 324) rfl) rfl
set_option maxRecDepth 100000 in
theorem k_302 : (Jvm.Cond.instanceMethod ({ cls := "WalkRanks$Equations", name := "fill", desc := "(LWalkRanks$Steps;I)V" } : Jvm.MethodName)) ∈ aw_WS := aw_in (List.mem_of_getElem? (i := 325) rfl) rfl
set_option maxRecDepth 100000 in
theorem k_303 : (Jvm.Cond.selects "WalkRanks$Equations" ({ cls := "WalkRanks$Equations", name := "fill", desc := "(LWalkRanks$Steps;I)V" } : Jvm.MethodName) ({ cls := "WalkRanks$Equations", name := "fill", desc := "(LWalkRanks$Steps;I)V" } : Jvm.MethodName)) ∈ aw_WS := aw_in (List.mem_of_getElem? (i := 326) rfl) rfl
set_option maxRecDepth 100000 in
theorem k_304 : (Jvm.Cond.code ({ cls := "WalkRanks$Equations", name := "fill", desc := "(LWalkRanks$Steps;I)V" } : Jvm.MethodName) prog_3_method_2_code (10 : Nat) (Option.none : Option Jvm.ClassFile.FieldType)) ∈ aw_WS := aw_in (List.mem_of_getElem? (i := 327) rfl) rfl
set_option maxRecDepth 100000 in
theorem k_305 : (Jvm.Cond.methodLinkNest "WalkRanks$Equations" (23 : Nat) ({ cls := "WalkRanks", name := "has", desc := "(II)Z" } : Jvm.MethodName) "WalkRanks") ∈ aw_NW := aw_inN (List.mem_of_getElem? (i := 328) rfl) rfl
set_option maxRecDepth 100000 in
theorem k_306 : (Jvm.Cond.methodLink "WalkRanks" (140 : Nat) ({ cls := "WalkRanks$Equations", name := "determinant", desc := "()J" } : Jvm.MethodName)) ∈ aw_WS := aw_in (List.mem_of_getElem? (i := 329) rfl) rfl
set_option maxRecDepth 100000 in
theorem k_307 : (Jvm.Cond.instanceMethod ({ cls := "WalkRanks$Equations", name := "determinant", desc := "()J" } : Jvm.MethodName)) ∈ aw_WS := aw_in (List.mem_of_getElem? (i := 330) rfl) rfl
set_option maxRecDepth 100000 in
theorem k_308 : (Jvm.Cond.selects "WalkRanks$Equations" ({ cls := "WalkRanks$Equations", name := "determinant", desc := "()J" } : Jvm.MethodName) ({ cls := "WalkRanks$Equations", name := "determinant", desc := "()J" } : Jvm.MethodName)) ∈ aw_WS := aw_in (List.mem_of_getElem? (i := 331) rfl) rfl
set_option maxRecDepth 100000 in
theorem k_309 : (Jvm.Cond.code ({ cls := "WalkRanks$Equations", name := "determinant", desc := "()J" } : Jvm.MethodName) prog_3_method_5_code (1 : Nat) (Option.some Jvm.ClassFile.FieldType.long)) ∈ aw_WS := aw_in (List.mem_of_getElem? (i := 332) rfl) rfl
set_option maxRecDepth 100000 in
theorem k_310 : (Jvm.Cond.methodLink "WalkRanks$Equations" (35 : Nat) ({ cls := "WalkRanks$Equations", name := "expand", desc := "([[JIII)J" } : Jvm.MethodName)) ∈ aw_WS := aw_in (List.mem_of_getElem? (i := 333) rfl) rfl
set_option maxRecDepth 100000 in
theorem k_311 : (Jvm.Cond.static ({ cls := "WalkRanks$Equations", name := "expand", desc := "([[JIII)J" } : Jvm.MethodName)) ∈ aw_WS := aw_in (List.mem_of_getElem? (i := 334) rfl) rfl
set_option maxRecDepth 100000 in
theorem k_312 : (Jvm.Cond.code ({ cls := "WalkRanks$Equations", name := "expand", desc := "([[JIII)J" } : Jvm.MethodName) prog_3_method_6_code (11 : Nat) (Option.some Jvm.ClassFile.FieldType.long)) ∈ aw_WS := aw_in (List.mem_of_getElem? (i := 335) rfl) rfl
set_option maxRecDepth 100000 in
theorem k_313 : (Jvm.Cond.methodLinkNest "WalkRanks$Equations" (39 : Nat) ({ cls := "WalkRanks", name := "only", desc := "(I)I" } : Jvm.MethodName) "WalkRanks") ∈ aw_NW := aw_inN (List.mem_of_getElem? (i := 336) rfl) rfl
set_option maxRecDepth 100000 in
theorem k_314 : (Jvm.Cond.methodLink "WalkRanks" (115 : Nat) ({ cls := "WalkRanks", name := "fraction", desc := "(JJI)J" } : Jvm.MethodName)) ∈ aw_WS := aw_in (List.mem_of_getElem? (i := 337) rfl) rfl
set_option maxRecDepth 100000 in
theorem k_315 : (Jvm.Cond.static ({ cls := "WalkRanks", name := "fraction", desc := "(JJI)J" } : Jvm.MethodName)) ∈ aw_WS := aw_in (List.mem_of_getElem? (i := 338) rfl) rfl
set_option maxRecDepth 100000 in
theorem k_316 : (Jvm.Cond.code ({ cls := "WalkRanks", name := "fraction", desc := "(JJI)J" } : Jvm.MethodName) prog_1_method_28_code (9 : Nat) (Option.some Jvm.ClassFile.FieldType.long)) ∈ aw_WS := aw_in (List.mem_of_getElem? (i := 339) rfl) rfl
set_option maxRecDepth 100000 in
theorem k_317 : (Jvm.Cond.methodLink "WalkRanks" (184 : Nat) ({ cls := "WalkRanks", name := "greatestDivisor", desc := "(JJ)J" } : Jvm.MethodName)) ∈ aw_WS := aw_in (List.mem_of_getElem? (i := 340) rfl) rfl
set_option maxRecDepth 100000 in
theorem k_318 : (Jvm.Cond.methodLink "WalkRanksLaw" (62 : Nat) ({ cls := "WalkRanks", name := "place", desc := "(I)I" } : Jvm.MethodName)) ∈ aw_WS := aw_in (List.mem_of_getElem? (i := 341) rfl) rfl
set_option maxRecDepth 100000 in
theorem k_319 : (Jvm.Cond.instanceMethod ({ cls := "WalkRanks", name := "place", desc := "(I)I" } : Jvm.MethodName)) ∈ aw_WS := aw_in (List.mem_of_getElem? (i := 342) rfl) rfl
set_option maxRecDepth 100000 in
theorem k_320 : (Jvm.Cond.selects "WalkRanks" ({ cls := "WalkRanks", name := "place", desc := "(I)I" } : Jvm.MethodName) ({ cls := "WalkRanks", name := "place", desc := "(I)I" } : Jvm.MethodName)) ∈ aw_WS := aw_in (List.mem_of_getElem? (i := 343) rfl) rfl
set_option maxRecDepth 100000 in
theorem k_321 : (Jvm.Cond.code ({ cls := "WalkRanks", name := "place", desc := "(I)I" } : Jvm.MethodName) prog_1_method_13_code (3 : Nat) (Option.some Jvm.ClassFile.FieldType.int)) ∈ aw_WS := aw_in (List.mem_of_getElem? (i := 344) rfl) rfl
set_option maxRecDepth 100000 in
theorem k_322 : (Jvm.Cond.methodLink "WalkRanks" (119 : Nat) ({ cls := "WalkRanks", name := "nodesAhead", desc := "(I)I" } : Jvm.MethodName)) ∈ aw_WS := aw_in (List.mem_of_getElem? (i := 345) rfl) rfl
set_option maxRecDepth 100000 in
theorem k_324 : (Jvm.Cond.instanceMethod ({ cls := "WalkRanks", name := "nodesAhead", desc := "(I)I" } : Jvm.MethodName)) ∈ aw_WS := aw_in (List.mem_of_getElem? (i := 347) rfl) rfl
set_option maxRecDepth 100000 in
theorem k_325 : (Jvm.Cond.code ({ cls := "WalkRanks", name := "nodesAhead", desc := "(I)I" } : Jvm.MethodName) prog_1_method_26_code (4 : Nat) (Option.some Jvm.ClassFile.FieldType.int)) ∈ aw_WS := aw_in (List.mem_of_getElem? (i := 348) rfl) rfl
set_option maxRecDepth 100000 in
theorem k_326 : (Jvm.Cond.methodLink "WalkRanksLaw" (66 : Nat) ({ cls := "WalkRanks", name := "reach", desc := "(III)J" } : Jvm.MethodName)) ∈ aw_WS := aw_in (List.mem_of_getElem? (i := 349) rfl) rfl
set_option maxRecDepth 100000 in
theorem k_327 : (Jvm.Cond.instanceMethod ({ cls := "WalkRanks", name := "reach", desc := "(III)J" } : Jvm.MethodName)) ∈ aw_WS := aw_in (List.mem_of_getElem? (i := 350) rfl) rfl
set_option maxRecDepth 100000 in
theorem k_328 : (Jvm.Cond.selects "WalkRanks" ({ cls := "WalkRanks", name := "reach", desc := "(III)J" } : Jvm.MethodName) ({ cls := "WalkRanks", name := "reach", desc := "(III)J" } : Jvm.MethodName)) ∈ aw_WS := aw_in (List.mem_of_getElem? (i := 351) rfl) rfl
set_option maxRecDepth 100000 in
theorem k_329 : (Jvm.Cond.code ({ cls := "WalkRanks", name := "reach", desc := "(III)J" } : Jvm.MethodName) prog_1_method_14_code (4 : Nat) (Option.some Jvm.ClassFile.FieldType.long)) ∈ aw_WS := aw_in (List.mem_of_getElem? (i := 352) rfl) rfl
set_option maxRecDepth 100000 in
theorem k_330 : (Jvm.Cond.methodLink "WalkRanks" (125 : Nat) ({ cls := "WalkRanks", name := "chanceToCome", desc := "(III)J" } : Jvm.MethodName)) ∈ aw_WS := aw_in (List.mem_of_getElem? (i := 353) rfl) rfl
set_option maxRecDepth 100000 in
theorem k_332 : (Jvm.Cond.instanceMethod ({ cls := "WalkRanks", name := "chanceToCome", desc := "(III)J" } : Jvm.MethodName)) ∈ aw_WS := aw_in (List.mem_of_getElem? (i := 355) rfl) rfl
set_option maxRecDepth 100000 in
theorem k_333 : (Jvm.Cond.code ({ cls := "WalkRanks", name := "chanceToCome", desc := "(III)J" } : Jvm.MethodName) prog_1_method_27_code (7 : Nat) (Option.some Jvm.ClassFile.FieldType.long)) ∈ aw_WS := aw_in (List.mem_of_getElem? (i := 356) rfl) rfl
set_option maxRecDepth 100000 in
theorem k_334 : (Jvm.Cond.methodLink "WalkRanks" (133 : Nat) ({ cls := "WalkRanks$ClosedSets", name := "leadingTo", desc := "(I)I" } : Jvm.MethodName)) ∈ aw_WS := aw_in (List.mem_of_getElem? (i := 357) rfl) rfl
set_option maxRecDepth 100000 in
theorem k_335 : (Jvm.Cond.methodLink "WalkRanks" (180 : Nat) ({ cls := "WalkRanks$Equations", name := "putChances", desc := "(LWalkRanks$Steps;III)V" } : Jvm.MethodName)) ∈ aw_WS := aw_in (List.mem_of_getElem? (i := 358) rfl) rfl
set_option maxRecDepth 100000 in
theorem k_336 : (Jvm.Cond.instanceMethod ({ cls := "WalkRanks$Equations", name := "putChances", desc := "(LWalkRanks$Steps;III)V" } : Jvm.MethodName)) ∈ aw_WS := aw_in (List.mem_of_getElem? (i := 359) rfl) rfl
set_option maxRecDepth 100000 in
theorem k_337 : (Jvm.Cond.selects "WalkRanks$Equations" ({ cls := "WalkRanks$Equations", name := "putChances", desc := "(LWalkRanks$Steps;III)V" } : Jvm.MethodName) ({ cls := "WalkRanks$Equations", name := "putChances", desc := "(LWalkRanks$Steps;III)V" } : Jvm.MethodName)) ∈ aw_WS := aw_in (List.mem_of_getElem? (i := 360) rfl) rfl
set_option maxRecDepth 100000 in
theorem k_338 : (Jvm.Cond.code ({ cls := "WalkRanks$Equations", name := "putChances", desc := "(LWalkRanks$Steps;III)V" } : Jvm.MethodName) prog_3_method_3_code (7 : Nat) (Option.none : Option Jvm.ClassFile.FieldType)) ∈ aw_WS := aw_in (List.mem_of_getElem? (i := 361) rfl) rfl
set_option maxRecDepth 100000 in
theorem k_339 : (Jvm.Cond.methodLink "WalkRanksLaw" (71 : Nat) ({ cls := "WalkRanks", name := "hit", desc := "(III)J" } : Jvm.MethodName)) ∈ aw_WS := aw_in (List.mem_of_getElem? (i := 362) rfl) rfl
set_option maxRecDepth 100000 in
theorem k_340 : (Jvm.Cond.instanceMethod ({ cls := "WalkRanks", name := "hit", desc := "(III)J" } : Jvm.MethodName)) ∈ aw_WS := aw_in (List.mem_of_getElem? (i := 363) rfl) rfl
set_option maxRecDepth 100000 in
theorem k_341 : (Jvm.Cond.selects "WalkRanks" ({ cls := "WalkRanks", name := "hit", desc := "(III)J" } : Jvm.MethodName) ({ cls := "WalkRanks", name := "hit", desc := "(III)J" } : Jvm.MethodName)) ∈ aw_WS := aw_in (List.mem_of_getElem? (i := 364) rfl) rfl
set_option maxRecDepth 100000 in
theorem k_342 : (Jvm.Cond.code ({ cls := "WalkRanks", name := "hit", desc := "(III)J" } : Jvm.MethodName) prog_1_method_15_code (7 : Nat) (Option.some Jvm.ClassFile.FieldType.long)) ∈ aw_WS := aw_in (List.mem_of_getElem? (i := 365) rfl) rfl
set_option maxRecDepth 100000 in
theorem k_343 : (Jvm.Cond.methodLink "WalkRanks" (129 : Nat) ({ cls := "WalkRanks$Steps", name := "nodesBehind", desc := "(II)I" } : Jvm.MethodName)) ∈ aw_WS := aw_in (List.mem_of_getElem? (i := 366) rfl) rfl
set_option maxRecDepth 100000 in
theorem k_344 : (Jvm.Cond.methodLink "WalkRanks" (144 : Nat) ({ cls := "WalkRanks$Equations", name := "putStepCounts", desc := "(LWalkRanks$Steps;II)V" } : Jvm.MethodName)) ∈ aw_WS := aw_in (List.mem_of_getElem? (i := 367) rfl) rfl
set_option maxRecDepth 100000 in
theorem k_345 : (Jvm.Cond.instanceMethod ({ cls := "WalkRanks$Equations", name := "putStepCounts", desc := "(LWalkRanks$Steps;II)V" } : Jvm.MethodName)) ∈ aw_WS := aw_in (List.mem_of_getElem? (i := 368) rfl) rfl
set_option maxRecDepth 100000 in
theorem k_346 : (Jvm.Cond.selects "WalkRanks$Equations" ({ cls := "WalkRanks$Equations", name := "putStepCounts", desc := "(LWalkRanks$Steps;II)V" } : Jvm.MethodName) ({ cls := "WalkRanks$Equations", name := "putStepCounts", desc := "(LWalkRanks$Steps;II)V" } : Jvm.MethodName)) ∈ aw_WS := aw_in (List.mem_of_getElem? (i := 369) rfl) rfl
set_option maxRecDepth 100000 in
theorem k_347 : (Jvm.Cond.code ({ cls := "WalkRanks$Equations", name := "putStepCounts", desc := "(LWalkRanks$Steps;II)V" } : Jvm.MethodName) prog_3_method_4_code (5 : Nat) (Option.none : Option Jvm.ClassFile.FieldType)) ∈ aw_WS := aw_in (List.mem_of_getElem? (i := 370) rfl) rfl
set_option maxRecDepth 100000 in
theorem k_348 : (Jvm.Cond.methodLink "WalkRanksLaw" (75 : Nat) ({ cls := "WalkRanks", name := "back", desc := "(II)J" } : Jvm.MethodName)) ∈ aw_WS := aw_in (List.mem_of_getElem? (i := 371) rfl) rfl
set_option maxRecDepth 100000 in
theorem k_349 : (Jvm.Cond.instanceMethod ({ cls := "WalkRanks", name := "back", desc := "(II)J" } : Jvm.MethodName)) ∈ aw_WS := aw_in (List.mem_of_getElem? (i := 372) rfl) rfl
set_option maxRecDepth 100000 in
theorem k_350 : (Jvm.Cond.selects "WalkRanks" ({ cls := "WalkRanks", name := "back", desc := "(II)J" } : Jvm.MethodName) ({ cls := "WalkRanks", name := "back", desc := "(II)J" } : Jvm.MethodName)) ∈ aw_WS := aw_in (List.mem_of_getElem? (i := 373) rfl) rfl
set_option maxRecDepth 100000 in
theorem k_351 : (Jvm.Cond.code ({ cls := "WalkRanks", name := "back", desc := "(II)J" } : Jvm.MethodName) prog_1_method_16_code (5 : Nat) (Option.some Jvm.ClassFile.FieldType.long)) ∈ aw_WS := aw_in (List.mem_of_getElem? (i := 374) rfl) rfl
set_option maxRecDepth 100000 in
theorem k_352 : (Jvm.Cond.methodLink "WalkRanksLaw" (79 : Nat) ({ cls := "WalkRanks", name := "end", desc := "(III)J" } : Jvm.MethodName)) ∈ aw_WS := aw_in (List.mem_of_getElem? (i := 375) rfl) rfl
set_option maxRecDepth 100000 in
theorem k_353 : (Jvm.Cond.instanceMethod ({ cls := "WalkRanks", name := "end", desc := "(III)J" } : Jvm.MethodName)) ∈ aw_WS := aw_in (List.mem_of_getElem? (i := 376) rfl) rfl
set_option maxRecDepth 100000 in
theorem k_354 : (Jvm.Cond.selects "WalkRanks" ({ cls := "WalkRanks", name := "end", desc := "(III)J" } : Jvm.MethodName) ({ cls := "WalkRanks", name := "end", desc := "(III)J" } : Jvm.MethodName)) ∈ aw_WS := aw_in (List.mem_of_getElem? (i := 377) rfl) rfl
set_option maxRecDepth 100000 in
theorem k_355 : (Jvm.Cond.code ({ cls := "WalkRanks", name := "end", desc := "(III)J" } : Jvm.MethodName) prog_1_method_17_code (4 : Nat) (Option.some Jvm.ClassFile.FieldType.long)) ∈ aw_WS := aw_in (List.mem_of_getElem? (i := 378) rfl) rfl
set_option maxRecDepth 100000 in
theorem k_356 : (Jvm.Cond.methodLink "WalkRanksLaw" (83 : Nat) ({ cls := "WalkRanks", name := "after", desc := "(IIII)J" } : Jvm.MethodName)) ∈ aw_WS := aw_in (List.mem_of_getElem? (i := 379) rfl) rfl
set_option maxRecDepth 100000 in
theorem k_357 : (Jvm.Cond.instanceMethod ({ cls := "WalkRanks", name := "after", desc := "(IIII)J" } : Jvm.MethodName)) ∈ aw_WS := aw_in (List.mem_of_getElem? (i := 380) rfl) rfl
set_option maxRecDepth 100000 in
theorem k_358 : (Jvm.Cond.selects "WalkRanks" ({ cls := "WalkRanks", name := "after", desc := "(IIII)J" } : Jvm.MethodName) ({ cls := "WalkRanks", name := "after", desc := "(IIII)J" } : Jvm.MethodName)) ∈ aw_WS := aw_in (List.mem_of_getElem? (i := 381) rfl) rfl
set_option maxRecDepth 100000 in
theorem k_359 : (Jvm.Cond.code ({ cls := "WalkRanks", name := "after", desc := "(IIII)J" } : Jvm.MethodName) prog_1_method_18_code (10 : Nat) (Option.some Jvm.ClassFile.FieldType.long)) ∈ aw_WS := aw_in (List.mem_of_getElem? (i := 382) rfl) rfl
set_option maxRecDepth 100000 in
theorem k_360 : (Jvm.Cond.methodLink "WalkRanks" (148 : Nat) ({ cls := "WalkRanks$Steps", name := "commonTotal", desc := "()J" } : Jvm.MethodName)) ∈ aw_WS := aw_in (List.mem_of_getElem? (i := 383) rfl) rfl
set_option maxRecDepth 100000 in
theorem k_361 : (Jvm.Cond.instanceMethod ({ cls := "WalkRanks$Steps", name := "commonTotal", desc := "()J" } : Jvm.MethodName)) ∈ aw_WS := aw_in (List.mem_of_getElem? (i := 384) rfl) rfl
set_option maxRecDepth 100000 in
theorem k_362 : (Jvm.Cond.selects "WalkRanks$Steps" ({ cls := "WalkRanks$Steps", name := "commonTotal", desc := "()J" } : Jvm.MethodName) ({ cls := "WalkRanks$Steps", name := "commonTotal", desc := "()J" } : Jvm.MethodName)) ∈ aw_WS := aw_in (List.mem_of_getElem? (i := 385) rfl) rfl
set_option maxRecDepth 100000 in
theorem k_363 : (Jvm.Cond.code ({ cls := "WalkRanks$Steps", name := "commonTotal", desc := "()J" } : Jvm.MethodName) prog_6_method_6_code (6 : Nat) (Option.some Jvm.ClassFile.FieldType.long)) ∈ aw_WS := aw_in (List.mem_of_getElem? (i := 386) rfl) rfl
set_option maxRecDepth 100000 in
theorem k_364 : (Jvm.Cond.methodLink "WalkRanks" (151 : Nat) ({ cls := "WalkRanks$Spread", name := "fillBySteps", desc := "(LWalkRanks$Steps;J)V" } : Jvm.MethodName)) ∈ aw_WS := aw_in (List.mem_of_getElem? (i := 387) rfl) rfl
set_option maxRecDepth 100000 in
theorem k_365 : (Jvm.Cond.instanceMethod ({ cls := "WalkRanks$Spread", name := "fillBySteps", desc := "(LWalkRanks$Steps;J)V" } : Jvm.MethodName)) ∈ aw_WS := aw_in (List.mem_of_getElem? (i := 388) rfl) rfl
set_option maxRecDepth 100000 in
theorem k_366 : (Jvm.Cond.selects "WalkRanks$Spread" ({ cls := "WalkRanks$Spread", name := "fillBySteps", desc := "(LWalkRanks$Steps;J)V" } : Jvm.MethodName) ({ cls := "WalkRanks$Spread", name := "fillBySteps", desc := "(LWalkRanks$Steps;J)V" } : Jvm.MethodName)) ∈ aw_WS := aw_in (List.mem_of_getElem? (i := 389) rfl) rfl
set_option maxRecDepth 100000 in
theorem k_367 : (Jvm.Cond.code ({ cls := "WalkRanks$Spread", name := "fillBySteps", desc := "(LWalkRanks$Steps;J)V" } : Jvm.MethodName) prog_5_method_3_code (8 : Nat) (Option.none : Option Jvm.ClassFile.FieldType)) ∈ aw_WS := aw_in (List.mem_of_getElem? (i := 390) rfl) rfl
set_option maxRecDepth 100000 in
theorem k_368 : (Jvm.Cond.methodLink "WalkRanks" (155 : Nat) ({ cls := "WalkRanks$Spread", name := "run", desc := "(II)V" } : Jvm.MethodName)) ∈ aw_WS := aw_in (List.mem_of_getElem? (i := 391) rfl) rfl
set_option maxRecDepth 100000 in
theorem k_369 : (Jvm.Cond.instanceMethod ({ cls := "WalkRanks$Spread", name := "run", desc := "(II)V" } : Jvm.MethodName)) ∈ aw_WS := aw_in (List.mem_of_getElem? (i := 392) rfl) rfl
set_option maxRecDepth 100000 in
theorem k_370 : (Jvm.Cond.selects "WalkRanks$Spread" ({ cls := "WalkRanks$Spread", name := "run", desc := "(II)V" } : Jvm.MethodName) ({ cls := "WalkRanks$Spread", name := "run", desc := "(II)V" } : Jvm.MethodName)) ∈ aw_WS := aw_in (List.mem_of_getElem? (i := 393) rfl) rfl
set_option maxRecDepth 100000 in
theorem k_371 : (Jvm.Cond.code ({ cls := "WalkRanks$Spread", name := "run", desc := "(II)V" } : Jvm.MethodName) prog_5_method_4_code (4 : Nat) (Option.none : Option Jvm.ClassFile.FieldType)) ∈ aw_WS := aw_in (List.mem_of_getElem? (i := 394) rfl) rfl
set_option maxRecDepth 100000 in
theorem k_372 : (Jvm.Cond.methodLink "WalkRanks$Spread" (44 : Nat) ({ cls := "WalkRanks$Spread", name := "move", desc := "()V" } : Jvm.MethodName)) ∈ aw_WS := aw_in (List.mem_of_getElem? (i := 395) rfl) rfl
set_option maxRecDepth 100000 in
theorem k_374 : (Jvm.Cond.instanceMethod ({ cls := "WalkRanks$Spread", name := "move", desc := "()V" } : Jvm.MethodName)) ∈ aw_WS := aw_in (List.mem_of_getElem? (i := 397) rfl) rfl
set_option maxRecDepth 100000 in
theorem k_375 : (Jvm.Cond.code ({ cls := "WalkRanks$Spread", name := "move", desc := "()V" } : Jvm.MethodName) prog_5_method_6_code (3 : Nat) (Option.none : Option Jvm.ClassFile.FieldType)) ∈ aw_WS := aw_in (List.mem_of_getElem? (i := 398) rfl) rfl
set_option maxRecDepth 100000 in
theorem k_376 : (Jvm.Cond.methodLink "WalkRanks" (159 : Nat) ({ cls := "WalkRanks$Spread", name := "numberAt", desc := "(I)J" } : Jvm.MethodName)) ∈ aw_WS := aw_in (List.mem_of_getElem? (i := 399) rfl) rfl
set_option maxRecDepth 100000 in
theorem k_377 : (Jvm.Cond.instanceMethod ({ cls := "WalkRanks$Spread", name := "numberAt", desc := "(I)J" } : Jvm.MethodName)) ∈ aw_WS := aw_in (List.mem_of_getElem? (i := 400) rfl) rfl
set_option maxRecDepth 100000 in
theorem k_378 : (Jvm.Cond.selects "WalkRanks$Spread" ({ cls := "WalkRanks$Spread", name := "numberAt", desc := "(I)J" } : Jvm.MethodName) ({ cls := "WalkRanks$Spread", name := "numberAt", desc := "(I)J" } : Jvm.MethodName)) ∈ aw_WS := aw_in (List.mem_of_getElem? (i := 401) rfl) rfl
set_option maxRecDepth 100000 in
theorem k_379 : (Jvm.Cond.code ({ cls := "WalkRanks$Spread", name := "numberAt", desc := "(I)J" } : Jvm.MethodName) prog_5_method_5_code (2 : Nat) (Option.some Jvm.ClassFile.FieldType.long)) ∈ aw_WS := aw_in (List.mem_of_getElem? (i := 402) rfl) rfl
set_option maxRecDepth 100000 in
theorem k_380 : (Jvm.Cond.methodLink "WalkRanksLaw" (88 : Nat) ({ cls := "WalkRanks", name := "walks", desc := "(III)J" } : Jvm.MethodName)) ∈ aw_WS := aw_in (List.mem_of_getElem? (i := 403) rfl) rfl
set_option maxRecDepth 100000 in
theorem k_381 : (Jvm.Cond.instanceMethod ({ cls := "WalkRanks", name := "walks", desc := "(III)J" } : Jvm.MethodName)) ∈ aw_WS := aw_in (List.mem_of_getElem? (i := 404) rfl) rfl
set_option maxRecDepth 100000 in
theorem k_382 : (Jvm.Cond.selects "WalkRanks" ({ cls := "WalkRanks", name := "walks", desc := "(III)J" } : Jvm.MethodName) ({ cls := "WalkRanks", name := "walks", desc := "(III)J" } : Jvm.MethodName)) ∈ aw_WS := aw_in (List.mem_of_getElem? (i := 405) rfl) rfl
set_option maxRecDepth 100000 in
theorem k_383 : (Jvm.Cond.code ({ cls := "WalkRanks", name := "walks", desc := "(III)J" } : Jvm.MethodName) prog_1_method_19_code (4 : Nat) (Option.some Jvm.ClassFile.FieldType.long)) ∈ aw_WS := aw_in (List.mem_of_getElem? (i := 406) rfl) rfl
set_option maxRecDepth 100000 in
theorem k_384 : (Jvm.Cond.methodLink "WalkRanks" (162 : Nat) ({ cls := "WalkRanks$Spread", name := "fillByWeights", desc := "(LWalkRanks$Graph;)V" } : Jvm.MethodName)) ∈ aw_WS := aw_in (List.mem_of_getElem? (i := 407) rfl) rfl
set_option maxRecDepth 100000 in
theorem k_385 : (Jvm.Cond.instanceMethod ({ cls := "WalkRanks$Spread", name := "fillByWeights", desc := "(LWalkRanks$Graph;)V" } : Jvm.MethodName)) ∈ aw_WS := aw_in (List.mem_of_getElem? (i := 408) rfl) rfl
set_option maxRecDepth 100000 in
theorem k_386 : (Jvm.Cond.selects "WalkRanks$Spread" ({ cls := "WalkRanks$Spread", name := "fillByWeights", desc := "(LWalkRanks$Graph;)V" } : Jvm.MethodName) ({ cls := "WalkRanks$Spread", name := "fillByWeights", desc := "(LWalkRanks$Graph;)V" } : Jvm.MethodName)) ∈ aw_WS := aw_in (List.mem_of_getElem? (i := 409) rfl) rfl
set_option maxRecDepth 100000 in
theorem k_387 : (Jvm.Cond.code ({ cls := "WalkRanks$Spread", name := "fillByWeights", desc := "(LWalkRanks$Graph;)V" } : Jvm.MethodName) prog_5_method_2_code (4 : Nat) (Option.none : Option Jvm.ClassFile.FieldType)) ∈ aw_WS := aw_in (List.mem_of_getElem? (i := 410) rfl) rfl
set_option maxRecDepth 100000 in
theorem k_388 : (Jvm.Cond.methodLink "WalkRanksLaw" (92 : Nat) ({ cls := "WalkRanks", name := "drawn", desc := "(III)I" } : Jvm.MethodName)) ∈ aw_WS := aw_in (List.mem_of_getElem? (i := 411) rfl) rfl
set_option maxRecDepth 100000 in
theorem k_389 : (Jvm.Cond.instanceMethod ({ cls := "WalkRanks", name := "drawn", desc := "(III)I" } : Jvm.MethodName)) ∈ aw_WS := aw_in (List.mem_of_getElem? (i := 412) rfl) rfl
set_option maxRecDepth 100000 in
theorem k_390 : (Jvm.Cond.selects "WalkRanks" ({ cls := "WalkRanks", name := "drawn", desc := "(III)I" } : Jvm.MethodName) ({ cls := "WalkRanks", name := "drawn", desc := "(III)I" } : Jvm.MethodName)) ∈ aw_WS := aw_in (List.mem_of_getElem? (i := 413) rfl) rfl
set_option maxRecDepth 100000 in
theorem k_391 : (Jvm.Cond.code ({ cls := "WalkRanks", name := "drawn", desc := "(III)I" } : Jvm.MethodName) prog_1_method_20_code (7 : Nat) (Option.some Jvm.ClassFile.FieldType.int)) ∈ aw_WS := aw_in (List.mem_of_getElem? (i := 414) rfl) rfl
set_option maxRecDepth 100000 in
theorem k_392 : (Jvm.Cond.constant "WalkRanks" (166 : Nat) (1664525 : Int32)) ∈ aw_WS := aw_in (List.mem_of_getElem? (i := 415) rfl) rfl
set_option maxRecDepth 100000 in
theorem k_393 : (Jvm.Cond.constant "WalkRanks" (167 : Nat) (1013904223 : Int32)) ∈ aw_WS := aw_in (List.mem_of_getElem? (i := 416) rfl) rfl
set_option maxRecDepth 100000 in
theorem k_394 : (Jvm.Cond.methodLink "WalkRanks" (168 : Nat) ({ cls := "WalkRanks$Steps", name := "nextNode", desc := "(II)I" } : Jvm.MethodName)) ∈ aw_WS := aw_in (List.mem_of_getElem? (i := 417) rfl) rfl
set_option maxRecDepth 100000 in
theorem k_395 : (Jvm.Cond.instanceMethod ({ cls := "WalkRanks$Steps", name := "nextNode", desc := "(II)I" } : Jvm.MethodName)) ∈ aw_WS := aw_in (List.mem_of_getElem? (i := 418) rfl) rfl
set_option maxRecDepth 100000 in
theorem k_396 : (Jvm.Cond.selects "WalkRanks$Steps" ({ cls := "WalkRanks$Steps", name := "nextNode", desc := "(II)I" } : Jvm.MethodName) ({ cls := "WalkRanks$Steps", name := "nextNode", desc := "(II)I" } : Jvm.MethodName)) ∈ aw_WS := aw_in (List.mem_of_getElem? (i := 419) rfl) rfl
set_option maxRecDepth 100000 in
theorem k_397 : (Jvm.Cond.code ({ cls := "WalkRanks$Steps", name := "nextNode", desc := "(II)I" } : Jvm.MethodName) prog_6_method_10_code (5 : Nat) (Option.some Jvm.ClassFile.FieldType.int)) ∈ aw_WS := aw_in (List.mem_of_getElem? (i := 420) rfl) rfl
set_option maxRecDepth 100000 in
theorem k_398 : (Jvm.Cond.classLink "WalkRanksLaw" (10 : Nat) "WalkRanksModel") ∈ aw_WS := aw_in (List.mem_of_getElem? (i := 421) rfl) rfl
set_option maxRecDepth 100000 in
theorem k_399 : (Jvm.Cond.instantiable "WalkRanksModel" (17 : Nat)) ∈ aw_WS := aw_in (List.mem_of_getElem? (i := 422) rfl) rfl
set_option maxRecDepth 100000 in
theorem k_400 : (Jvm.Cond.methodLink "WalkRanksLaw" (12 : Nat) ({ cls := "WalkRanksModel", name := "<init>", desc := "()V" } : Jvm.MethodName)) ∈ aw_WS := aw_in (List.mem_of_getElem? (i := 423) rfl) rfl
set_option maxRecDepth 100000 in
theorem k_401 : (Jvm.Cond.instanceMethod ({ cls := "WalkRanksModel", name := "<init>", desc := "()V" } : Jvm.MethodName)) ∈ aw_WS := aw_in (List.mem_of_getElem? (i := 424) rfl) rfl
set_option maxRecDepth 100000 in
theorem k_402 : (Jvm.Cond.code ({ cls := "WalkRanksModel", name := "<init>", desc := "()V" } : Jvm.MethodName) prog_8_method_1_code (1 : Nat) (Option.none : Option Jvm.ClassFile.FieldType)) ∈ aw_WS := aw_in (List.mem_of_getElem? (i := 425) rfl) rfl
set_option maxRecDepth 100000 in
theorem k_403 : (Jvm.Cond.methodLink "WalkRanksModel" (1 : Nat) ({ cls := "java/lang/Object", name := "<init>", desc := "()V" } : Jvm.MethodName)) ∈ aw_WS := aw_in (List.mem_of_getElem? (i := 426) rfl) rfl
set_option maxRecDepth 100000 in
theorem k_404 : (Jvm.Cond.fieldLink "WalkRanksModel" (48 : Nat) "WalkRanksModel" "nodes" "I") ∈ aw_WS := aw_in (List.mem_of_getElem? (i := 427) rfl) rfl
set_option maxRecDepth 100000 in
theorem k_405 : (Jvm.Cond.fieldLink "WalkRanksModel" (7 : Nat) "WalkRanksModel" "weights" "[I") ∈ aw_WS := aw_in (List.mem_of_getElem? (i := 428) rfl) rfl
set_option maxRecDepth 100000 in
theorem k_406 : (Jvm.Cond.fieldLink "WalkRanksModel" (13 : Nat) "WalkRanksModel" "jumps" "[I") ∈ aw_WS := aw_in (List.mem_of_getElem? (i := 429) rfl) rfl
set_option maxRecDepth 100000 in
theorem k_407 : (Jvm.Cond.fieldLink "WalkRanksModel" (16 : Nat) "WalkRanksModel" "above" "I") ∈ aw_WS := aw_in (List.mem_of_getElem? (i := 430) rfl) rfl
set_option maxRecDepth 100000 in
theorem k_408 : (Jvm.Cond.fieldLink "WalkRanksModel" (20 : Nat) "WalkRanksModel" "below" "I") ∈ aw_WS := aw_in (List.mem_of_getElem? (i := 431) rfl) rfl
set_option maxRecDepth 100000 in
theorem k_409 : (Jvm.Cond.fieldLink "WalkRanksModel" (23 : Nat) "WalkRanksModel" "row" "[I") ∈ aw_WS := aw_in (List.mem_of_getElem? (i := 432) rfl) rfl
set_option maxRecDepth 100000 in
theorem k_410 : (Jvm.Cond.fieldLink "WalkRanksModel" (26 : Nat) "WalkRanksModel" "total" "[I") ∈ aw_WS := aw_in (List.mem_of_getElem? (i := 433) rfl) rfl
set_option maxRecDepth 100000 in
theorem k_411 : (Jvm.Cond.fieldLink "WalkRanksModel" (70 : Nat) "WalkRanksModel" "sets" "I") ∈ aw_WS := aw_in (List.mem_of_getElem? (i := 434) rfl) rfl
set_option maxRecDepth 100000 in
theorem k_412 : (Jvm.Cond.fieldLink "WalkRanksModel" (29 : Nat) "WalkRanksModel" "setOf" "[I") ∈ aw_WS := aw_in (List.mem_of_getElem? (i := 435) rfl) rfl
set_option maxRecDepth 100000 in
theorem k_413 : (Jvm.Cond.fieldLink "WalkRanksModel" (32 : Nat) "WalkRanksModel" "bitsOf" "[I") ∈ aw_WS := aw_in (List.mem_of_getElem? (i := 436) rfl) rfl
set_option maxRecDepth 100000 in
theorem k_414 : (Jvm.Cond.fieldLink "WalkRanksModel" (79 : Nat) "WalkRanksModel" "forests" "J") ∈ aw_WS := aw_in (List.mem_of_getElem? (i := 437) rfl) rfl
set_option maxRecDepth 100000 in
theorem k_415 : (Jvm.Cond.fieldLink "WalkRanksModel" (83 : Nat) "WalkRanksModel" "toward" "J") ∈ aw_WS := aw_in (List.mem_of_getElem? (i := 438) rfl) rfl
set_option maxRecDepth 100000 in
theorem k_416 : (Jvm.Cond.fieldLink "WalkRanksModel" (35 : Nat) "WalkRanksModel" "step" "[I") ∈ aw_WS := aw_in (List.mem_of_getElem? (i := 439) rfl) rfl
set_option maxRecDepth 100000 in
theorem k_417 : (Jvm.Cond.fieldLink "WalkRanksModel" (38 : Nat) "WalkRanksModel" "shares" "[J") ∈ aw_WS := aw_in (List.mem_of_getElem? (i := 440) rfl) rfl
set_option maxRecDepth 100000 in
theorem k_418 : (Jvm.Cond.fieldLink "WalkRanksModel" (89 : Nat) "WalkRanksModel" "shareSum" "J") ∈ aw_WS := aw_in (List.mem_of_getElem? (i := 441) rfl) rfl
set_option maxRecDepth 100000 in
theorem k_419 : (Jvm.Cond.fieldLink "WalkRanksModel" (42 : Nat) "WalkRanksModel" "now" "[J") ∈ aw_WS := aw_in (List.mem_of_getElem? (i := 442) rfl) rfl
set_option maxRecDepth 100000 in
theorem k_420 : (Jvm.Cond.fieldLink "WalkRanksModel" (45 : Nat) "WalkRanksModel" "then" "[J") ∈ aw_WS := aw_in (List.mem_of_getElem? (i := 443) rfl) rfl
set_option maxRecDepth 100000 in
theorem k_421 : (Jvm.Cond.lays "WalkRanksModel" "WalkRanksModel" "nodes" "I") ∈ aw_WS := aw_in (List.mem_of_getElem? (i := 444) rfl) rfl
set_option maxRecDepth 100000 in
theorem k_422 : (Jvm.Cond.soleField "WalkRanksModel" "nodes") ∈ aw_WS := aw_in (List.mem_of_getElem? (i := 445) rfl) rfl
set_option maxRecDepth 100000 in
theorem k_423 : (Jvm.Cond.laysFinal "WalkRanksModel" "WalkRanksModel" "weights" "[I") ∈ aw_WS := aw_in (List.mem_of_getElem? (i := 446) rfl) rfl
set_option maxRecDepth 100000 in
theorem k_424 : (Jvm.Cond.soleField "WalkRanksModel" "weights") ∈ aw_WS := aw_in (List.mem_of_getElem? (i := 447) rfl) rfl
set_option maxRecDepth 100000 in
theorem k_425 : (Jvm.Cond.laysFinal "WalkRanksModel" "WalkRanksModel" "jumps" "[I") ∈ aw_WS := aw_in (List.mem_of_getElem? (i := 448) rfl) rfl
set_option maxRecDepth 100000 in
theorem k_426 : (Jvm.Cond.soleField "WalkRanksModel" "jumps") ∈ aw_WS := aw_in (List.mem_of_getElem? (i := 449) rfl) rfl
set_option maxRecDepth 100000 in
theorem k_427 : (Jvm.Cond.lays "WalkRanksModel" "WalkRanksModel" "above" "I") ∈ aw_WS := aw_in (List.mem_of_getElem? (i := 450) rfl) rfl
set_option maxRecDepth 100000 in
theorem k_428 : (Jvm.Cond.soleField "WalkRanksModel" "above") ∈ aw_WS := aw_in (List.mem_of_getElem? (i := 451) rfl) rfl
set_option maxRecDepth 100000 in
theorem k_429 : (Jvm.Cond.lays "WalkRanksModel" "WalkRanksModel" "below" "I") ∈ aw_WS := aw_in (List.mem_of_getElem? (i := 452) rfl) rfl
set_option maxRecDepth 100000 in
theorem k_430 : (Jvm.Cond.soleField "WalkRanksModel" "below") ∈ aw_WS := aw_in (List.mem_of_getElem? (i := 453) rfl) rfl
set_option maxRecDepth 100000 in
theorem k_431 : (Jvm.Cond.laysFinal "WalkRanksModel" "WalkRanksModel" "row" "[I") ∈ aw_WS := aw_in (List.mem_of_getElem? (i := 454) rfl) rfl
set_option maxRecDepth 100000 in
theorem k_432 : (Jvm.Cond.soleField "WalkRanksModel" "row") ∈ aw_WS := aw_in (List.mem_of_getElem? (i := 455) rfl) rfl
set_option maxRecDepth 100000 in
theorem k_433 : (Jvm.Cond.laysFinal "WalkRanksModel" "WalkRanksModel" "total" "[I") ∈ aw_WS := aw_in (List.mem_of_getElem? (i := 456) rfl) rfl
set_option maxRecDepth 100000 in
theorem k_434 : (Jvm.Cond.soleField "WalkRanksModel" "total") ∈ aw_WS := aw_in (List.mem_of_getElem? (i := 457) rfl) rfl
set_option maxRecDepth 100000 in
theorem k_435 : (Jvm.Cond.lays "WalkRanksModel" "WalkRanksModel" "sets" "I") ∈ aw_WS := aw_in (List.mem_of_getElem? (i := 458) rfl) rfl
set_option maxRecDepth 100000 in
theorem k_436 : (Jvm.Cond.soleField "WalkRanksModel" "sets") ∈ aw_WS := aw_in (List.mem_of_getElem? (i := 459) rfl) rfl
set_option maxRecDepth 100000 in
theorem k_437 : (Jvm.Cond.laysFinal "WalkRanksModel" "WalkRanksModel" "setOf" "[I") ∈ aw_WS := aw_in (List.mem_of_getElem? (i := 460) rfl) rfl
set_option maxRecDepth 100000 in
theorem k_438 : (Jvm.Cond.soleField "WalkRanksModel" "setOf") ∈ aw_WS := aw_in (List.mem_of_getElem? (i := 461) rfl) rfl
set_option maxRecDepth 100000 in
theorem k_439 : (Jvm.Cond.laysFinal "WalkRanksModel" "WalkRanksModel" "bitsOf" "[I") ∈ aw_WS := aw_in (List.mem_of_getElem? (i := 462) rfl) rfl
set_option maxRecDepth 100000 in
theorem k_440 : (Jvm.Cond.soleField "WalkRanksModel" "bitsOf") ∈ aw_WS := aw_in (List.mem_of_getElem? (i := 463) rfl) rfl
set_option maxRecDepth 100000 in
theorem k_441 : (Jvm.Cond.lays "WalkRanksModel" "WalkRanksModel" "forests" "J") ∈ aw_WS := aw_in (List.mem_of_getElem? (i := 464) rfl) rfl
set_option maxRecDepth 100000 in
theorem k_442 : (Jvm.Cond.soleField "WalkRanksModel" "forests") ∈ aw_WS := aw_in (List.mem_of_getElem? (i := 465) rfl) rfl
set_option maxRecDepth 100000 in
theorem k_443 : (Jvm.Cond.lays "WalkRanksModel" "WalkRanksModel" "toward" "J") ∈ aw_WS := aw_in (List.mem_of_getElem? (i := 466) rfl) rfl
set_option maxRecDepth 100000 in
theorem k_444 : (Jvm.Cond.soleField "WalkRanksModel" "toward") ∈ aw_WS := aw_in (List.mem_of_getElem? (i := 467) rfl) rfl
set_option maxRecDepth 100000 in
theorem k_445 : (Jvm.Cond.laysFinal "WalkRanksModel" "WalkRanksModel" "step" "[I") ∈ aw_WS := aw_in (List.mem_of_getElem? (i := 468) rfl) rfl
set_option maxRecDepth 100000 in
theorem k_446 : (Jvm.Cond.soleField "WalkRanksModel" "step") ∈ aw_WS := aw_in (List.mem_of_getElem? (i := 469) rfl) rfl
set_option maxRecDepth 100000 in
theorem k_447 : (Jvm.Cond.laysFinal "WalkRanksModel" "WalkRanksModel" "shares" "[J") ∈ aw_WS := aw_in (List.mem_of_getElem? (i := 470) rfl) rfl
set_option maxRecDepth 100000 in
theorem k_448 : (Jvm.Cond.soleField "WalkRanksModel" "shares") ∈ aw_WS := aw_in (List.mem_of_getElem? (i := 471) rfl) rfl
set_option maxRecDepth 100000 in
theorem k_449 : (Jvm.Cond.lays "WalkRanksModel" "WalkRanksModel" "shareSum" "J") ∈ aw_WS := aw_in (List.mem_of_getElem? (i := 472) rfl) rfl
set_option maxRecDepth 100000 in
theorem k_450 : (Jvm.Cond.soleField "WalkRanksModel" "shareSum") ∈ aw_WS := aw_in (List.mem_of_getElem? (i := 473) rfl) rfl
set_option maxRecDepth 100000 in
theorem k_451 : (Jvm.Cond.laysFinal "WalkRanksModel" "WalkRanksModel" "now" "[J") ∈ aw_WS := aw_in (List.mem_of_getElem? (i := 474) rfl) rfl
set_option maxRecDepth 100000 in
theorem k_452 : (Jvm.Cond.soleField "WalkRanksModel" "now") ∈ aw_WS := aw_in (List.mem_of_getElem? (i := 475) rfl) rfl
set_option maxRecDepth 100000 in
theorem k_453 : (Jvm.Cond.laysFinal "WalkRanksModel" "WalkRanksModel" "then" "[J") ∈ aw_WS := aw_in (List.mem_of_getElem? (i := 476) rfl) rfl
set_option maxRecDepth 100000 in
theorem k_454 : (Jvm.Cond.soleField "WalkRanksModel" "then") ∈ aw_WS := aw_in (List.mem_of_getElem? (i := 477) rfl) rfl
set_option maxRecDepth 100000 in
theorem k_455 : (Jvm.Cond.superclass "WalkRanksModel" "java/lang/Object") ∈ aw_WS := aw_in (List.mem_of_getElem? (i := 478) rfl) rfl
set_option maxRecDepth 100000 in
theorem k_456 : (Jvm.Cond.methodLink "WalkRanksLaw" (17 : Nat) ({ cls := "WalkRanksModel", name := "node", desc := "()I" } : Jvm.MethodName)) ∈ aw_WS := aw_in (List.mem_of_getElem? (i := 479) rfl) rfl
set_option maxRecDepth 100000 in
theorem k_457 : (Jvm.Cond.instanceMethod ({ cls := "WalkRanksModel", name := "node", desc := "()I" } : Jvm.MethodName)) ∈ aw_WS := aw_in (List.mem_of_getElem? (i := 480) rfl) rfl
set_option maxRecDepth 100000 in
theorem k_458 : (Jvm.Cond.selects "WalkRanksModel" ({ cls := "WalkRanksModel", name := "node", desc := "()I" } : Jvm.MethodName) ({ cls := "WalkRanksModel", name := "node", desc := "()I" } : Jvm.MethodName)) ∈ aw_WS := aw_in (List.mem_of_getElem? (i := 481) rfl) rfl
set_option maxRecDepth 100000 in
theorem k_459 : (Jvm.Cond.code ({ cls := "WalkRanksModel", name := "node", desc := "()I" } : Jvm.MethodName) prog_8_method_3_code (2 : Nat) (Option.some Jvm.ClassFile.FieldType.int)) ∈ aw_WS := aw_in (List.mem_of_getElem? (i := 482) rfl) rfl
set_option maxRecDepth 100000 in
theorem k_460 : (Jvm.Cond.methodLink "WalkRanksLaw" (22 : Nat) ({ cls := "WalkRanksModel", name := "weight", desc := "(III)I" } : Jvm.MethodName)) ∈ aw_WS := aw_in (List.mem_of_getElem? (i := 483) rfl) rfl
set_option maxRecDepth 100000 in
theorem k_461 : (Jvm.Cond.instanceMethod ({ cls := "WalkRanksModel", name := "weight", desc := "(III)I" } : Jvm.MethodName)) ∈ aw_WS := aw_in (List.mem_of_getElem? (i := 484) rfl) rfl
set_option maxRecDepth 100000 in
theorem k_462 : (Jvm.Cond.selects "WalkRanksModel" ({ cls := "WalkRanksModel", name := "weight", desc := "(III)I" } : Jvm.MethodName) ({ cls := "WalkRanksModel", name := "weight", desc := "(III)I" } : Jvm.MethodName)) ∈ aw_WS := aw_in (List.mem_of_getElem? (i := 485) rfl) rfl
set_option maxRecDepth 100000 in
theorem k_463 : (Jvm.Cond.code ({ cls := "WalkRanksModel", name := "weight", desc := "(III)I" } : Jvm.MethodName) prog_8_method_4_code (5 : Nat) (Option.some Jvm.ClassFile.FieldType.int)) ∈ aw_WS := aw_in (List.mem_of_getElem? (i := 486) rfl) rfl
set_option maxRecDepth 100000 in
theorem k_464 : (Jvm.Cond.methodLink "WalkRanksModel" (51 : Nat) ({ cls := "WalkRanksModel", name := "isNode", desc := "(I)Z" } : Jvm.MethodName)) ∈ aw_WS := aw_in (List.mem_of_getElem? (i := 487) rfl) rfl
set_option maxRecDepth 100000 in
theorem k_466 : (Jvm.Cond.instanceMethod ({ cls := "WalkRanksModel", name := "isNode", desc := "(I)Z" } : Jvm.MethodName)) ∈ aw_WS := aw_in (List.mem_of_getElem? (i := 489) rfl) rfl
set_option maxRecDepth 100000 in
theorem k_467 : (Jvm.Cond.code ({ cls := "WalkRanksModel", name := "isNode", desc := "(I)Z" } : Jvm.MethodName) prog_8_method_2_code (2 : Nat) (Option.some Jvm.ClassFile.FieldType.boolean)) ∈ aw_WS := aw_in (List.mem_of_getElem? (i := 490) rfl) rfl
set_option maxRecDepth 100000 in
theorem k_468 : (Jvm.Cond.methodLink "WalkRanksLaw" (27 : Nat) ({ cls := "WalkRanksModel", name := "jump", desc := "(II)I" } : Jvm.MethodName)) ∈ aw_WS := aw_in (List.mem_of_getElem? (i := 491) rfl) rfl
set_option maxRecDepth 100000 in
theorem k_469 : (Jvm.Cond.instanceMethod ({ cls := "WalkRanksModel", name := "jump", desc := "(II)I" } : Jvm.MethodName)) ∈ aw_WS := aw_in (List.mem_of_getElem? (i := 492) rfl) rfl
set_option maxRecDepth 100000 in
theorem k_470 : (Jvm.Cond.selects "WalkRanksModel" ({ cls := "WalkRanksModel", name := "jump", desc := "(II)I" } : Jvm.MethodName) ({ cls := "WalkRanksModel", name := "jump", desc := "(II)I" } : Jvm.MethodName)) ∈ aw_WS := aw_in (List.mem_of_getElem? (i := 493) rfl) rfl
set_option maxRecDepth 100000 in
theorem k_471 : (Jvm.Cond.code ({ cls := "WalkRanksModel", name := "jump", desc := "(II)I" } : Jvm.MethodName) prog_8_method_5_code (4 : Nat) (Option.some Jvm.ClassFile.FieldType.int)) ∈ aw_WS := aw_in (List.mem_of_getElem? (i := 494) rfl) rfl
set_option maxRecDepth 100000 in
theorem k_472 : (Jvm.Cond.methodLink "WalkRanksLaw" (31 : Nat) ({ cls := "WalkRanksModel", name := "keep", desc := "(II)I" } : Jvm.MethodName)) ∈ aw_WS := aw_in (List.mem_of_getElem? (i := 495) rfl) rfl
set_option maxRecDepth 100000 in
theorem k_473 : (Jvm.Cond.instanceMethod ({ cls := "WalkRanksModel", name := "keep", desc := "(II)I" } : Jvm.MethodName)) ∈ aw_WS := aw_in (List.mem_of_getElem? (i := 496) rfl) rfl
set_option maxRecDepth 100000 in
theorem k_474 : (Jvm.Cond.selects "WalkRanksModel" ({ cls := "WalkRanksModel", name := "keep", desc := "(II)I" } : Jvm.MethodName) ({ cls := "WalkRanksModel", name := "keep", desc := "(II)I" } : Jvm.MethodName)) ∈ aw_WS := aw_in (List.mem_of_getElem? (i := 497) rfl) rfl
set_option maxRecDepth 100000 in
theorem k_475 : (Jvm.Cond.code ({ cls := "WalkRanksModel", name := "keep", desc := "(II)I" } : Jvm.MethodName) prog_8_method_6_code (3 : Nat) (Option.some Jvm.ClassFile.FieldType.int)) ∈ aw_WS := aw_in (List.mem_of_getElem? (i := 498) rfl) rfl
set_option maxRecDepth 100000 in
theorem k_476 : (Jvm.Cond.methodLink "WalkRanksLaw" (35 : Nat) ({ cls := "WalkRanksModel", name := "clear", desc := "()I" } : Jvm.MethodName)) ∈ aw_WS := aw_in (List.mem_of_getElem? (i := 499) rfl) rfl
set_option maxRecDepth 100000 in
theorem k_477 : (Jvm.Cond.instanceMethod ({ cls := "WalkRanksModel", name := "clear", desc := "()I" } : Jvm.MethodName)) ∈ aw_WS := aw_in (List.mem_of_getElem? (i := 500) rfl) rfl
set_option maxRecDepth 100000 in
theorem k_478 : (Jvm.Cond.selects "WalkRanksModel" ({ cls := "WalkRanksModel", name := "clear", desc := "()I" } : Jvm.MethodName) ({ cls := "WalkRanksModel", name := "clear", desc := "()I" } : Jvm.MethodName)) ∈ aw_WS := aw_in (List.mem_of_getElem? (i := 501) rfl) rfl
set_option maxRecDepth 100000 in
theorem k_479 : (Jvm.Cond.code ({ cls := "WalkRanksModel", name := "clear", desc := "()I" } : Jvm.MethodName) prog_8_method_7_code (2 : Nat) (Option.some Jvm.ClassFile.FieldType.int)) ∈ aw_WS := aw_in (List.mem_of_getElem? (i := 502) rfl) rfl
set_option maxRecDepth 100000 in
theorem k_480 : (Jvm.Cond.methodLink "WalkRanksLaw" (39 : Nat) ({ cls := "WalkRanksModel", name := "row", desc := "(II)I" } : Jvm.MethodName)) ∈ aw_WS := aw_in (List.mem_of_getElem? (i := 503) rfl) rfl
set_option maxRecDepth 100000 in
theorem k_481 : (Jvm.Cond.instanceMethod ({ cls := "WalkRanksModel", name := "row", desc := "(II)I" } : Jvm.MethodName)) ∈ aw_WS := aw_in (List.mem_of_getElem? (i := 504) rfl) rfl
set_option maxRecDepth 100000 in
theorem k_482 : (Jvm.Cond.selects "WalkRanksModel" ({ cls := "WalkRanksModel", name := "row", desc := "(II)I" } : Jvm.MethodName) ({ cls := "WalkRanksModel", name := "row", desc := "(II)I" } : Jvm.MethodName)) ∈ aw_WS := aw_in (List.mem_of_getElem? (i := 505) rfl) rfl
set_option maxRecDepth 100000 in
theorem k_483 : (Jvm.Cond.code ({ cls := "WalkRanksModel", name := "row", desc := "(II)I" } : Jvm.MethodName) prog_8_method_11_code (3 : Nat) (Option.some Jvm.ClassFile.FieldType.int)) ∈ aw_WS := aw_in (List.mem_of_getElem? (i := 506) rfl) rfl
set_option maxRecDepth 100000 in
theorem k_484 : (Jvm.Cond.methodLink "WalkRanksModel" (59 : Nat) ({ cls := "WalkRanksModel", name := "findRows", desc := "()V" } : Jvm.MethodName)) ∈ aw_WS := aw_in (List.mem_of_getElem? (i := 507) rfl) rfl
set_option maxRecDepth 100000 in
theorem k_486 : (Jvm.Cond.instanceMethod ({ cls := "WalkRanksModel", name := "findRows", desc := "()V" } : Jvm.MethodName)) ∈ aw_WS := aw_in (List.mem_of_getElem? (i := 509) rfl) rfl
set_option maxRecDepth 100000 in
theorem k_487 : (Jvm.Cond.code ({ cls := "WalkRanksModel", name := "findRows", desc := "()V" } : Jvm.MethodName) prog_8_method_10_code (9 : Nat) (Option.none : Option Jvm.ClassFile.FieldType)) ∈ aw_WS := aw_in (List.mem_of_getElem? (i := 510) rfl) rfl
set_option maxRecDepth 100000 in
theorem k_488 : (Jvm.Cond.methodLink "WalkRanksModel" (55 : Nat) ({ cls := "WalkRanksModel", name := "common", desc := "(JJ)J" } : Jvm.MethodName)) ∈ aw_WS := aw_in (List.mem_of_getElem? (i := 511) rfl) rfl
set_option maxRecDepth 100000 in
theorem k_489 : (Jvm.Cond.static ({ cls := "WalkRanksModel", name := "common", desc := "(JJ)J" } : Jvm.MethodName)) ∈ aw_WS := aw_in (List.mem_of_getElem? (i := 512) rfl) rfl
set_option maxRecDepth 100000 in
theorem k_490 : (Jvm.Cond.code ({ cls := "WalkRanksModel", name := "common", desc := "(JJ)J" } : Jvm.MethodName) prog_8_method_8_code (10 : Nat) (Option.some Jvm.ClassFile.FieldType.long)) ∈ aw_WS := aw_in (List.mem_of_getElem? (i := 513) rfl) rfl
set_option maxRecDepth 100000 in
theorem k_491 : (Jvm.Cond.methodLink "WalkRanksLaw" (44 : Nat) ({ cls := "WalkRanksModel", name := "total", desc := "(I)I" } : Jvm.MethodName)) ∈ aw_WS := aw_in (List.mem_of_getElem? (i := 514) rfl) rfl
set_option maxRecDepth 100000 in
theorem k_492 : (Jvm.Cond.instanceMethod ({ cls := "WalkRanksModel", name := "total", desc := "(I)I" } : Jvm.MethodName)) ∈ aw_WS := aw_in (List.mem_of_getElem? (i := 515) rfl) rfl
set_option maxRecDepth 100000 in
theorem k_493 : (Jvm.Cond.selects "WalkRanksModel" ({ cls := "WalkRanksModel", name := "total", desc := "(I)I" } : Jvm.MethodName) ({ cls := "WalkRanksModel", name := "total", desc := "(I)I" } : Jvm.MethodName)) ∈ aw_WS := aw_in (List.mem_of_getElem? (i := 516) rfl) rfl
set_option maxRecDepth 100000 in
theorem k_494 : (Jvm.Cond.code ({ cls := "WalkRanksModel", name := "total", desc := "(I)I" } : Jvm.MethodName) prog_8_method_12_code (2 : Nat) (Option.some Jvm.ClassFile.FieldType.int)) ∈ aw_WS := aw_in (List.mem_of_getElem? (i := 517) rfl) rfl
set_option maxRecDepth 100000 in
theorem k_495 : (Jvm.Cond.methodLink "WalkRanksLaw" (48 : Nat) ({ cls := "WalkRanksModel", name := "closed", desc := "()I" } : Jvm.MethodName)) ∈ aw_WS := aw_in (List.mem_of_getElem? (i := 518) rfl) rfl
set_option maxRecDepth 100000 in
theorem k_496 : (Jvm.Cond.instanceMethod ({ cls := "WalkRanksModel", name := "closed", desc := "()I" } : Jvm.MethodName)) ∈ aw_WS := aw_in (List.mem_of_getElem? (i := 519) rfl) rfl
set_option maxRecDepth 100000 in
theorem k_497 : (Jvm.Cond.selects "WalkRanksModel" ({ cls := "WalkRanksModel", name := "closed", desc := "()I" } : Jvm.MethodName) ({ cls := "WalkRanksModel", name := "closed", desc := "()I" } : Jvm.MethodName)) ∈ aw_WS := aw_in (List.mem_of_getElem? (i := 520) rfl) rfl
set_option maxRecDepth 100000 in
theorem k_498 : (Jvm.Cond.code ({ cls := "WalkRanksModel", name := "closed", desc := "()I" } : Jvm.MethodName) prog_8_method_17_code (1 : Nat) (Option.some Jvm.ClassFile.FieldType.int)) ∈ aw_WS := aw_in (List.mem_of_getElem? (i := 521) rfl) rfl
set_option maxRecDepth 100000 in
theorem k_499 : (Jvm.Cond.methodLink "WalkRanksModel" (76 : Nat) ({ cls := "WalkRanksModel", name := "findSets", desc := "()V" } : Jvm.MethodName)) ∈ aw_WS := aw_in (List.mem_of_getElem? (i := 522) rfl) rfl
set_option maxRecDepth 100000 in
theorem k_501 : (Jvm.Cond.instanceMethod ({ cls := "WalkRanksModel", name := "findSets", desc := "()V" } : Jvm.MethodName)) ∈ aw_WS := aw_in (List.mem_of_getElem? (i := 524) rfl) rfl
set_option maxRecDepth 100000 in
theorem k_502 : (Jvm.Cond.code ({ cls := "WalkRanksModel", name := "findSets", desc := "()V" } : Jvm.MethodName) prog_8_method_16_code (4 : Nat) (Option.none : Option Jvm.ClassFile.FieldType)) ∈ aw_WS := aw_in (List.mem_of_getElem? (i := 525) rfl) rfl
set_option maxRecDepth 100000 in
theorem k_503 : (Jvm.Cond.methodLink "WalkRanksModel" (73 : Nat) ({ cls := "WalkRanksModel", name := "isClosed", desc := "(I)Z" } : Jvm.MethodName)) ∈ aw_WS := aw_in (List.mem_of_getElem? (i := 526) rfl) rfl
set_option maxRecDepth 100000 in
theorem k_505 : (Jvm.Cond.instanceMethod ({ cls := "WalkRanksModel", name := "isClosed", desc := "(I)Z" } : Jvm.MethodName)) ∈ aw_WS := aw_in (List.mem_of_getElem? (i := 528) rfl) rfl
set_option maxRecDepth 100000 in
theorem k_506 : (Jvm.Cond.code ({ cls := "WalkRanksModel", name := "isClosed", desc := "(I)Z" } : Jvm.MethodName) prog_8_method_15_code (5 : Nat) (Option.some Jvm.ClassFile.FieldType.boolean)) ∈ aw_WS := aw_in (List.mem_of_getElem? (i := 529) rfl) rfl
set_option maxRecDepth 100000 in
theorem k_507 : (Jvm.Cond.methodLink "WalkRanksModel" (62 : Nat) ({ cls := "WalkRanksModel", name := "reached", desc := "(II)I" } : Jvm.MethodName)) ∈ aw_WS := aw_in (List.mem_of_getElem? (i := 530) rfl) rfl
set_option maxRecDepth 100000 in
theorem k_509 : (Jvm.Cond.instanceMethod ({ cls := "WalkRanksModel", name := "reached", desc := "(II)I" } : Jvm.MethodName)) ∈ aw_WS := aw_in (List.mem_of_getElem? (i := 532) rfl) rfl
set_option maxRecDepth 100000 in
theorem k_510 : (Jvm.Cond.code ({ cls := "WalkRanksModel", name := "reached", desc := "(II)I" } : Jvm.MethodName) prog_8_method_13_code (7 : Nat) (Option.some Jvm.ClassFile.FieldType.int)) ∈ aw_WS := aw_in (List.mem_of_getElem? (i := 533) rfl) rfl
set_option maxRecDepth 100000 in
theorem k_511 : (Jvm.Cond.methodLink "WalkRanksModel" (66 : Nat) ({ cls := "WalkRanksModel", name := "leads", desc := "(II)Z" } : Jvm.MethodName)) ∈ aw_WS := aw_in (List.mem_of_getElem? (i := 534) rfl) rfl
set_option maxRecDepth 100000 in
theorem k_513 : (Jvm.Cond.instanceMethod ({ cls := "WalkRanksModel", name := "leads", desc := "(II)Z" } : Jvm.MethodName)) ∈ aw_WS := aw_in (List.mem_of_getElem? (i := 536) rfl) rfl
set_option maxRecDepth 100000 in
theorem k_514 : (Jvm.Cond.code ({ cls := "WalkRanksModel", name := "leads", desc := "(II)Z" } : Jvm.MethodName) prog_8_method_14_code (3 : Nat) (Option.some Jvm.ClassFile.FieldType.boolean)) ∈ aw_WS := aw_in (List.mem_of_getElem? (i := 537) rfl) rfl
set_option maxRecDepth 100000 in
theorem k_515 : (Jvm.Cond.methodLink "WalkRanksLaw" (52 : Nat) ({ cls := "WalkRanksModel", name := "closedOf", desc := "(I)I" } : Jvm.MethodName)) ∈ aw_WS := aw_in (List.mem_of_getElem? (i := 538) rfl) rfl
set_option maxRecDepth 100000 in
theorem k_516 : (Jvm.Cond.instanceMethod ({ cls := "WalkRanksModel", name := "closedOf", desc := "(I)I" } : Jvm.MethodName)) ∈ aw_WS := aw_in (List.mem_of_getElem? (i := 539) rfl) rfl
set_option maxRecDepth 100000 in
theorem k_517 : (Jvm.Cond.selects "WalkRanksModel" ({ cls := "WalkRanksModel", name := "closedOf", desc := "(I)I" } : Jvm.MethodName) ({ cls := "WalkRanksModel", name := "closedOf", desc := "(I)I" } : Jvm.MethodName)) ∈ aw_WS := aw_in (List.mem_of_getElem? (i := 540) rfl) rfl
set_option maxRecDepth 100000 in
theorem k_518 : (Jvm.Cond.code ({ cls := "WalkRanksModel", name := "closedOf", desc := "(I)I" } : Jvm.MethodName) prog_8_method_18_code (2 : Nat) (Option.some Jvm.ClassFile.FieldType.int)) ∈ aw_WS := aw_in (List.mem_of_getElem? (i := 541) rfl) rfl
set_option maxRecDepth 100000 in
theorem k_519 : (Jvm.Cond.methodLink "WalkRanksLaw" (56 : Nat) ({ cls := "WalkRanksModel", name := "period", desc := "(I)I" } : Jvm.MethodName)) ∈ aw_WS := aw_in (List.mem_of_getElem? (i := 542) rfl) rfl
set_option maxRecDepth 100000 in
theorem k_520 : (Jvm.Cond.instanceMethod ({ cls := "WalkRanksModel", name := "period", desc := "(I)I" } : Jvm.MethodName)) ∈ aw_WS := aw_in (List.mem_of_getElem? (i := 543) rfl) rfl
set_option maxRecDepth 100000 in
theorem k_521 : (Jvm.Cond.selects "WalkRanksModel" ({ cls := "WalkRanksModel", name := "period", desc := "(I)I" } : Jvm.MethodName) ({ cls := "WalkRanksModel", name := "period", desc := "(I)I" } : Jvm.MethodName)) ∈ aw_WS := aw_in (List.mem_of_getElem? (i := 544) rfl) rfl
set_option maxRecDepth 100000 in
theorem k_522 : (Jvm.Cond.code ({ cls := "WalkRanksModel", name := "period", desc := "(I)I" } : Jvm.MethodName) prog_8_method_19_code (10 : Nat) (Option.some Jvm.ClassFile.FieldType.int)) ∈ aw_WS := aw_in (List.mem_of_getElem? (i := 545) rfl) rfl
set_option maxRecDepth 100000 in
theorem k_523 : (Jvm.Cond.methodLink "WalkRanksLaw" (61 : Nat) ({ cls := "WalkRanksModel", name := "rank", desc := "(II)J" } : Jvm.MethodName)) ∈ aw_WS := aw_in (List.mem_of_getElem? (i := 546) rfl) rfl
set_option maxRecDepth 100000 in
theorem k_524 : (Jvm.Cond.instanceMethod ({ cls := "WalkRanksModel", name := "rank", desc := "(II)J" } : Jvm.MethodName)) ∈ aw_WS := aw_in (List.mem_of_getElem? (i := 547) rfl) rfl
set_option maxRecDepth 100000 in
theorem k_525 : (Jvm.Cond.selects "WalkRanksModel" ({ cls := "WalkRanksModel", name := "rank", desc := "(II)J" } : Jvm.MethodName) ({ cls := "WalkRanksModel", name := "rank", desc := "(II)J" } : Jvm.MethodName)) ∈ aw_WS := aw_in (List.mem_of_getElem? (i := 548) rfl) rfl
set_option maxRecDepth 100000 in
theorem k_526 : (Jvm.Cond.code ({ cls := "WalkRanksModel", name := "rank", desc := "(II)J" } : Jvm.MethodName) prog_8_method_25_code (3 : Nat) (Option.some Jvm.ClassFile.FieldType.long)) ∈ aw_WS := aw_in (List.mem_of_getElem? (i := 549) rfl) rfl
set_option maxRecDepth 100000 in
theorem k_527 : (Jvm.Cond.constantLong "WalkRanksModel" (96 : Nat) (-1 : Int64)) ∈ aw_WS := aw_in (List.mem_of_getElem? (i := 550) rfl) rfl
set_option maxRecDepth 100000 in
theorem k_528 : (Jvm.Cond.methodLink "WalkRanksModel" (98 : Nat) ({ cls := "WalkRanksModel", name := "isPart", desc := "(I)Z" } : Jvm.MethodName)) ∈ aw_WS := aw_in (List.mem_of_getElem? (i := 551) rfl) rfl
set_option maxRecDepth 100000 in
theorem k_529 : (Jvm.Cond.static ({ cls := "WalkRanksModel", name := "isPart", desc := "(I)Z" } : Jvm.MethodName)) ∈ aw_WS := aw_in (List.mem_of_getElem? (i := 552) rfl) rfl
set_option maxRecDepth 100000 in
theorem k_530 : (Jvm.Cond.code ({ cls := "WalkRanksModel", name := "isPart", desc := "(I)Z" } : Jvm.MethodName) prog_8_method_24_code (1 : Nat) (Option.some Jvm.ClassFile.FieldType.boolean)) ∈ aw_WS := aw_in (List.mem_of_getElem? (i := 553) rfl) rfl
set_option maxRecDepth 100000 in
theorem k_531 : (Jvm.Cond.constantLong "WalkRanksModel" (101 : Nat) (-2 : Int64)) ∈ aw_WS := aw_in (List.mem_of_getElem? (i := 554) rfl) rfl
set_option maxRecDepth 100000 in
theorem k_532 : (Jvm.Cond.constantLong "WalkRanksModel" (103 : Nat) (-3 : Int64)) ∈ aw_WS := aw_in (List.mem_of_getElem? (i := 555) rfl) rfl
set_option maxRecDepth 100000 in
theorem k_533 : (Jvm.Cond.methodLink "WalkRanksModel" (105 : Nat) ({ cls := "WalkRanksModel", name := "findShares", desc := "(I)V" } : Jvm.MethodName)) ∈ aw_WS := aw_in (List.mem_of_getElem? (i := 556) rfl) rfl
set_option maxRecDepth 100000 in
theorem k_535 : (Jvm.Cond.instanceMethod ({ cls := "WalkRanksModel", name := "findShares", desc := "(I)V" } : Jvm.MethodName)) ∈ aw_WS := aw_in (List.mem_of_getElem? (i := 558) rfl) rfl
set_option maxRecDepth 100000 in
theorem k_536 : (Jvm.Cond.code ({ cls := "WalkRanksModel", name := "findShares", desc := "(I)V" } : Jvm.MethodName) prog_8_method_23_code (3 : Nat) (Option.none : Option Jvm.ClassFile.FieldType)) ∈ aw_WS := aw_in (List.mem_of_getElem? (i := 559) rfl) rfl
set_option maxRecDepth 100000 in
theorem k_537 : (Jvm.Cond.methodLink "WalkRanksModel" (92 : Nat) ({ cls := "WalkRanksModel", name := "count", desc := "(IIII)V" } : Jvm.MethodName)) ∈ aw_WS := aw_in (List.mem_of_getElem? (i := 560) rfl) rfl
set_option maxRecDepth 100000 in
theorem k_539 : (Jvm.Cond.instanceMethod ({ cls := "WalkRanksModel", name := "count", desc := "(IIII)V" } : Jvm.MethodName)) ∈ aw_WS := aw_in (List.mem_of_getElem? (i := 562) rfl) rfl
set_option maxRecDepth 100000 in
theorem k_540 : (Jvm.Cond.code ({ cls := "WalkRanksModel", name := "count", desc := "(IIII)V" } : Jvm.MethodName) prog_8_method_21_code (12 : Nat) (Option.none : Option Jvm.ClassFile.FieldType)) ∈ aw_WS := aw_in (List.mem_of_getElem? (i := 563) rfl) rfl
set_option maxRecDepth 100000 in
theorem k_541 : (Jvm.Cond.methodLink "WalkRanksModel" (86 : Nat) ({ cls := "WalkRanksModel", name := "rootOf", desc := "(II)I" } : Jvm.MethodName)) ∈ aw_WS := aw_in (List.mem_of_getElem? (i := 564) rfl) rfl
set_option maxRecDepth 100000 in
theorem k_543 : (Jvm.Cond.instanceMethod ({ cls := "WalkRanksModel", name := "rootOf", desc := "(II)I" } : Jvm.MethodName)) ∈ aw_WS := aw_in (List.mem_of_getElem? (i := 566) rfl) rfl
set_option maxRecDepth 100000 in
theorem k_544 : (Jvm.Cond.code ({ cls := "WalkRanksModel", name := "rootOf", desc := "(II)I" } : Jvm.MethodName) prog_8_method_20_code (5 : Nat) (Option.some Jvm.ClassFile.FieldType.int)) ∈ aw_WS := aw_in (List.mem_of_getElem? (i := 567) rfl) rfl
set_option maxRecDepth 100000 in
theorem k_545 : (Jvm.Cond.methodLink "WalkRanksModel" (109 : Nat) ({ cls := "WalkRanksModel", name := "lowest", desc := "(JJI)J" } : Jvm.MethodName)) ∈ aw_WS := aw_in (List.mem_of_getElem? (i := 568) rfl) rfl
set_option maxRecDepth 100000 in
theorem k_546 : (Jvm.Cond.static ({ cls := "WalkRanksModel", name := "lowest", desc := "(JJI)J" } : Jvm.MethodName)) ∈ aw_WS := aw_in (List.mem_of_getElem? (i := 569) rfl) rfl
set_option maxRecDepth 100000 in
theorem k_547 : (Jvm.Cond.code ({ cls := "WalkRanksModel", name := "lowest", desc := "(JJI)J" } : Jvm.MethodName) prog_8_method_9_code (7 : Nat) (Option.some Jvm.ClassFile.FieldType.long)) ∈ aw_WS := aw_in (List.mem_of_getElem? (i := 570) rfl) rfl
set_option maxRecDepth 100000 in
theorem k_548 : (Jvm.Cond.methodLink "WalkRanksLaw" (65 : Nat) ({ cls := "WalkRanksModel", name := "place", desc := "(I)I" } : Jvm.MethodName)) ∈ aw_WS := aw_in (List.mem_of_getElem? (i := 571) rfl) rfl
set_option maxRecDepth 100000 in
theorem k_549 : (Jvm.Cond.instanceMethod ({ cls := "WalkRanksModel", name := "place", desc := "(I)I" } : Jvm.MethodName)) ∈ aw_WS := aw_in (List.mem_of_getElem? (i := 572) rfl) rfl
set_option maxRecDepth 100000 in
theorem k_550 : (Jvm.Cond.selects "WalkRanksModel" ({ cls := "WalkRanksModel", name := "place", desc := "(I)I" } : Jvm.MethodName) ({ cls := "WalkRanksModel", name := "place", desc := "(I)I" } : Jvm.MethodName)) ∈ aw_WS := aw_in (List.mem_of_getElem? (i := 573) rfl) rfl
set_option maxRecDepth 100000 in
theorem k_551 : (Jvm.Cond.code ({ cls := "WalkRanksModel", name := "place", desc := "(I)I" } : Jvm.MethodName) prog_8_method_26_code (5 : Nat) (Option.some Jvm.ClassFile.FieldType.int)) ∈ aw_WS := aw_in (List.mem_of_getElem? (i := 574) rfl) rfl
set_option maxRecDepth 100000 in
theorem k_552 : (Jvm.Cond.methodLink "WalkRanksLaw" (70 : Nat) ({ cls := "WalkRanksModel", name := "reach", desc := "(III)J" } : Jvm.MethodName)) ∈ aw_WS := aw_in (List.mem_of_getElem? (i := 575) rfl) rfl
set_option maxRecDepth 100000 in
theorem k_553 : (Jvm.Cond.instanceMethod ({ cls := "WalkRanksModel", name := "reach", desc := "(III)J" } : Jvm.MethodName)) ∈ aw_WS := aw_in (List.mem_of_getElem? (i := 576) rfl) rfl
set_option maxRecDepth 100000 in
theorem k_554 : (Jvm.Cond.selects "WalkRanksModel" ({ cls := "WalkRanksModel", name := "reach", desc := "(III)J" } : Jvm.MethodName) ({ cls := "WalkRanksModel", name := "reach", desc := "(III)J" } : Jvm.MethodName)) ∈ aw_WS := aw_in (List.mem_of_getElem? (i := 577) rfl) rfl
set_option maxRecDepth 100000 in
theorem k_555 : (Jvm.Cond.code ({ cls := "WalkRanksModel", name := "reach", desc := "(III)J" } : Jvm.MethodName) prog_8_method_27_code (6 : Nat) (Option.some Jvm.ClassFile.FieldType.long)) ∈ aw_WS := aw_in (List.mem_of_getElem? (i := 578) rfl) rfl
set_option maxRecDepth 100000 in
theorem k_556 : (Jvm.Cond.methodLink "WalkRanksModel" (113 : Nat) ({ cls := "WalkRanksModel", name := "all", desc := "()I" } : Jvm.MethodName)) ∈ aw_WS := aw_in (List.mem_of_getElem? (i := 579) rfl) rfl
set_option maxRecDepth 100000 in
theorem k_558 : (Jvm.Cond.instanceMethod ({ cls := "WalkRanksModel", name := "all", desc := "()I" } : Jvm.MethodName)) ∈ aw_WS := aw_in (List.mem_of_getElem? (i := 581) rfl) rfl
set_option maxRecDepth 100000 in
theorem k_559 : (Jvm.Cond.code ({ cls := "WalkRanksModel", name := "all", desc := "()I" } : Jvm.MethodName) prog_8_method_22_code (1 : Nat) (Option.some Jvm.ClassFile.FieldType.int)) ∈ aw_WS := aw_in (List.mem_of_getElem? (i := 582) rfl) rfl
set_option maxRecDepth 100000 in
theorem k_560 : (Jvm.Cond.methodLink "WalkRanksLaw" (74 : Nat) ({ cls := "WalkRanksModel", name := "hit", desc := "(III)J" } : Jvm.MethodName)) ∈ aw_WS := aw_in (List.mem_of_getElem? (i := 583) rfl) rfl
set_option maxRecDepth 100000 in
theorem k_561 : (Jvm.Cond.instanceMethod ({ cls := "WalkRanksModel", name := "hit", desc := "(III)J" } : Jvm.MethodName)) ∈ aw_WS := aw_in (List.mem_of_getElem? (i := 584) rfl) rfl
set_option maxRecDepth 100000 in
theorem k_562 : (Jvm.Cond.selects "WalkRanksModel" ({ cls := "WalkRanksModel", name := "hit", desc := "(III)J" } : Jvm.MethodName) ({ cls := "WalkRanksModel", name := "hit", desc := "(III)J" } : Jvm.MethodName)) ∈ aw_WS := aw_in (List.mem_of_getElem? (i := 585) rfl) rfl
set_option maxRecDepth 100000 in
theorem k_563 : (Jvm.Cond.code ({ cls := "WalkRanksModel", name := "hit", desc := "(III)J" } : Jvm.MethodName) prog_8_method_28_code (9 : Nat) (Option.some Jvm.ClassFile.FieldType.long)) ∈ aw_WS := aw_in (List.mem_of_getElem? (i := 586) rfl) rfl
set_option maxRecDepth 100000 in
theorem k_564 : (Jvm.Cond.methodLink "WalkRanksLaw" (78 : Nat) ({ cls := "WalkRanksModel", name := "back", desc := "(II)J" } : Jvm.MethodName)) ∈ aw_WS := aw_in (List.mem_of_getElem? (i := 587) rfl) rfl
set_option maxRecDepth 100000 in
theorem k_565 : (Jvm.Cond.instanceMethod ({ cls := "WalkRanksModel", name := "back", desc := "(II)J" } : Jvm.MethodName)) ∈ aw_WS := aw_in (List.mem_of_getElem? (i := 588) rfl) rfl
set_option maxRecDepth 100000 in
theorem k_566 : (Jvm.Cond.selects "WalkRanksModel" ({ cls := "WalkRanksModel", name := "back", desc := "(II)J" } : Jvm.MethodName) ({ cls := "WalkRanksModel", name := "back", desc := "(II)J" } : Jvm.MethodName)) ∈ aw_WS := aw_in (List.mem_of_getElem? (i := 589) rfl) rfl
set_option maxRecDepth 100000 in
theorem k_567 : (Jvm.Cond.code ({ cls := "WalkRanksModel", name := "back", desc := "(II)J" } : Jvm.MethodName) prog_8_method_29_code (3 : Nat) (Option.some Jvm.ClassFile.FieldType.long)) ∈ aw_WS := aw_in (List.mem_of_getElem? (i := 590) rfl) rfl
set_option maxRecDepth 100000 in
theorem k_568 : (Jvm.Cond.methodLink "WalkRanksLaw" (82 : Nat) ({ cls := "WalkRanksModel", name := "end", desc := "(III)J" } : Jvm.MethodName)) ∈ aw_WS := aw_in (List.mem_of_getElem? (i := 591) rfl) rfl
set_option maxRecDepth 100000 in
theorem k_569 : (Jvm.Cond.instanceMethod ({ cls := "WalkRanksModel", name := "end", desc := "(III)J" } : Jvm.MethodName)) ∈ aw_WS := aw_in (List.mem_of_getElem? (i := 592) rfl) rfl
set_option maxRecDepth 100000 in
theorem k_570 : (Jvm.Cond.selects "WalkRanksModel" ({ cls := "WalkRanksModel", name := "end", desc := "(III)J" } : Jvm.MethodName) ({ cls := "WalkRanksModel", name := "end", desc := "(III)J" } : Jvm.MethodName)) ∈ aw_WS := aw_in (List.mem_of_getElem? (i := 593) rfl) rfl
set_option maxRecDepth 100000 in
theorem k_571 : (Jvm.Cond.code ({ cls := "WalkRanksModel", name := "end", desc := "(III)J" } : Jvm.MethodName) prog_8_method_30_code (6 : Nat) (Option.some Jvm.ClassFile.FieldType.long)) ∈ aw_WS := aw_in (List.mem_of_getElem? (i := 594) rfl) rfl
set_option maxRecDepth 100000 in
theorem k_572 : (Jvm.Cond.methodLink "WalkRanksLaw" (87 : Nat) ({ cls := "WalkRanksModel", name := "after", desc := "(IIII)J" } : Jvm.MethodName)) ∈ aw_WS := aw_in (List.mem_of_getElem? (i := 595) rfl) rfl
set_option maxRecDepth 100000 in
theorem k_573 : (Jvm.Cond.instanceMethod ({ cls := "WalkRanksModel", name := "after", desc := "(IIII)J" } : Jvm.MethodName)) ∈ aw_WS := aw_in (List.mem_of_getElem? (i := 596) rfl) rfl
set_option maxRecDepth 100000 in
theorem k_574 : (Jvm.Cond.selects "WalkRanksModel" ({ cls := "WalkRanksModel", name := "after", desc := "(IIII)J" } : Jvm.MethodName) ({ cls := "WalkRanksModel", name := "after", desc := "(IIII)J" } : Jvm.MethodName)) ∈ aw_WS := aw_in (List.mem_of_getElem? (i := 597) rfl) rfl
set_option maxRecDepth 100000 in
theorem k_575 : (Jvm.Cond.code ({ cls := "WalkRanksModel", name := "after", desc := "(IIII)J" } : Jvm.MethodName) prog_8_method_31_code (12 : Nat) (Option.some Jvm.ClassFile.FieldType.long)) ∈ aw_WS := aw_in (List.mem_of_getElem? (i := 598) rfl) rfl
set_option maxRecDepth 100000 in
theorem k_576 : (Jvm.Cond.methodLink "WalkRanksLaw" (91 : Nat) ({ cls := "WalkRanksModel", name := "walks", desc := "(III)J" } : Jvm.MethodName)) ∈ aw_WS := aw_in (List.mem_of_getElem? (i := 599) rfl) rfl
set_option maxRecDepth 100000 in
theorem k_577 : (Jvm.Cond.instanceMethod ({ cls := "WalkRanksModel", name := "walks", desc := "(III)J" } : Jvm.MethodName)) ∈ aw_WS := aw_in (List.mem_of_getElem? (i := 600) rfl) rfl
set_option maxRecDepth 100000 in
theorem k_578 : (Jvm.Cond.selects "WalkRanksModel" ({ cls := "WalkRanksModel", name := "walks", desc := "(III)J" } : Jvm.MethodName) ({ cls := "WalkRanksModel", name := "walks", desc := "(III)J" } : Jvm.MethodName)) ∈ aw_WS := aw_in (List.mem_of_getElem? (i := 601) rfl) rfl
set_option maxRecDepth 100000 in
theorem k_579 : (Jvm.Cond.code ({ cls := "WalkRanksModel", name := "walks", desc := "(III)J" } : Jvm.MethodName) prog_8_method_32_code (7 : Nat) (Option.some Jvm.ClassFile.FieldType.long)) ∈ aw_WS := aw_in (List.mem_of_getElem? (i := 602) rfl) rfl
set_option maxRecDepth 100000 in
theorem k_580 : (Jvm.Cond.methodLink "WalkRanksLaw" (95 : Nat) ({ cls := "WalkRanksModel", name := "drawn", desc := "(III)I" } : Jvm.MethodName)) ∈ aw_WS := aw_in (List.mem_of_getElem? (i := 603) rfl) rfl
set_option maxRecDepth 100000 in
theorem k_581 : (Jvm.Cond.instanceMethod ({ cls := "WalkRanksModel", name := "drawn", desc := "(III)I" } : Jvm.MethodName)) ∈ aw_WS := aw_in (List.mem_of_getElem? (i := 604) rfl) rfl
set_option maxRecDepth 100000 in
theorem k_582 : (Jvm.Cond.selects "WalkRanksModel" ({ cls := "WalkRanksModel", name := "drawn", desc := "(III)I" } : Jvm.MethodName) ({ cls := "WalkRanksModel", name := "drawn", desc := "(III)I" } : Jvm.MethodName)) ∈ aw_WS := aw_in (List.mem_of_getElem? (i := 605) rfl) rfl
set_option maxRecDepth 100000 in
theorem k_583 : (Jvm.Cond.code ({ cls := "WalkRanksModel", name := "drawn", desc := "(III)I" } : Jvm.MethodName) prog_8_method_33_code (9 : Nat) (Option.some Jvm.ClassFile.FieldType.int)) ∈ aw_WS := aw_in (List.mem_of_getElem? (i := 606) rfl) rfl
set_option maxRecDepth 100000 in
theorem k_584 : (Jvm.Cond.constant "WalkRanksModel" (117 : Nat) (1664525 : Int32)) ∈ aw_WS := aw_in (List.mem_of_getElem? (i := 607) rfl) rfl
set_option maxRecDepth 100000 in
theorem k_585 : (Jvm.Cond.constant "WalkRanksModel" (118 : Nat) (1013904223 : Int32)) ∈ aw_WS := aw_in (List.mem_of_getElem? (i := 608) rfl) rfl
end
section
-- selects of the private methods; classes; cards
theorem ks_W_renew : Cond.selects "WalkRanks" ⟨"WalkRanks", "renew", "()V"⟩ ⟨"WalkRanks", "renew", "()V"⟩ ∈ aw_WS := aw_in (List.mem_of_getElem? (i := 0) rfl) rfl
theorem ks_S_fillParts : Cond.selects "WalkRanks$Steps" ⟨"WalkRanks$Steps", "fillParts", "(LWalkRanks$Graph;II)V"⟩ ⟨"WalkRanks$Steps", "fillParts", "(LWalkRanks$Graph;II)V"⟩ ∈ aw_WS := aw_in (List.mem_of_getElem? (i := 1) rfl) rfl
theorem ks_S_lowerParts : Cond.selects "WalkRanks$Steps" ⟨"WalkRanks$Steps", "lowerParts", "(I)V"⟩ ⟨"WalkRanks$Steps", "lowerParts", "(I)V"⟩ ∈ aw_WS := aw_in (List.mem_of_getElem? (i := 2) rfl) rfl
theorem ks_S_sumUp : Cond.selects "WalkRanks$Steps" ⟨"WalkRanks$Steps", "sumUp", "(I)V"⟩ ⟨"WalkRanks$Steps", "sumUp", "(I)V"⟩ ∈ aw_WS := aw_in (List.mem_of_getElem? (i := 3) rfl) rfl
theorem ks_S_nextOf : Cond.selects "WalkRanks$Steps" ⟨"WalkRanks$Steps", "nextOf", "(I)I"⟩ ⟨"WalkRanks$Steps", "nextOf", "(I)I"⟩ ∈ aw_WS := aw_in (List.mem_of_getElem? (i := 4) rfl) rfl
theorem ks_C_isClosedFrom : Cond.selects "WalkRanks$ClosedSets" ⟨"WalkRanks$ClosedSets", "isClosedFrom", "(I)Z"⟩ ⟨"WalkRanks$ClosedSets", "isClosedFrom", "(I)Z"⟩ ∈ aw_WS := aw_in (List.mem_of_getElem? (i := 5) rfl) rfl
theorem ks_C_addSet : Cond.selects "WalkRanks$ClosedSets" ⟨"WalkRanks$ClosedSets", "addSet", "(I)V"⟩ ⟨"WalkRanks$ClosedSets", "addSet", "(I)V"⟩ ∈ aw_WS := aw_in (List.mem_of_getElem? (i := 6) rfl) rfl
theorem ks_W_isNode : Cond.selects "WalkRanks" ⟨"WalkRanks", "isNode", "(I)Z"⟩ ⟨"WalkRanks", "isNode", "(I)Z"⟩ ∈ aw_WS := aw_in (List.mem_of_getElem? (i := 7) rfl) rfl
theorem ks_W_isSet : Cond.selects "WalkRanks" ⟨"WalkRanks", "isSet", "(I)Z"⟩ ⟨"WalkRanks", "isSet", "(I)Z"⟩ ∈ aw_WS := aw_in (List.mem_of_getElem? (i := 8) rfl) rfl
theorem ks_W_fillShares : Cond.selects "WalkRanks" ⟨"WalkRanks", "fillShares", "(I)J"⟩ ⟨"WalkRanks", "fillShares", "(I)J"⟩ ∈ aw_WS := aw_in (List.mem_of_getElem? (i := 9) rfl) rfl
theorem ks_W_nodesAhead : Cond.selects "WalkRanks" ⟨"WalkRanks", "nodesAhead", "(I)I"⟩ ⟨"WalkRanks", "nodesAhead", "(I)I"⟩ ∈ aw_WS := aw_in (List.mem_of_getElem? (i := 10) rfl) rfl
theorem ks_W_chanceToCome : Cond.selects "WalkRanks" ⟨"WalkRanks", "chanceToCome", "(III)J"⟩ ⟨"WalkRanks", "chanceToCome", "(III)J"⟩ ∈ aw_WS := aw_in (List.mem_of_getElem? (i := 11) rfl) rfl
theorem ks_P_move : Cond.selects "WalkRanks$Spread" ⟨"WalkRanks$Spread", "move", "()V"⟩ ⟨"WalkRanks$Spread", "move", "()V"⟩ ∈ aw_WS := aw_in (List.mem_of_getElem? (i := 12) rfl) rfl
theorem ks_M_isNode : Cond.selects "WalkRanksModel" ⟨"WalkRanksModel", "isNode", "(I)Z"⟩ ⟨"WalkRanksModel", "isNode", "(I)Z"⟩ ∈ aw_WS := aw_in (List.mem_of_getElem? (i := 13) rfl) rfl
theorem ks_M_findRows : Cond.selects "WalkRanksModel" ⟨"WalkRanksModel", "findRows", "()V"⟩ ⟨"WalkRanksModel", "findRows", "()V"⟩ ∈ aw_WS := aw_in (List.mem_of_getElem? (i := 14) rfl) rfl
theorem ks_M_findSets : Cond.selects "WalkRanksModel" ⟨"WalkRanksModel", "findSets", "()V"⟩ ⟨"WalkRanksModel", "findSets", "()V"⟩ ∈ aw_WS := aw_in (List.mem_of_getElem? (i := 15) rfl) rfl
theorem ks_M_isClosed : Cond.selects "WalkRanksModel" ⟨"WalkRanksModel", "isClosed", "(I)Z"⟩ ⟨"WalkRanksModel", "isClosed", "(I)Z"⟩ ∈ aw_WS := aw_in (List.mem_of_getElem? (i := 16) rfl) rfl
theorem ks_M_reached : Cond.selects "WalkRanksModel" ⟨"WalkRanksModel", "reached", "(II)I"⟩ ⟨"WalkRanksModel", "reached", "(II)I"⟩ ∈ aw_WS := aw_in (List.mem_of_getElem? (i := 17) rfl) rfl
theorem ks_M_leads : Cond.selects "WalkRanksModel" ⟨"WalkRanksModel", "leads", "(II)Z"⟩ ⟨"WalkRanksModel", "leads", "(II)Z"⟩ ∈ aw_WS := aw_in (List.mem_of_getElem? (i := 18) rfl) rfl
theorem ks_M_findShares : Cond.selects "WalkRanksModel" ⟨"WalkRanksModel", "findShares", "(I)V"⟩ ⟨"WalkRanksModel", "findShares", "(I)V"⟩ ∈ aw_WS := aw_in (List.mem_of_getElem? (i := 19) rfl) rfl
theorem ks_M_count : Cond.selects "WalkRanksModel" ⟨"WalkRanksModel", "count", "(IIII)V"⟩ ⟨"WalkRanksModel", "count", "(IIII)V"⟩ ∈ aw_WS := aw_in (List.mem_of_getElem? (i := 20) rfl) rfl
theorem ks_M_rootOf : Cond.selects "WalkRanksModel" ⟨"WalkRanksModel", "rootOf", "(II)I"⟩ ⟨"WalkRanksModel", "rootOf", "(II)I"⟩ ∈ aw_WS := aw_in (List.mem_of_getElem? (i := 21) rfl) rfl
theorem ks_M_all : Cond.selects "WalkRanksModel" ⟨"WalkRanksModel", "all", "()I"⟩ ⟨"WalkRanksModel", "all", "()I"⟩ ∈ aw_WS := aw_in (List.mem_of_getElem? (i := 22) rfl) rfl
theorem ks_W_node : Cond.selects "WalkRanks" y_W_node y_W_node ∈ aw_WS := k_168
theorem ks_G_addNode : Cond.selects "WalkRanks$Graph" y_G_addNode y_G_addNode ∈ aw_WS := k_172
theorem ks_S_renew : Cond.selects "WalkRanks$Steps" y_S_renew y_S_renew ∈ aw_WS := k_180
theorem ks_G_allJumps : Cond.selects "WalkRanks$Graph" y_G_allJumps y_G_allJumps ∈ aw_WS := k_184
theorem ks_G_outOf : Cond.selects "WalkRanks$Graph" y_G_outOf y_G_outOf ∈ aw_WS := k_192
theorem ks_C_renew : Cond.selects "WalkRanks$ClosedSets" y_C_renew y_C_renew ∈ aw_WS := k_210
theorem ks_S_nodesBehind : Cond.selects "WalkRanks$Steps" y_S_nodesBehind y_S_nodesBehind ∈ aw_WS := k_214
theorem ks_C_leadingTo : Cond.selects "WalkRanks$ClosedSets" y_C_leadingTo y_C_leadingTo ∈ aw_WS := k_231
theorem ks_W_weight : Cond.selects "WalkRanks" y_W_weight y_W_weight ∈ aw_WS := k_240
theorem ks_W_jump : Cond.selects "WalkRanks" y_W_jump y_W_jump ∈ aw_WS := k_248
theorem ks_W_keep : Cond.selects "WalkRanks" y_W_keep y_W_keep ∈ aw_WS := k_252
theorem ks_W_clear : Cond.selects "WalkRanks" y_W_clear y_W_clear ∈ aw_WS := k_256
theorem ks_W_row : Cond.selects "WalkRanks" y_W_row y_W_row ∈ aw_WS := k_260
theorem ks_W_total : Cond.selects "WalkRanks" y_W_total y_W_total ∈ aw_WS := k_264
theorem ks_W_closed : Cond.selects "WalkRanks" y_W_closed y_W_closed ∈ aw_WS := k_268
theorem ks_W_closedOf : Cond.selects "WalkRanks" y_W_closedOf y_W_closedOf ∈ aw_WS := k_272
theorem ks_W_period : Cond.selects "WalkRanks" y_W_period y_W_period ∈ aw_WS := k_276
theorem ks_S_periodAt : Cond.selects "WalkRanks$Steps" y_S_periodAt y_S_periodAt ∈ aw_WS := k_284
theorem ks_W_rank : Cond.selects "WalkRanks" y_W_rank y_W_rank ∈ aw_WS := k_288
theorem ks_E_fill : Cond.selects "WalkRanks$Equations" y_E_fill y_E_fill ∈ aw_WS := k_303
theorem ks_E_determinant : Cond.selects "WalkRanks$Equations" y_E_determinant y_E_determinant ∈ aw_WS := k_308
theorem ks_W_place : Cond.selects "WalkRanks" y_W_place y_W_place ∈ aw_WS := k_320
theorem ks_W_reach : Cond.selects "WalkRanks" y_W_reach y_W_reach ∈ aw_WS := k_328
theorem ks_E_putChances : Cond.selects "WalkRanks$Equations" y_E_putChances y_E_putChances ∈ aw_WS := k_337
theorem ks_W_hit : Cond.selects "WalkRanks" y_W_hit y_W_hit ∈ aw_WS := k_341
theorem ks_E_putStepCounts : Cond.selects "WalkRanks$Equations" y_E_putStepCounts y_E_putStepCounts ∈ aw_WS := k_346
theorem ks_W_back : Cond.selects "WalkRanks" y_W_back y_W_back ∈ aw_WS := k_350
theorem ks_W_end : Cond.selects "WalkRanks" y_W_end y_W_end ∈ aw_WS := k_354
theorem ks_W_after : Cond.selects "WalkRanks" y_W_after y_W_after ∈ aw_WS := k_358
theorem ks_S_commonTotal : Cond.selects "WalkRanks$Steps" y_S_commonTotal y_S_commonTotal ∈ aw_WS := k_362
theorem ks_P_fillBySteps : Cond.selects "WalkRanks$Spread" y_P_fillBySteps y_P_fillBySteps ∈ aw_WS := k_366
theorem ks_P_run : Cond.selects "WalkRanks$Spread" y_P_run y_P_run ∈ aw_WS := k_370
theorem ks_P_numberAt : Cond.selects "WalkRanks$Spread" y_P_numberAt y_P_numberAt ∈ aw_WS := k_378
theorem ks_W_walks : Cond.selects "WalkRanks" y_W_walks y_W_walks ∈ aw_WS := k_382
theorem ks_P_fillByWeights : Cond.selects "WalkRanks$Spread" y_P_fillByWeights y_P_fillByWeights ∈ aw_WS := k_386
theorem ks_W_drawn : Cond.selects "WalkRanks" y_W_drawn y_W_drawn ∈ aw_WS := k_390
theorem ks_S_nextNode : Cond.selects "WalkRanks$Steps" y_S_nextNode y_S_nextNode ∈ aw_WS := k_396
theorem ks_M_node : Cond.selects "WalkRanksModel" y_M_node y_M_node ∈ aw_WS := k_458
theorem ks_M_weight : Cond.selects "WalkRanksModel" y_M_weight y_M_weight ∈ aw_WS := k_462
theorem ks_M_jump : Cond.selects "WalkRanksModel" y_M_jump y_M_jump ∈ aw_WS := k_470
theorem ks_M_keep : Cond.selects "WalkRanksModel" y_M_keep y_M_keep ∈ aw_WS := k_474
theorem ks_M_clear : Cond.selects "WalkRanksModel" y_M_clear y_M_clear ∈ aw_WS := k_478
theorem ks_M_row : Cond.selects "WalkRanksModel" y_M_row y_M_row ∈ aw_WS := k_482
theorem ks_M_total : Cond.selects "WalkRanksModel" y_M_total y_M_total ∈ aw_WS := k_493
theorem ks_M_closed : Cond.selects "WalkRanksModel" y_M_closed y_M_closed ∈ aw_WS := k_497
theorem ks_M_closedOf : Cond.selects "WalkRanksModel" y_M_closedOf y_M_closedOf ∈ aw_WS := k_517
theorem ks_M_period : Cond.selects "WalkRanksModel" y_M_period y_M_period ∈ aw_WS := k_521
theorem ks_M_rank : Cond.selects "WalkRanksModel" y_M_rank y_M_rank ∈ aw_WS := k_525
theorem ks_M_place : Cond.selects "WalkRanksModel" y_M_place y_M_place ∈ aw_WS := k_550
theorem ks_M_reach : Cond.selects "WalkRanksModel" y_M_reach y_M_reach ∈ aw_WS := k_554
theorem ks_M_hit : Cond.selects "WalkRanksModel" y_M_hit y_M_hit ∈ aw_WS := k_562
theorem ks_M_back : Cond.selects "WalkRanksModel" y_M_back y_M_back ∈ aw_WS := k_566
theorem ks_M_end : Cond.selects "WalkRanksModel" y_M_end y_M_end ∈ aw_WS := k_570
theorem ks_M_after : Cond.selects "WalkRanksModel" y_M_after y_M_after ∈ aw_WS := k_574
theorem ks_M_walks : Cond.selects "WalkRanksModel" y_M_walks y_M_walks ∈ aw_WS := k_578
theorem ks_M_drawn : Cond.selects "WalkRanksModel" y_M_drawn y_M_drawn ∈ aw_WS := k_582
theorem kc_0 : aw_cc 0 r_W f_W 6 t_W := ⟨rfl, by decide +kernel, by decide +kernel, by decide +kernel⟩
theorem kc_1 : aw_cc 1 r_G f_G 5 t_G := ⟨rfl, by decide +kernel, by decide +kernel, by decide +kernel⟩
theorem kc_2 : aw_cc 2 r_S f_S 4 t_S := ⟨rfl, by decide +kernel, by decide +kernel, by decide +kernel⟩
theorem kc_3 : aw_cc 3 r_C f_C 6 t_C := ⟨rfl, by decide +kernel, by decide +kernel, by decide +kernel⟩
theorem kc_4 : aw_cc 4 r_E f_E 2 t_E := ⟨rfl, by decide +kernel, by decide +kernel, by decide +kernel⟩
theorem kc_5 : aw_cc 5 r_P f_P 4 t_P := ⟨rfl, by decide +kernel, by decide +kernel, by decide +kernel⟩
theorem kc_6 : aw_cc 6 r_M f_M 17 t_M := ⟨rfl, by decide +kernel, by decide +kernel, by decide +kernel⟩
theorem kd_W_init : aw_card y_W_init c_W_init 1 none 0 := ⟨k_12, k_1, by decide, by decide, by decide +kernel⟩
theorem kd_G_init : aw_card y_G_init c_G_init 1 none 0 := ⟨k_20, k_2, by decide, by decide, by decide +kernel⟩
theorem kd_S_init : aw_card y_S_init c_S_init 1 none 0 := ⟨k_57, k_3, by decide, by decide, by decide +kernel⟩
theorem kd_C_init : aw_card y_C_init c_C_init 1 none 0 := ⟨k_86, k_4, by decide, by decide, by decide +kernel⟩
theorem kd_E_init : aw_card y_E_init c_E_init 1 none 0 := ⟨k_115, k_5, by decide, by decide, by decide +kernel⟩
theorem kd_P_init : aw_card y_P_init c_P_init 1 none 0 := ⟨k_131, k_6, by decide, by decide, by decide +kernel⟩
theorem kd_W_node : aw_card y_W_node c_W_node 2 (some .int) 0 := ⟨k_169, k_1, by decide, by decide, by decide +kernel⟩
theorem kd_G_addNode : aw_card y_G_addNode c_G_addNode 3 (some .int) 0 := ⟨k_173, k_2, by decide, by decide, by decide +kernel⟩
theorem kd_W_renew : aw_card y_W_renew c_W_renew 1 none 0 := ⟨k_177, k_1, by decide, by decide, by decide +kernel⟩
theorem kd_S_renew : aw_card y_S_renew c_S_renew 4 none 1 := ⟨k_181, k_3, by decide, by decide, by decide +kernel⟩
theorem kd_G_allJumps : aw_card y_G_allJumps c_G_allJumps 3 (some .int) 0 := ⟨k_185, k_2, by decide, by decide, by decide +kernel⟩
theorem kd_S_fillParts : aw_card y_S_fillParts c_S_fillParts 8 none 3 := ⟨k_189, k_3, by decide, by decide, by decide +kernel⟩
theorem kd_G_outOf : aw_card y_G_outOf c_G_outOf 4 (some .int) 1 := ⟨k_193, k_2, by decide, by decide, by decide +kernel⟩
theorem kd_S_lowerParts : aw_card y_S_lowerParts c_S_lowerParts 4 none 1 := ⟨k_197, k_3, by decide, by decide, by decide +kernel⟩
theorem kd_W_greatestDivisor : aw_card y_W_greatestDivisor c_W_greatestDivisor 11 (some .long) 2 := ⟨k_200, k_1, by decide, by decide, by decide +kernel⟩
theorem kd_S_sumUp : aw_card y_S_sumUp c_S_sumUp 3 none 1 := ⟨k_204, k_3, by decide, by decide, by decide +kernel⟩
theorem kd_W_only : aw_card y_W_only c_W_only 1 (some .int) 1 := ⟨k_207, k_1, by decide, by decide, by decide +kernel⟩
theorem kd_C_renew : aw_card y_C_renew c_C_renew 3 none 1 := ⟨k_211, k_4, by decide, by decide, by decide +kernel⟩
theorem kd_S_nodesBehind : aw_card y_S_nodesBehind c_S_nodesBehind 5 (some .int) 2 := ⟨k_215, k_3, by decide, by decide, by decide +kernel⟩
theorem kd_S_nextOf : aw_card y_S_nextOf c_S_nextOf 4 (some .int) 1 := ⟨k_219, k_3, by decide, by decide, by decide +kernel⟩
theorem kd_W_has : aw_card y_W_has c_W_has 2 (some .boolean) 2 := ⟨k_222, k_1, by decide, by decide, by decide +kernel⟩
theorem kd_C_isClosedFrom : aw_card y_C_isClosedFrom c_C_isClosedFrom 2 (some .boolean) 1 := ⟨k_227, k_4, by decide, by decide, by decide +kernel⟩
theorem kd_C_leadingTo : aw_card y_C_leadingTo c_C_leadingTo 4 (some .int) 1 := ⟨k_232, k_4, by decide, by decide, by decide +kernel⟩
theorem kd_C_addSet : aw_card y_C_addSet c_C_addSet 3 none 1 := ⟨k_236, k_4, by decide, by decide, by decide +kernel⟩
theorem kd_W_weight : aw_card y_W_weight c_W_weight 5 (some .int) 3 := ⟨k_241, k_1, by decide, by decide, by decide +kernel⟩
theorem kd_W_isNode : aw_card y_W_isNode c_W_isNode 2 (some .boolean) 1 := ⟨k_245, k_1, by decide, by decide, by decide +kernel⟩
theorem kd_W_jump : aw_card y_W_jump c_W_jump 4 (some .int) 2 := ⟨k_249, k_1, by decide, by decide, by decide +kernel⟩
theorem kd_W_keep : aw_card y_W_keep c_W_keep 3 (some .int) 2 := ⟨k_253, k_1, by decide, by decide, by decide +kernel⟩
theorem kd_W_clear : aw_card y_W_clear c_W_clear 2 (some .int) 0 := ⟨k_257, k_1, by decide, by decide, by decide +kernel⟩
theorem kd_W_row : aw_card y_W_row c_W_row 3 (some .int) 2 := ⟨k_261, k_1, by decide, by decide, by decide +kernel⟩
theorem kd_W_total : aw_card y_W_total c_W_total 2 (some .int) 1 := ⟨k_265, k_1, by decide, by decide, by decide +kernel⟩
theorem kd_W_closed : aw_card y_W_closed c_W_closed 1 (some .int) 0 := ⟨k_269, k_1, by decide, by decide, by decide +kernel⟩
theorem kd_W_closedOf : aw_card y_W_closedOf c_W_closedOf 2 (some .int) 1 := ⟨k_273, k_1, by decide, by decide, by decide +kernel⟩
theorem kd_W_period : aw_card y_W_period c_W_period 2 (some .int) 1 := ⟨k_277, k_1, by decide, by decide, by decide +kernel⟩
theorem kd_W_isSet : aw_card y_W_isSet c_W_isSet 2 (some .boolean) 1 := ⟨k_281, k_1, by decide, by decide, by decide +kernel⟩
theorem kd_S_periodAt : aw_card y_S_periodAt c_S_periodAt 5 (some .int) 1 := ⟨k_285, k_3, by decide, by decide, by decide +kernel⟩
theorem kd_W_rank : aw_card y_W_rank c_W_rank 5 (some .long) 2 := ⟨k_289, k_1, by decide, by decide, by decide +kernel⟩
theorem kd_W_isPart : aw_card y_W_isPart c_W_isPart 1 (some .boolean) 1 := ⟨k_293, k_1, by decide, by decide, by decide +kernel⟩
theorem kd_W_fillShares : aw_card y_W_fillShares c_W_fillShares 5 (some .long) 1 := ⟨k_299, k_1, by decide, by decide, by decide +kernel⟩
theorem kd_E_fill : aw_card y_E_fill c_E_fill 10 none 2 := ⟨k_304, k_5, by decide, by decide, by decide +kernel⟩
theorem kd_E_determinant : aw_card y_E_determinant c_E_determinant 1 (some .long) 0 := ⟨k_309, k_5, by decide, by decide, by decide +kernel⟩
theorem kd_E_expand : aw_card y_E_expand c_E_expand 11 (some .long) 4 := ⟨k_312, k_5, by decide, by decide, by decide +kernel⟩
theorem kd_W_fraction : aw_card y_W_fraction c_W_fraction 9 (some .long) 3 := ⟨k_316, k_1, by decide, by decide, by decide +kernel⟩
theorem kd_W_place : aw_card y_W_place c_W_place 3 (some .int) 1 := ⟨k_321, k_1, by decide, by decide, by decide +kernel⟩
theorem kd_W_nodesAhead : aw_card y_W_nodesAhead c_W_nodesAhead 4 (some .int) 1 := ⟨k_325, k_1, by decide, by decide, by decide +kernel⟩
theorem kd_W_reach : aw_card y_W_reach c_W_reach 4 (some .long) 3 := ⟨k_329, k_1, by decide, by decide, by decide +kernel⟩
theorem kd_W_chanceToCome : aw_card y_W_chanceToCome c_W_chanceToCome 7 (some .long) 3 := ⟨k_333, k_1, by decide, by decide, by decide +kernel⟩
theorem kd_E_putChances : aw_card y_E_putChances c_E_putChances 7 none 4 := ⟨k_338, k_5, by decide, by decide, by decide +kernel⟩
theorem kd_W_hit : aw_card y_W_hit c_W_hit 7 (some .long) 3 := ⟨k_342, k_1, by decide, by decide, by decide +kernel⟩
theorem kd_E_putStepCounts : aw_card y_E_putStepCounts c_E_putStepCounts 5 none 3 := ⟨k_347, k_5, by decide, by decide, by decide +kernel⟩
theorem kd_W_back : aw_card y_W_back c_W_back 5 (some .long) 2 := ⟨k_351, k_1, by decide, by decide, by decide +kernel⟩
theorem kd_W_end : aw_card y_W_end c_W_end 4 (some .long) 3 := ⟨k_355, k_1, by decide, by decide, by decide +kernel⟩
theorem kd_W_after : aw_card y_W_after c_W_after 10 (some .long) 4 := ⟨k_359, k_1, by decide, by decide, by decide +kernel⟩
theorem kd_S_commonTotal : aw_card y_S_commonTotal c_S_commonTotal 6 (some .long) 0 := ⟨k_363, k_3, by decide, by decide, by decide +kernel⟩
theorem kd_P_fillBySteps : aw_card y_P_fillBySteps c_P_fillBySteps 8 none 2 := ⟨k_367, k_6, by decide, by decide, by decide +kernel⟩
theorem kd_P_run : aw_card y_P_run c_P_run 4 none 2 := ⟨k_371, k_6, by decide, by decide, by decide +kernel⟩
theorem kd_P_move : aw_card y_P_move c_P_move 3 none 0 := ⟨k_375, k_6, by decide, by decide, by decide +kernel⟩
theorem kd_P_numberAt : aw_card y_P_numberAt c_P_numberAt 2 (some .long) 1 := ⟨k_379, k_6, by decide, by decide, by decide +kernel⟩
theorem kd_W_walks : aw_card y_W_walks c_W_walks 4 (some .long) 3 := ⟨k_383, k_1, by decide, by decide, by decide +kernel⟩
theorem kd_P_fillByWeights : aw_card y_P_fillByWeights c_P_fillByWeights 4 none 1 := ⟨k_387, k_6, by decide, by decide, by decide +kernel⟩
theorem kd_W_drawn : aw_card y_W_drawn c_W_drawn 7 (some .int) 3 := ⟨k_391, k_1, by decide, by decide, by decide +kernel⟩
theorem kd_S_nextNode : aw_card y_S_nextNode c_S_nextNode 5 (some .int) 2 := ⟨k_397, k_3, by decide, by decide, by decide +kernel⟩
theorem kd_M_init : aw_card y_M_init c_M_init 1 none 0 := ⟨k_402, k_7, by decide, by decide, by decide +kernel⟩
theorem kd_M_node : aw_card y_M_node c_M_node 2 (some .int) 0 := ⟨k_459, k_7, by decide, by decide, by decide +kernel⟩
theorem kd_M_weight : aw_card y_M_weight c_M_weight 5 (some .int) 3 := ⟨k_463, k_7, by decide, by decide, by decide +kernel⟩
theorem kd_M_isNode : aw_card y_M_isNode c_M_isNode 2 (some .boolean) 1 := ⟨k_467, k_7, by decide, by decide, by decide +kernel⟩
theorem kd_M_jump : aw_card y_M_jump c_M_jump 4 (some .int) 2 := ⟨k_471, k_7, by decide, by decide, by decide +kernel⟩
theorem kd_M_keep : aw_card y_M_keep c_M_keep 3 (some .int) 2 := ⟨k_475, k_7, by decide, by decide, by decide +kernel⟩
theorem kd_M_clear : aw_card y_M_clear c_M_clear 2 (some .int) 0 := ⟨k_479, k_7, by decide, by decide, by decide +kernel⟩
theorem kd_M_row : aw_card y_M_row c_M_row 3 (some .int) 2 := ⟨k_483, k_7, by decide, by decide, by decide +kernel⟩
theorem kd_M_findRows : aw_card y_M_findRows c_M_findRows 9 none 0 := ⟨k_487, k_7, by decide, by decide, by decide +kernel⟩
theorem kd_M_common : aw_card y_M_common c_M_common 10 (some .long) 2 := ⟨k_490, k_7, by decide, by decide, by decide +kernel⟩
theorem kd_M_total : aw_card y_M_total c_M_total 2 (some .int) 1 := ⟨k_494, k_7, by decide, by decide, by decide +kernel⟩
theorem kd_M_closed : aw_card y_M_closed c_M_closed 1 (some .int) 0 := ⟨k_498, k_7, by decide, by decide, by decide +kernel⟩
theorem kd_M_findSets : aw_card y_M_findSets c_M_findSets 4 none 0 := ⟨k_502, k_7, by decide, by decide, by decide +kernel⟩
theorem kd_M_isClosed : aw_card y_M_isClosed c_M_isClosed 5 (some .boolean) 1 := ⟨k_506, k_7, by decide, by decide, by decide +kernel⟩
theorem kd_M_reached : aw_card y_M_reached c_M_reached 7 (some .int) 2 := ⟨k_510, k_7, by decide, by decide, by decide +kernel⟩
theorem kd_M_leads : aw_card y_M_leads c_M_leads 3 (some .boolean) 2 := ⟨k_514, k_7, by decide, by decide, by decide +kernel⟩
theorem kd_M_closedOf : aw_card y_M_closedOf c_M_closedOf 2 (some .int) 1 := ⟨k_518, k_7, by decide, by decide, by decide +kernel⟩
theorem kd_M_period : aw_card y_M_period c_M_period 10 (some .int) 1 := ⟨k_522, k_7, by decide, by decide, by decide +kernel⟩
theorem kd_M_rank : aw_card y_M_rank c_M_rank 3 (some .long) 2 := ⟨k_526, k_7, by decide, by decide, by decide +kernel⟩
theorem kd_M_isPart : aw_card y_M_isPart c_M_isPart 1 (some .boolean) 1 := ⟨k_530, k_7, by decide, by decide, by decide +kernel⟩
theorem kd_M_findShares : aw_card y_M_findShares c_M_findShares 3 none 1 := ⟨k_536, k_7, by decide, by decide, by decide +kernel⟩
theorem kd_M_count : aw_card y_M_count c_M_count 12 none 4 := ⟨k_540, k_7, by decide, by decide, by decide +kernel⟩
theorem kd_M_rootOf : aw_card y_M_rootOf c_M_rootOf 5 (some .int) 2 := ⟨k_544, k_7, by decide, by decide, by decide +kernel⟩
theorem kd_M_lowest : aw_card y_M_lowest c_M_lowest 7 (some .long) 3 := ⟨k_547, k_7, by decide, by decide, by decide +kernel⟩
theorem kd_M_place : aw_card y_M_place c_M_place 5 (some .int) 1 := ⟨k_551, k_7, by decide, by decide, by decide +kernel⟩
theorem kd_M_reach : aw_card y_M_reach c_M_reach 6 (some .long) 3 := ⟨k_555, k_7, by decide, by decide, by decide +kernel⟩
theorem kd_M_all : aw_card y_M_all c_M_all 1 (some .int) 0 := ⟨k_559, k_7, by decide, by decide, by decide +kernel⟩
theorem kd_M_hit : aw_card y_M_hit c_M_hit 9 (some .long) 3 := ⟨k_563, k_7, by decide, by decide, by decide +kernel⟩
theorem kd_M_back : aw_card y_M_back c_M_back 3 (some .long) 2 := ⟨k_567, k_7, by decide, by decide, by decide +kernel⟩
theorem kd_M_end : aw_card y_M_end c_M_end 6 (some .long) 3 := ⟨k_571, k_7, by decide, by decide, by decide +kernel⟩
theorem kd_M_after : aw_card y_M_after c_M_after 12 (some .long) 4 := ⟨k_575, k_7, by decide, by decide, by decide +kernel⟩
theorem kd_M_walks : aw_card y_M_walks c_M_walks 7 (some .long) 3 := ⟨k_579, k_7, by decide, by decide, by decide +kernel⟩
theorem kd_M_drawn : aw_card y_M_drawn c_M_drawn 9 (some .int) 3 := ⟨k_583, k_7, by decide, by decide, by decide +kernel⟩
end
section
-- decode rows
theorem d_G_init_0 : decode c_G_init 0 = .ok (.aload_n 0, 1) := by decide +kernel
theorem d_G_init_1 : decode c_G_init 1 = .ok (.invokespecial 3, 3) := by decide +kernel
theorem d_G_init_4 : decode c_G_init 4 = .ok (.aload_n 0, 1) := by decide +kernel
theorem d_G_init_5 : decode c_G_init 5 = .ok (.iconst 0, 1) := by decide +kernel
theorem d_G_init_6 : decode c_G_init 6 = .ok (.putfield 9, 3) := by decide +kernel
theorem d_G_init_9 : decode c_G_init 9 = .ok (.aload_n 0, 1) := by decide +kernel
theorem d_G_init_10 : decode c_G_init 10 = .ok (.iconst 1, 1) := by decide +kernel
theorem d_G_init_11 : decode c_G_init 11 = .ok (.putfield 15, 3) := by decide +kernel
theorem d_G_init_14 : decode c_G_init 14 = .ok (.aload_n 0, 1) := by decide +kernel
theorem d_G_init_15 : decode c_G_init 15 = .ok (.iconst 1, 1) := by decide +kernel
theorem d_G_init_16 : decode c_G_init 16 = .ok (.putfield 18, 3) := by decide +kernel
theorem d_G_init_19 : decode c_G_init 19 = .ok (.aload_n 0, 1) := by decide +kernel
theorem d_G_init_20 : decode c_G_init 20 = .ok (.iconst 5, 1) := by decide +kernel
theorem d_G_init_21 : decode c_G_init 21 = .ok (.iconst 5, 1) := by decide +kernel
theorem d_G_init_22 : decode c_G_init 22 = .ok (.multianewarray 21 2, 4) := by decide +kernel
theorem d_G_init_26 : decode c_G_init 26 = .ok (.putfield 23, 3) := by decide +kernel
theorem d_G_init_29 : decode c_G_init 29 = .ok (.aload_n 0, 1) := by decide +kernel
theorem d_G_init_30 : decode c_G_init 30 = .ok (.iconst 5, 1) := by decide +kernel
theorem d_G_init_31 : decode c_G_init 31 = .ok (.newarray .int, 2) := by decide +kernel
theorem d_G_init_33 : decode c_G_init 33 = .ok (.putfield 26, 3) := by decide +kernel
theorem d_G_init_36 : decode c_G_init 36 = .ok (.return_, 1) := by decide +kernel
theorem d_S_init_0 : decode c_S_init 0 = .ok (.aload_n 0, 1) := by decide +kernel
theorem d_S_init_1 : decode c_S_init 1 = .ok (.invokespecial 3, 3) := by decide +kernel
theorem d_S_init_4 : decode c_S_init 4 = .ok (.aload_n 0, 1) := by decide +kernel
theorem d_S_init_5 : decode c_S_init 5 = .ok (.iconst 0, 1) := by decide +kernel
theorem d_S_init_6 : decode c_S_init 6 = .ok (.putfield 9, 3) := by decide +kernel
theorem d_S_init_9 : decode c_S_init 9 = .ok (.aload_n 0, 1) := by decide +kernel
theorem d_S_init_10 : decode c_S_init 10 = .ok (.iconst 5, 1) := by decide +kernel
theorem d_S_init_11 : decode c_S_init 11 = .ok (.iconst 5, 1) := by decide +kernel
theorem d_S_init_12 : decode c_S_init 12 = .ok (.multianewarray 15 2, 4) := by decide +kernel
theorem d_S_init_16 : decode c_S_init 16 = .ok (.putfield 17, 3) := by decide +kernel
theorem d_S_init_19 : decode c_S_init 19 = .ok (.aload_n 0, 1) := by decide +kernel
theorem d_S_init_20 : decode c_S_init 20 = .ok (.iconst 5, 1) := by decide +kernel
theorem d_S_init_21 : decode c_S_init 21 = .ok (.newarray .int, 2) := by decide +kernel
theorem d_S_init_23 : decode c_S_init 23 = .ok (.putfield 20, 3) := by decide +kernel
theorem d_S_init_26 : decode c_S_init 26 = .ok (.aload_n 0, 1) := by decide +kernel
theorem d_S_init_27 : decode c_S_init 27 = .ok (.iconst 5, 1) := by decide +kernel
theorem d_S_init_28 : decode c_S_init 28 = .ok (.newarray .int, 2) := by decide +kernel
theorem d_S_init_30 : decode c_S_init 30 = .ok (.putfield 24, 3) := by decide +kernel
theorem d_S_init_33 : decode c_S_init 33 = .ok (.return_, 1) := by decide +kernel
theorem d_C_init_0 : decode c_C_init 0 = .ok (.aload_n 0, 1) := by decide +kernel
theorem d_C_init_1 : decode c_C_init 1 = .ok (.invokespecial 3, 3) := by decide +kernel
theorem d_C_init_4 : decode c_C_init 4 = .ok (.aload_n 0, 1) := by decide +kernel
theorem d_C_init_5 : decode c_C_init 5 = .ok (.iconst 0, 1) := by decide +kernel
theorem d_C_init_6 : decode c_C_init 6 = .ok (.putfield 9, 3) := by decide +kernel
theorem d_C_init_9 : decode c_C_init 9 = .ok (.aload_n 0, 1) := by decide +kernel
theorem d_C_init_10 : decode c_C_init 10 = .ok (.iconst 5, 1) := by decide +kernel
theorem d_C_init_11 : decode c_C_init 11 = .ok (.newarray .int, 2) := by decide +kernel
theorem d_C_init_13 : decode c_C_init 13 = .ok (.putfield 15, 3) := by decide +kernel
theorem d_C_init_16 : decode c_C_init 16 = .ok (.aload_n 0, 1) := by decide +kernel
theorem d_C_init_17 : decode c_C_init 17 = .ok (.iconst 5, 1) := by decide +kernel
theorem d_C_init_18 : decode c_C_init 18 = .ok (.newarray .int, 2) := by decide +kernel
theorem d_C_init_20 : decode c_C_init 20 = .ok (.putfield 19, 3) := by decide +kernel
theorem d_C_init_23 : decode c_C_init 23 = .ok (.aload_n 0, 1) := by decide +kernel
theorem d_C_init_24 : decode c_C_init 24 = .ok (.iconst 5, 1) := by decide +kernel
theorem d_C_init_25 : decode c_C_init 25 = .ok (.newarray .int, 2) := by decide +kernel
theorem d_C_init_27 : decode c_C_init 27 = .ok (.putfield 22, 3) := by decide +kernel
theorem d_C_init_30 : decode c_C_init 30 = .ok (.aload_n 0, 1) := by decide +kernel
theorem d_C_init_31 : decode c_C_init 31 = .ok (.iconst 0, 1) := by decide +kernel
theorem d_C_init_32 : decode c_C_init 32 = .ok (.putfield 25, 3) := by decide +kernel
theorem d_C_init_35 : decode c_C_init 35 = .ok (.aload_n 0, 1) := by decide +kernel
theorem d_C_init_36 : decode c_C_init 36 = .ok (.iconst 5, 1) := by decide +kernel
theorem d_C_init_37 : decode c_C_init 37 = .ok (.newarray .int, 2) := by decide +kernel
theorem d_C_init_39 : decode c_C_init 39 = .ok (.putfield 28, 3) := by decide +kernel
theorem d_C_init_42 : decode c_C_init 42 = .ok (.return_, 1) := by decide +kernel
theorem d_E_init_0 : decode c_E_init 0 = .ok (.aload_n 0, 1) := by decide +kernel
theorem d_E_init_1 : decode c_E_init 1 = .ok (.invokespecial 3, 3) := by decide +kernel
theorem d_E_init_4 : decode c_E_init 4 = .ok (.aload_n 0, 1) := by decide +kernel
theorem d_E_init_5 : decode c_E_init 5 = .ok (.iconst 0, 1) := by decide +kernel
theorem d_E_init_6 : decode c_E_init 6 = .ok (.putfield 9, 3) := by decide +kernel
theorem d_E_init_9 : decode c_E_init 9 = .ok (.aload_n 0, 1) := by decide +kernel
theorem d_E_init_10 : decode c_E_init 10 = .ok (.iconst 5, 1) := by decide +kernel
theorem d_E_init_11 : decode c_E_init 11 = .ok (.iconst 5, 1) := by decide +kernel
theorem d_E_init_12 : decode c_E_init 12 = .ok (.multianewarray 15 2, 4) := by decide +kernel
theorem d_E_init_16 : decode c_E_init 16 = .ok (.putfield 17, 3) := by decide +kernel
theorem d_E_init_19 : decode c_E_init 19 = .ok (.return_, 1) := by decide +kernel
theorem d_P_init_0 : decode c_P_init 0 = .ok (.aload_n 0, 1) := by decide +kernel
theorem d_P_init_1 : decode c_P_init 1 = .ok (.invokespecial 3, 3) := by decide +kernel
theorem d_P_init_4 : decode c_P_init 4 = .ok (.aload_n 0, 1) := by decide +kernel
theorem d_P_init_5 : decode c_P_init 5 = .ok (.iconst 5, 1) := by decide +kernel
theorem d_P_init_6 : decode c_P_init 6 = .ok (.newarray .long, 2) := by decide +kernel
theorem d_P_init_8 : decode c_P_init 8 = .ok (.putfield 9, 3) := by decide +kernel
theorem d_P_init_11 : decode c_P_init 11 = .ok (.aload_n 0, 1) := by decide +kernel
theorem d_P_init_12 : decode c_P_init 12 = .ok (.iconst 5, 1) := by decide +kernel
theorem d_P_init_13 : decode c_P_init 13 = .ok (.newarray .long, 2) := by decide +kernel
theorem d_P_init_15 : decode c_P_init 15 = .ok (.putfield 15, 3) := by decide +kernel
theorem d_P_init_18 : decode c_P_init 18 = .ok (.aload_n 0, 1) := by decide +kernel
theorem d_P_init_19 : decode c_P_init 19 = .ok (.iconst 0, 1) := by decide +kernel
theorem d_P_init_20 : decode c_P_init 20 = .ok (.putfield 18, 3) := by decide +kernel
theorem d_P_init_23 : decode c_P_init 23 = .ok (.aload_n 0, 1) := by decide +kernel
theorem d_P_init_24 : decode c_P_init 24 = .ok (.iconst 5, 1) := by decide +kernel
theorem d_P_init_25 : decode c_P_init 25 = .ok (.iconst 5, 1) := by decide +kernel
theorem d_P_init_26 : decode c_P_init 26 = .ok (.multianewarray 22 2, 4) := by decide +kernel
theorem d_P_init_30 : decode c_P_init 30 = .ok (.putfield 24, 3) := by decide +kernel
theorem d_P_init_33 : decode c_P_init 33 = .ok (.return_, 1) := by decide +kernel
theorem d_G_addNode_0 : decode c_G_addNode 0 = .ok (.aload_n 0, 1) := by decide +kernel
theorem d_G_addNode_1 : decode c_G_addNode 1 = .ok (.getfield 9, 3) := by decide +kernel
theorem d_G_addNode_4 : decode c_G_addNode 4 = .ok (.istore_n 1, 1) := by decide +kernel
theorem d_G_addNode_5 : decode c_G_addNode 5 = .ok (.iconst 0, 1) := by decide +kernel
theorem d_G_addNode_6 : decode c_G_addNode 6 = .ok (.istore_n 2, 1) := by decide +kernel
theorem d_G_addNode_7 : decode c_G_addNode 7 = .ok (.iload_n 2, 1) := by decide +kernel
theorem d_G_addNode_8 : decode c_G_addNode 8 = .ok (.iload_n 1, 1) := by decide +kernel
theorem d_G_addNode_9 : decode c_G_addNode 9 = .ok (.if_icmp .gt 27, 3) := by decide +kernel
theorem d_G_addNode_12 : decode c_G_addNode 12 = .ok (.aload_n 0, 1) := by decide +kernel
theorem d_G_addNode_13 : decode c_G_addNode 13 = .ok (.getfield 23, 3) := by decide +kernel
theorem d_G_addNode_16 : decode c_G_addNode 16 = .ok (.iload_n 1, 1) := by decide +kernel
theorem d_G_addNode_17 : decode c_G_addNode 17 = .ok (.aaload, 1) := by decide +kernel
theorem d_G_addNode_18 : decode c_G_addNode 18 = .ok (.iload_n 2, 1) := by decide +kernel
theorem d_G_addNode_19 : decode c_G_addNode 19 = .ok (.iconst 0, 1) := by decide +kernel
theorem d_G_addNode_20 : decode c_G_addNode 20 = .ok (.iastore, 1) := by decide +kernel
theorem d_G_addNode_21 : decode c_G_addNode 21 = .ok (.aload_n 0, 1) := by decide +kernel
theorem d_G_addNode_22 : decode c_G_addNode 22 = .ok (.getfield 23, 3) := by decide +kernel
theorem d_G_addNode_25 : decode c_G_addNode 25 = .ok (.iload_n 2, 1) := by decide +kernel
theorem d_G_addNode_26 : decode c_G_addNode 26 = .ok (.aaload, 1) := by decide +kernel
theorem d_G_addNode_27 : decode c_G_addNode 27 = .ok (.iload_n 1, 1) := by decide +kernel
theorem d_G_addNode_28 : decode c_G_addNode 28 = .ok (.iconst 0, 1) := by decide +kernel
theorem d_G_addNode_29 : decode c_G_addNode 29 = .ok (.iastore, 1) := by decide +kernel
theorem d_G_addNode_30 : decode c_G_addNode 30 = .ok (.iinc 2 1, 3) := by decide +kernel
theorem d_G_addNode_33 : decode c_G_addNode 33 = .ok (.goto (-26), 3) := by decide +kernel
theorem d_G_addNode_36 : decode c_G_addNode 36 = .ok (.aload_n 0, 1) := by decide +kernel
theorem d_G_addNode_37 : decode c_G_addNode 37 = .ok (.getfield 26, 3) := by decide +kernel
theorem d_G_addNode_40 : decode c_G_addNode 40 = .ok (.iload_n 1, 1) := by decide +kernel
theorem d_G_addNode_41 : decode c_G_addNode 41 = .ok (.iconst 1, 1) := by decide +kernel
theorem d_G_addNode_42 : decode c_G_addNode 42 = .ok (.iastore, 1) := by decide +kernel
theorem d_G_addNode_43 : decode c_G_addNode 43 = .ok (.aload_n 0, 1) := by decide +kernel
theorem d_G_addNode_44 : decode c_G_addNode 44 = .ok (.dup, 1) := by decide +kernel
theorem d_G_addNode_45 : decode c_G_addNode 45 = .ok (.getfield 9, 3) := by decide +kernel
theorem d_G_addNode_48 : decode c_G_addNode 48 = .ok (.iconst 1, 1) := by decide +kernel
theorem d_G_addNode_49 : decode c_G_addNode 49 = .ok (.iadd, 1) := by decide +kernel
theorem d_G_addNode_50 : decode c_G_addNode 50 = .ok (.putfield 9, 3) := by decide +kernel
theorem d_G_addNode_53 : decode c_G_addNode 53 = .ok (.iload_n 1, 1) := by decide +kernel
theorem d_G_addNode_54 : decode c_G_addNode 54 = .ok (.ireturn, 1) := by decide +kernel
theorem d_S_renew_0 : decode c_S_renew 0 = .ok (.aload_n 0, 1) := by decide +kernel
theorem d_S_renew_1 : decode c_S_renew 1 = .ok (.aload_n 1, 1) := by decide +kernel
theorem d_S_renew_2 : decode c_S_renew 2 = .ok (.getfield 27, 3) := by decide +kernel
theorem d_S_renew_5 : decode c_S_renew 5 = .ok (.putfield 9, 3) := by decide +kernel
theorem d_S_renew_8 : decode c_S_renew 8 = .ok (.aload_n 1, 1) := by decide +kernel
theorem d_S_renew_9 : decode c_S_renew 9 = .ok (.invokevirtual 30, 3) := by decide +kernel
theorem d_S_renew_12 : decode c_S_renew 12 = .ok (.istore_n 2, 1) := by decide +kernel
theorem d_S_renew_13 : decode c_S_renew 13 = .ok (.iconst 0, 1) := by decide +kernel
theorem d_S_renew_14 : decode c_S_renew 14 = .ok (.istore_n 3, 1) := by decide +kernel
theorem d_S_renew_15 : decode c_S_renew 15 = .ok (.iload_n 3, 1) := by decide +kernel
theorem d_S_renew_16 : decode c_S_renew 16 = .ok (.aload_n 0, 1) := by decide +kernel
theorem d_S_renew_17 : decode c_S_renew 17 = .ok (.getfield 9, 3) := by decide +kernel
theorem d_S_renew_20 : decode c_S_renew 20 = .ok (.if_icmp .ge 26, 3) := by decide +kernel
theorem d_S_renew_23 : decode c_S_renew 23 = .ok (.aload_n 0, 1) := by decide +kernel
theorem d_S_renew_24 : decode c_S_renew 24 = .ok (.aload_n 1, 1) := by decide +kernel
theorem d_S_renew_25 : decode c_S_renew 25 = .ok (.iload_n 3, 1) := by decide +kernel
theorem d_S_renew_26 : decode c_S_renew 26 = .ok (.iload_n 2, 1) := by decide +kernel
theorem d_S_renew_27 : decode c_S_renew 27 = .ok (.invokevirtual 34, 3) := by decide +kernel
theorem d_S_renew_30 : decode c_S_renew 30 = .ok (.aload_n 0, 1) := by decide +kernel
theorem d_S_renew_31 : decode c_S_renew 31 = .ok (.iload_n 3, 1) := by decide +kernel
theorem d_S_renew_32 : decode c_S_renew 32 = .ok (.invokevirtual 38, 3) := by decide +kernel
theorem d_S_renew_35 : decode c_S_renew 35 = .ok (.aload_n 0, 1) := by decide +kernel
theorem d_S_renew_36 : decode c_S_renew 36 = .ok (.iload_n 3, 1) := by decide +kernel
theorem d_S_renew_37 : decode c_S_renew 37 = .ok (.invokevirtual 42, 3) := by decide +kernel
theorem d_S_renew_40 : decode c_S_renew 40 = .ok (.iinc 3 1, 3) := by decide +kernel
theorem d_S_renew_43 : decode c_S_renew 43 = .ok (.goto (-28), 3) := by decide +kernel
theorem d_S_renew_46 : decode c_S_renew 46 = .ok (.return_, 1) := by decide +kernel
theorem d_G_allJumps_0 : decode c_G_allJumps 0 = .ok (.iconst 0, 1) := by decide +kernel
theorem d_G_allJumps_1 : decode c_G_allJumps 1 = .ok (.istore_n 1, 1) := by decide +kernel
theorem d_G_allJumps_2 : decode c_G_allJumps 2 = .ok (.iconst 0, 1) := by decide +kernel
theorem d_G_allJumps_3 : decode c_G_allJumps 3 = .ok (.istore_n 2, 1) := by decide +kernel
theorem d_G_allJumps_4 : decode c_G_allJumps 4 = .ok (.iload_n 2, 1) := by decide +kernel
theorem d_G_allJumps_5 : decode c_G_allJumps 5 = .ok (.aload_n 0, 1) := by decide +kernel
theorem d_G_allJumps_6 : decode c_G_allJumps 6 = .ok (.getfield 9, 3) := by decide +kernel
theorem d_G_allJumps_9 : decode c_G_allJumps 9 = .ok (.if_icmp .ge 18, 3) := by decide +kernel
theorem d_G_allJumps_12 : decode c_G_allJumps 12 = .ok (.iload_n 1, 1) := by decide +kernel
theorem d_G_allJumps_13 : decode c_G_allJumps 13 = .ok (.aload_n 0, 1) := by decide +kernel
theorem d_G_allJumps_14 : decode c_G_allJumps 14 = .ok (.getfield 26, 3) := by decide +kernel
theorem d_G_allJumps_17 : decode c_G_allJumps 17 = .ok (.iload_n 2, 1) := by decide +kernel
theorem d_G_allJumps_18 : decode c_G_allJumps 18 = .ok (.iaload, 1) := by decide +kernel
theorem d_G_allJumps_19 : decode c_G_allJumps 19 = .ok (.iadd, 1) := by decide +kernel
theorem d_G_allJumps_20 : decode c_G_allJumps 20 = .ok (.istore_n 1, 1) := by decide +kernel
theorem d_G_allJumps_21 : decode c_G_allJumps 21 = .ok (.iinc 2 1, 3) := by decide +kernel
theorem d_G_allJumps_24 : decode c_G_allJumps 24 = .ok (.goto (-20), 3) := by decide +kernel
theorem d_G_allJumps_27 : decode c_G_allJumps 27 = .ok (.iload_n 1, 1) := by decide +kernel
theorem d_G_allJumps_28 : decode c_G_allJumps 28 = .ok (.ireturn, 1) := by decide +kernel
theorem d_S_fillParts_0 : decode c_S_fillParts 0 = .ok (.aload_n 1, 1) := by decide +kernel
theorem d_S_fillParts_1 : decode c_S_fillParts 1 = .ok (.iload_n 2, 1) := by decide +kernel
theorem d_S_fillParts_2 : decode c_S_fillParts 2 = .ok (.invokevirtual 45, 3) := by decide +kernel
theorem d_S_fillParts_5 : decode c_S_fillParts 5 = .ok (.istore 4, 2) := by decide +kernel
theorem d_S_fillParts_7 : decode c_S_fillParts 7 = .ok (.iload 4, 2) := by decide +kernel
theorem d_S_fillParts_9 : decode c_S_fillParts 9 = .ok (.ifCond .le 7, 3) := by decide +kernel
theorem d_S_fillParts_12 : decode c_S_fillParts 12 = .ok (.iconst 1, 1) := by decide +kernel
theorem d_S_fillParts_13 : decode c_S_fillParts 13 = .ok (.goto 4, 3) := by decide +kernel
theorem d_S_fillParts_16 : decode c_S_fillParts 16 = .ok (.iconst 0, 1) := by decide +kernel
theorem d_S_fillParts_17 : decode c_S_fillParts 17 = .ok (.istore 5, 2) := by decide +kernel
theorem d_S_fillParts_19 : decode c_S_fillParts 19 = .ok (.iload 4, 2) := by decide +kernel
theorem d_S_fillParts_21 : decode c_S_fillParts 21 = .ok (.ifCond .le 7, 3) := by decide +kernel
theorem d_S_fillParts_24 : decode c_S_fillParts 24 = .ok (.iconst 0, 1) := by decide +kernel
theorem d_S_fillParts_25 : decode c_S_fillParts 25 = .ok (.goto 4, 3) := by decide +kernel
theorem d_S_fillParts_28 : decode c_S_fillParts 28 = .ok (.iconst 1, 1) := by decide +kernel
theorem d_S_fillParts_29 : decode c_S_fillParts 29 = .ok (.istore 6, 2) := by decide +kernel
theorem d_S_fillParts_31 : decode c_S_fillParts 31 = .ok (.iload 4, 2) := by decide +kernel
theorem d_S_fillParts_33 : decode c_S_fillParts 33 = .ok (.ifCond .le 29, 3) := by decide +kernel
theorem d_S_fillParts_36 : decode c_S_fillParts 36 = .ok (.iload_n 3, 1) := by decide +kernel
theorem d_S_fillParts_37 : decode c_S_fillParts 37 = .ok (.ifCond .le 25, 3) := by decide +kernel
theorem d_S_fillParts_40 : decode c_S_fillParts 40 = .ok (.aload_n 1, 1) := by decide +kernel
theorem d_S_fillParts_41 : decode c_S_fillParts 41 = .ok (.getfield 49, 3) := by decide +kernel
theorem d_S_fillParts_44 : decode c_S_fillParts 44 = .ok (.iload_n 3, 1) := by decide +kernel
theorem d_S_fillParts_45 : decode c_S_fillParts 45 = .ok (.imul, 1) := by decide +kernel
theorem d_S_fillParts_46 : decode c_S_fillParts 46 = .ok (.istore 5, 2) := by decide +kernel
theorem d_S_fillParts_48 : decode c_S_fillParts 48 = .ok (.aload_n 1, 1) := by decide +kernel
theorem d_S_fillParts_49 : decode c_S_fillParts 49 = .ok (.getfield 52, 3) := by decide +kernel
theorem d_S_fillParts_52 : decode c_S_fillParts 52 = .ok (.aload_n 1, 1) := by decide +kernel
theorem d_S_fillParts_53 : decode c_S_fillParts 53 = .ok (.getfield 49, 3) := by decide +kernel
theorem d_S_fillParts_56 : decode c_S_fillParts 56 = .ok (.isub, 1) := by decide +kernel
theorem d_S_fillParts_57 : decode c_S_fillParts 57 = .ok (.iload 4, 2) := by decide +kernel
theorem d_S_fillParts_59 : decode c_S_fillParts 59 = .ok (.imul, 1) := by decide +kernel
theorem d_S_fillParts_60 : decode c_S_fillParts 60 = .ok (.istore 6, 2) := by decide +kernel
theorem d_S_fillParts_62 : decode c_S_fillParts 62 = .ok (.iconst 0, 1) := by decide +kernel
theorem d_S_fillParts_63 : decode c_S_fillParts 63 = .ok (.istore 7, 2) := by decide +kernel
theorem d_S_fillParts_65 : decode c_S_fillParts 65 = .ok (.iload 7, 2) := by decide +kernel
theorem d_S_fillParts_67 : decode c_S_fillParts 67 = .ok (.aload_n 0, 1) := by decide +kernel
theorem d_S_fillParts_68 : decode c_S_fillParts 68 = .ok (.getfield 9, 3) := by decide +kernel
theorem d_S_fillParts_71 : decode c_S_fillParts 71 = .ok (.if_icmp .ge 41, 3) := by decide +kernel
theorem d_S_fillParts_74 : decode c_S_fillParts 74 = .ok (.aload_n 0, 1) := by decide +kernel
theorem d_S_fillParts_75 : decode c_S_fillParts 75 = .ok (.getfield 17, 3) := by decide +kernel
theorem d_S_fillParts_78 : decode c_S_fillParts 78 = .ok (.iload_n 2, 1) := by decide +kernel
theorem d_S_fillParts_79 : decode c_S_fillParts 79 = .ok (.aaload, 1) := by decide +kernel
theorem d_S_fillParts_80 : decode c_S_fillParts 80 = .ok (.iload 7, 2) := by decide +kernel
theorem d_S_fillParts_82 : decode c_S_fillParts 82 = .ok (.iload 5, 2) := by decide +kernel
theorem d_S_fillParts_84 : decode c_S_fillParts 84 = .ok (.aload_n 1, 1) := by decide +kernel
theorem d_S_fillParts_85 : decode c_S_fillParts 85 = .ok (.getfield 55, 3) := by decide +kernel
theorem d_S_fillParts_88 : decode c_S_fillParts 88 = .ok (.iload_n 2, 1) := by decide +kernel
theorem d_S_fillParts_89 : decode c_S_fillParts 89 = .ok (.aaload, 1) := by decide +kernel
theorem d_S_fillParts_90 : decode c_S_fillParts 90 = .ok (.iload 7, 2) := by decide +kernel
theorem d_S_fillParts_92 : decode c_S_fillParts 92 = .ok (.iaload, 1) := by decide +kernel
theorem d_S_fillParts_93 : decode c_S_fillParts 93 = .ok (.imul, 1) := by decide +kernel
theorem d_S_fillParts_94 : decode c_S_fillParts 94 = .ok (.iload 6, 2) := by decide +kernel
theorem d_S_fillParts_96 : decode c_S_fillParts 96 = .ok (.aload_n 1, 1) := by decide +kernel
theorem d_S_fillParts_97 : decode c_S_fillParts 97 = .ok (.getfield 58, 3) := by decide +kernel
theorem d_S_fillParts_100 : decode c_S_fillParts 100 = .ok (.iload 7, 2) := by decide +kernel
theorem d_S_fillParts_102 : decode c_S_fillParts 102 = .ok (.iaload, 1) := by decide +kernel
theorem d_S_fillParts_103 : decode c_S_fillParts 103 = .ok (.imul, 1) := by decide +kernel
theorem d_S_fillParts_104 : decode c_S_fillParts 104 = .ok (.iadd, 1) := by decide +kernel
theorem d_S_fillParts_105 : decode c_S_fillParts 105 = .ok (.iastore, 1) := by decide +kernel
theorem d_S_fillParts_106 : decode c_S_fillParts 106 = .ok (.iinc 7 1, 3) := by decide +kernel
theorem d_S_fillParts_109 : decode c_S_fillParts 109 = .ok (.goto (-44), 3) := by decide +kernel
theorem d_S_fillParts_112 : decode c_S_fillParts 112 = .ok (.iload 4, 2) := by decide +kernel
theorem d_S_fillParts_114 : decode c_S_fillParts 114 = .ok (.ifCond .ne 16, 3) := by decide +kernel
theorem d_S_fillParts_117 : decode c_S_fillParts 117 = .ok (.iload_n 3, 1) := by decide +kernel
theorem d_S_fillParts_118 : decode c_S_fillParts 118 = .ok (.ifCond .ne 12, 3) := by decide +kernel
theorem d_S_fillParts_121 : decode c_S_fillParts 121 = .ok (.aload_n 0, 1) := by decide +kernel
theorem d_S_fillParts_122 : decode c_S_fillParts 122 = .ok (.getfield 17, 3) := by decide +kernel
theorem d_S_fillParts_125 : decode c_S_fillParts 125 = .ok (.iload_n 2, 1) := by decide +kernel
theorem d_S_fillParts_126 : decode c_S_fillParts 126 = .ok (.aaload, 1) := by decide +kernel
theorem d_S_fillParts_127 : decode c_S_fillParts 127 = .ok (.iload_n 2, 1) := by decide +kernel
theorem d_S_fillParts_128 : decode c_S_fillParts 128 = .ok (.iconst 1, 1) := by decide +kernel
theorem d_S_fillParts_129 : decode c_S_fillParts 129 = .ok (.iastore, 1) := by decide +kernel
theorem d_S_fillParts_130 : decode c_S_fillParts 130 = .ok (.return_, 1) := by decide +kernel
theorem d_G_outOf_0 : decode c_G_outOf 0 = .ok (.iconst 0, 1) := by decide +kernel
theorem d_G_outOf_1 : decode c_G_outOf 1 = .ok (.istore_n 2, 1) := by decide +kernel
theorem d_G_outOf_2 : decode c_G_outOf 2 = .ok (.iconst 0, 1) := by decide +kernel
theorem d_G_outOf_3 : decode c_G_outOf 3 = .ok (.istore_n 3, 1) := by decide +kernel
theorem d_G_outOf_4 : decode c_G_outOf 4 = .ok (.iload_n 3, 1) := by decide +kernel
theorem d_G_outOf_5 : decode c_G_outOf 5 = .ok (.aload_n 0, 1) := by decide +kernel
theorem d_G_outOf_6 : decode c_G_outOf 6 = .ok (.getfield 9, 3) := by decide +kernel
theorem d_G_outOf_9 : decode c_G_outOf 9 = .ok (.if_icmp .ge 20, 3) := by decide +kernel
theorem d_G_outOf_12 : decode c_G_outOf 12 = .ok (.iload_n 2, 1) := by decide +kernel
theorem d_G_outOf_13 : decode c_G_outOf 13 = .ok (.aload_n 0, 1) := by decide +kernel
theorem d_G_outOf_14 : decode c_G_outOf 14 = .ok (.getfield 23, 3) := by decide +kernel
theorem d_G_outOf_17 : decode c_G_outOf 17 = .ok (.iload_n 1, 1) := by decide +kernel
theorem d_G_outOf_18 : decode c_G_outOf 18 = .ok (.aaload, 1) := by decide +kernel
theorem d_G_outOf_19 : decode c_G_outOf 19 = .ok (.iload_n 3, 1) := by decide +kernel
theorem d_G_outOf_20 : decode c_G_outOf 20 = .ok (.iaload, 1) := by decide +kernel
theorem d_G_outOf_21 : decode c_G_outOf 21 = .ok (.iadd, 1) := by decide +kernel
theorem d_G_outOf_22 : decode c_G_outOf 22 = .ok (.istore_n 2, 1) := by decide +kernel
theorem d_G_outOf_23 : decode c_G_outOf 23 = .ok (.iinc 3 1, 3) := by decide +kernel
theorem d_G_outOf_26 : decode c_G_outOf 26 = .ok (.goto (-22), 3) := by decide +kernel
theorem d_G_outOf_29 : decode c_G_outOf 29 = .ok (.iload_n 2, 1) := by decide +kernel
theorem d_G_outOf_30 : decode c_G_outOf 30 = .ok (.ireturn, 1) := by decide +kernel
theorem d_S_lowerParts_0 : decode c_S_lowerParts 0 = .ok (.iconst 0, 1) := by decide +kernel
theorem d_S_lowerParts_1 : decode c_S_lowerParts 1 = .ok (.istore_n 2, 1) := by decide +kernel
theorem d_S_lowerParts_2 : decode c_S_lowerParts 2 = .ok (.iconst 0, 1) := by decide +kernel
theorem d_S_lowerParts_3 : decode c_S_lowerParts 3 = .ok (.istore_n 3, 1) := by decide +kernel
theorem d_S_lowerParts_4 : decode c_S_lowerParts 4 = .ok (.iload_n 3, 1) := by decide +kernel
theorem d_S_lowerParts_5 : decode c_S_lowerParts 5 = .ok (.aload_n 0, 1) := by decide +kernel
theorem d_S_lowerParts_6 : decode c_S_lowerParts 6 = .ok (.getfield 9, 3) := by decide +kernel
theorem d_S_lowerParts_9 : decode c_S_lowerParts 9 = .ok (.if_icmp .ge 25, 3) := by decide +kernel
theorem d_S_lowerParts_12 : decode c_S_lowerParts 12 = .ok (.iload_n 2, 1) := by decide +kernel
theorem d_S_lowerParts_13 : decode c_S_lowerParts 13 = .ok (.i2l, 1) := by decide +kernel
theorem d_S_lowerParts_14 : decode c_S_lowerParts 14 = .ok (.aload_n 0, 1) := by decide +kernel
theorem d_S_lowerParts_15 : decode c_S_lowerParts 15 = .ok (.getfield 17, 3) := by decide +kernel
theorem d_S_lowerParts_18 : decode c_S_lowerParts 18 = .ok (.iload_n 1, 1) := by decide +kernel
theorem d_S_lowerParts_19 : decode c_S_lowerParts 19 = .ok (.aaload, 1) := by decide +kernel
theorem d_S_lowerParts_20 : decode c_S_lowerParts 20 = .ok (.iload_n 3, 1) := by decide +kernel
theorem d_S_lowerParts_21 : decode c_S_lowerParts 21 = .ok (.iaload, 1) := by decide +kernel
theorem d_S_lowerParts_22 : decode c_S_lowerParts 22 = .ok (.i2l, 1) := by decide +kernel
theorem d_S_lowerParts_23 : decode c_S_lowerParts 23 = .ok (.invokestatic 61, 3) := by decide +kernel
theorem d_S_lowerParts_26 : decode c_S_lowerParts 26 = .ok (.l2i, 1) := by decide +kernel
theorem d_S_lowerParts_27 : decode c_S_lowerParts 27 = .ok (.istore_n 2, 1) := by decide +kernel
theorem d_S_lowerParts_28 : decode c_S_lowerParts 28 = .ok (.iinc 3 1, 3) := by decide +kernel
theorem d_S_lowerParts_31 : decode c_S_lowerParts 31 = .ok (.goto (-27), 3) := by decide +kernel
theorem d_S_lowerParts_34 : decode c_S_lowerParts 34 = .ok (.iload_n 2, 1) := by decide +kernel
theorem d_S_lowerParts_35 : decode c_S_lowerParts 35 = .ok (.ifCond .ne 4, 3) := by decide +kernel
theorem d_S_lowerParts_38 : decode c_S_lowerParts 38 = .ok (.return_, 1) := by decide +kernel
theorem d_S_lowerParts_39 : decode c_S_lowerParts 39 = .ok (.iconst 0, 1) := by decide +kernel
theorem d_S_lowerParts_40 : decode c_S_lowerParts 40 = .ok (.istore_n 3, 1) := by decide +kernel
theorem d_S_lowerParts_41 : decode c_S_lowerParts 41 = .ok (.iload_n 3, 1) := by decide +kernel
theorem d_S_lowerParts_42 : decode c_S_lowerParts 42 = .ok (.aload_n 0, 1) := by decide +kernel
theorem d_S_lowerParts_43 : decode c_S_lowerParts 43 = .ok (.getfield 9, 3) := by decide +kernel
theorem d_S_lowerParts_46 : decode c_S_lowerParts 46 = .ok (.if_icmp .ge 21, 3) := by decide +kernel
theorem d_S_lowerParts_49 : decode c_S_lowerParts 49 = .ok (.aload_n 0, 1) := by decide +kernel
theorem d_S_lowerParts_50 : decode c_S_lowerParts 50 = .ok (.getfield 17, 3) := by decide +kernel
theorem d_S_lowerParts_53 : decode c_S_lowerParts 53 = .ok (.iload_n 1, 1) := by decide +kernel
theorem d_S_lowerParts_54 : decode c_S_lowerParts 54 = .ok (.aaload, 1) := by decide +kernel
theorem d_S_lowerParts_55 : decode c_S_lowerParts 55 = .ok (.iload_n 3, 1) := by decide +kernel
theorem d_S_lowerParts_56 : decode c_S_lowerParts 56 = .ok (.dup2, 1) := by decide +kernel
theorem d_S_lowerParts_57 : decode c_S_lowerParts 57 = .ok (.iaload, 1) := by decide +kernel
theorem d_S_lowerParts_58 : decode c_S_lowerParts 58 = .ok (.iload_n 2, 1) := by decide +kernel
theorem d_S_lowerParts_59 : decode c_S_lowerParts 59 = .ok (.idiv, 1) := by decide +kernel
theorem d_S_lowerParts_60 : decode c_S_lowerParts 60 = .ok (.iastore, 1) := by decide +kernel
theorem d_S_lowerParts_61 : decode c_S_lowerParts 61 = .ok (.iinc 3 1, 3) := by decide +kernel
theorem d_S_lowerParts_64 : decode c_S_lowerParts 64 = .ok (.goto (-23), 3) := by decide +kernel
theorem d_S_lowerParts_67 : decode c_S_lowerParts 67 = .ok (.return_, 1) := by decide +kernel
theorem d_S_sumUp_0 : decode c_S_sumUp 0 = .ok (.aload_n 0, 1) := by decide +kernel
theorem d_S_sumUp_1 : decode c_S_sumUp 1 = .ok (.getfield 20, 3) := by decide +kernel
theorem d_S_sumUp_4 : decode c_S_sumUp 4 = .ok (.iload_n 1, 1) := by decide +kernel
theorem d_S_sumUp_5 : decode c_S_sumUp 5 = .ok (.iconst 0, 1) := by decide +kernel
theorem d_S_sumUp_6 : decode c_S_sumUp 6 = .ok (.iastore, 1) := by decide +kernel
theorem d_S_sumUp_7 : decode c_S_sumUp 7 = .ok (.aload_n 0, 1) := by decide +kernel
theorem d_S_sumUp_8 : decode c_S_sumUp 8 = .ok (.getfield 24, 3) := by decide +kernel
theorem d_S_sumUp_11 : decode c_S_sumUp 11 = .ok (.iload_n 1, 1) := by decide +kernel
theorem d_S_sumUp_12 : decode c_S_sumUp 12 = .ok (.iconst 0, 1) := by decide +kernel
theorem d_S_sumUp_13 : decode c_S_sumUp 13 = .ok (.iastore, 1) := by decide +kernel
theorem d_S_sumUp_14 : decode c_S_sumUp 14 = .ok (.iconst 0, 1) := by decide +kernel
theorem d_S_sumUp_15 : decode c_S_sumUp 15 = .ok (.istore_n 2, 1) := by decide +kernel
theorem d_S_sumUp_16 : decode c_S_sumUp 16 = .ok (.iload_n 2, 1) := by decide +kernel
theorem d_S_sumUp_17 : decode c_S_sumUp 17 = .ok (.aload_n 0, 1) := by decide +kernel
theorem d_S_sumUp_18 : decode c_S_sumUp 18 = .ok (.getfield 9, 3) := by decide +kernel
theorem d_S_sumUp_21 : decode c_S_sumUp 21 = .ok (.if_icmp .ge 50, 3) := by decide +kernel
theorem d_S_sumUp_24 : decode c_S_sumUp 24 = .ok (.aload_n 0, 1) := by decide +kernel
theorem d_S_sumUp_25 : decode c_S_sumUp 25 = .ok (.getfield 20, 3) := by decide +kernel
theorem d_S_sumUp_28 : decode c_S_sumUp 28 = .ok (.iload_n 1, 1) := by decide +kernel
theorem d_S_sumUp_29 : decode c_S_sumUp 29 = .ok (.dup2, 1) := by decide +kernel
theorem d_S_sumUp_30 : decode c_S_sumUp 30 = .ok (.iaload, 1) := by decide +kernel
theorem d_S_sumUp_31 : decode c_S_sumUp 31 = .ok (.aload_n 0, 1) := by decide +kernel
theorem d_S_sumUp_32 : decode c_S_sumUp 32 = .ok (.getfield 17, 3) := by decide +kernel
theorem d_S_sumUp_35 : decode c_S_sumUp 35 = .ok (.iload_n 1, 1) := by decide +kernel
theorem d_S_sumUp_36 : decode c_S_sumUp 36 = .ok (.aaload, 1) := by decide +kernel
theorem d_S_sumUp_37 : decode c_S_sumUp 37 = .ok (.iload_n 2, 1) := by decide +kernel
theorem d_S_sumUp_38 : decode c_S_sumUp 38 = .ok (.iaload, 1) := by decide +kernel
theorem d_S_sumUp_39 : decode c_S_sumUp 39 = .ok (.iadd, 1) := by decide +kernel
theorem d_S_sumUp_40 : decode c_S_sumUp 40 = .ok (.iastore, 1) := by decide +kernel
theorem d_S_sumUp_41 : decode c_S_sumUp 41 = .ok (.aload_n 0, 1) := by decide +kernel
theorem d_S_sumUp_42 : decode c_S_sumUp 42 = .ok (.getfield 17, 3) := by decide +kernel
theorem d_S_sumUp_45 : decode c_S_sumUp 45 = .ok (.iload_n 1, 1) := by decide +kernel
theorem d_S_sumUp_46 : decode c_S_sumUp 46 = .ok (.aaload, 1) := by decide +kernel
theorem d_S_sumUp_47 : decode c_S_sumUp 47 = .ok (.iload_n 2, 1) := by decide +kernel
theorem d_S_sumUp_48 : decode c_S_sumUp 48 = .ok (.iaload, 1) := by decide +kernel
theorem d_S_sumUp_49 : decode c_S_sumUp 49 = .ok (.ifCond .le 16, 3) := by decide +kernel
theorem d_S_sumUp_52 : decode c_S_sumUp 52 = .ok (.aload_n 0, 1) := by decide +kernel
theorem d_S_sumUp_53 : decode c_S_sumUp 53 = .ok (.getfield 24, 3) := by decide +kernel
theorem d_S_sumUp_56 : decode c_S_sumUp 56 = .ok (.iload_n 1, 1) := by decide +kernel
theorem d_S_sumUp_57 : decode c_S_sumUp 57 = .ok (.dup2, 1) := by decide +kernel
theorem d_S_sumUp_58 : decode c_S_sumUp 58 = .ok (.iaload, 1) := by decide +kernel
theorem d_S_sumUp_59 : decode c_S_sumUp 59 = .ok (.iload_n 2, 1) := by decide +kernel
theorem d_S_sumUp_60 : decode c_S_sumUp 60 = .ok (.invokestatic 65, 3) := by decide +kernel
theorem d_S_sumUp_63 : decode c_S_sumUp 63 = .ok (.ior, 1) := by decide +kernel
theorem d_S_sumUp_64 : decode c_S_sumUp 64 = .ok (.iastore, 1) := by decide +kernel
theorem d_S_sumUp_65 : decode c_S_sumUp 65 = .ok (.iinc 2 1, 3) := by decide +kernel
theorem d_S_sumUp_68 : decode c_S_sumUp 68 = .ok (.goto (-52), 3) := by decide +kernel
theorem d_S_sumUp_71 : decode c_S_sumUp 71 = .ok (.return_, 1) := by decide +kernel
theorem d_C_renew_0 : decode c_C_renew 0 = .ok (.aload_n 0, 1) := by decide +kernel
theorem d_C_renew_1 : decode c_C_renew 1 = .ok (.aload_n 1, 1) := by decide +kernel
theorem d_C_renew_2 : decode c_C_renew 2 = .ok (.getfield 31, 3) := by decide +kernel
theorem d_C_renew_5 : decode c_C_renew 5 = .ok (.putfield 25, 3) := by decide +kernel
theorem d_C_renew_8 : decode c_C_renew 8 = .ok (.aload_n 0, 1) := by decide +kernel
theorem d_C_renew_9 : decode c_C_renew 9 = .ok (.iconst 0, 1) := by decide +kernel
theorem d_C_renew_10 : decode c_C_renew 10 = .ok (.putfield 9, 3) := by decide +kernel
theorem d_C_renew_13 : decode c_C_renew 13 = .ok (.iconst 0, 1) := by decide +kernel
theorem d_C_renew_14 : decode c_C_renew 14 = .ok (.istore_n 2, 1) := by decide +kernel
theorem d_C_renew_15 : decode c_C_renew 15 = .ok (.iload_n 2, 1) := by decide +kernel
theorem d_C_renew_16 : decode c_C_renew 16 = .ok (.aload_n 0, 1) := by decide +kernel
theorem d_C_renew_17 : decode c_C_renew 17 = .ok (.getfield 25, 3) := by decide +kernel
theorem d_C_renew_20 : decode c_C_renew 20 = .ok (.if_icmp .ge 29, 3) := by decide +kernel
theorem d_C_renew_23 : decode c_C_renew 23 = .ok (.aload_n 0, 1) := by decide +kernel
theorem d_C_renew_24 : decode c_C_renew 24 = .ok (.getfield 28, 3) := by decide +kernel
theorem d_C_renew_27 : decode c_C_renew 27 = .ok (.iload_n 2, 1) := by decide +kernel
theorem d_C_renew_28 : decode c_C_renew 28 = .ok (.aload_n 1, 1) := by decide +kernel
theorem d_C_renew_29 : decode c_C_renew 29 = .ok (.iload_n 2, 1) := by decide +kernel
theorem d_C_renew_30 : decode c_C_renew 30 = .ok (.iconst 0, 1) := by decide +kernel
theorem d_C_renew_31 : decode c_C_renew 31 = .ok (.invokevirtual 34, 3) := by decide +kernel
theorem d_C_renew_34 : decode c_C_renew 34 = .ok (.iastore, 1) := by decide +kernel
theorem d_C_renew_35 : decode c_C_renew 35 = .ok (.aload_n 0, 1) := by decide +kernel
theorem d_C_renew_36 : decode c_C_renew 36 = .ok (.getfield 22, 3) := by decide +kernel
theorem d_C_renew_39 : decode c_C_renew 39 = .ok (.iload_n 2, 1) := by decide +kernel
theorem d_C_renew_40 : decode c_C_renew 40 = .ok (.bipush (-3), 2) := by decide +kernel
theorem d_C_renew_42 : decode c_C_renew 42 = .ok (.iastore, 1) := by decide +kernel
theorem d_C_renew_43 : decode c_C_renew 43 = .ok (.iinc 2 1, 3) := by decide +kernel
theorem d_C_renew_46 : decode c_C_renew 46 = .ok (.goto (-31), 3) := by decide +kernel
theorem d_C_renew_49 : decode c_C_renew 49 = .ok (.iconst 0, 1) := by decide +kernel
theorem d_C_renew_50 : decode c_C_renew 50 = .ok (.istore_n 2, 1) := by decide +kernel
theorem d_C_renew_51 : decode c_C_renew 51 = .ok (.iload_n 2, 1) := by decide +kernel
theorem d_C_renew_52 : decode c_C_renew 52 = .ok (.aload_n 0, 1) := by decide +kernel
theorem d_C_renew_53 : decode c_C_renew 53 = .ok (.getfield 25, 3) := by decide +kernel
theorem d_C_renew_56 : decode c_C_renew 56 = .ok (.if_icmp .ge 33, 3) := by decide +kernel
theorem d_C_renew_59 : decode c_C_renew 59 = .ok (.aload_n 0, 1) := by decide +kernel
theorem d_C_renew_60 : decode c_C_renew 60 = .ok (.getfield 22, 3) := by decide +kernel
theorem d_C_renew_63 : decode c_C_renew 63 = .ok (.iload_n 2, 1) := by decide +kernel
theorem d_C_renew_64 : decode c_C_renew 64 = .ok (.iaload, 1) := by decide +kernel
theorem d_C_renew_65 : decode c_C_renew 65 = .ok (.bipush (-3), 2) := by decide +kernel
theorem d_C_renew_67 : decode c_C_renew 67 = .ok (.if_icmp .ne 16, 3) := by decide +kernel
theorem d_C_renew_70 : decode c_C_renew 70 = .ok (.aload_n 0, 1) := by decide +kernel
theorem d_C_renew_71 : decode c_C_renew 71 = .ok (.iload_n 2, 1) := by decide +kernel
theorem d_C_renew_72 : decode c_C_renew 72 = .ok (.invokevirtual 38, 3) := by decide +kernel
theorem d_C_renew_75 : decode c_C_renew 75 = .ok (.ifCond .eq 8, 3) := by decide +kernel
theorem d_C_renew_78 : decode c_C_renew 78 = .ok (.aload_n 0, 1) := by decide +kernel
theorem d_C_renew_79 : decode c_C_renew 79 = .ok (.iload_n 2, 1) := by decide +kernel
theorem d_C_renew_80 : decode c_C_renew 80 = .ok (.invokevirtual 42, 3) := by decide +kernel
theorem d_C_renew_83 : decode c_C_renew 83 = .ok (.iinc 2 1, 3) := by decide +kernel
theorem d_C_renew_86 : decode c_C_renew 86 = .ok (.goto (-35), 3) := by decide +kernel
theorem d_C_renew_89 : decode c_C_renew 89 = .ok (.return_, 1) := by decide +kernel
theorem d_S_nodesBehind_0 : decode c_S_nodesBehind 0 = .ok (.iload_n 1, 1) := by decide +kernel
theorem d_S_nodesBehind_1 : decode c_S_nodesBehind 1 = .ok (.invokestatic 65, 3) := by decide +kernel
theorem d_S_nodesBehind_4 : decode c_S_nodesBehind 4 = .ok (.istore_n 3, 1) := by decide +kernel
theorem d_S_nodesBehind_5 : decode c_S_nodesBehind 5 = .ok (.iconst 0, 1) := by decide +kernel
theorem d_S_nodesBehind_6 : decode c_S_nodesBehind 6 = .ok (.istore 4, 2) := by decide +kernel
theorem d_S_nodesBehind_8 : decode c_S_nodesBehind 8 = .ok (.iload 4, 2) := by decide +kernel
theorem d_S_nodesBehind_10 : decode c_S_nodesBehind 10 = .ok (.aload_n 0, 1) := by decide +kernel
theorem d_S_nodesBehind_11 : decode c_S_nodesBehind 11 = .ok (.getfield 9, 3) := by decide +kernel
theorem d_S_nodesBehind_14 : decode c_S_nodesBehind 14 = .ok (.if_icmp .ge 21, 3) := by decide +kernel
theorem d_S_nodesBehind_17 : decode c_S_nodesBehind 17 = .ok (.iload_n 3, 1) := by decide +kernel
theorem d_S_nodesBehind_18 : decode c_S_nodesBehind 18 = .ok (.aload_n 0, 1) := by decide +kernel
theorem d_S_nodesBehind_19 : decode c_S_nodesBehind 19 = .ok (.iload_n 3, 1) := by decide +kernel
theorem d_S_nodesBehind_20 : decode c_S_nodesBehind 20 = .ok (.invokevirtual 72, 3) := by decide +kernel
theorem d_S_nodesBehind_23 : decode c_S_nodesBehind 23 = .ok (.iload_n 2, 1) := by decide +kernel
theorem d_S_nodesBehind_24 : decode c_S_nodesBehind 24 = .ok (.iconst (-1), 1) := by decide +kernel
theorem d_S_nodesBehind_25 : decode c_S_nodesBehind 25 = .ok (.ixor, 1) := by decide +kernel
theorem d_S_nodesBehind_26 : decode c_S_nodesBehind 26 = .ok (.iand, 1) := by decide +kernel
theorem d_S_nodesBehind_27 : decode c_S_nodesBehind 27 = .ok (.ior, 1) := by decide +kernel
theorem d_S_nodesBehind_28 : decode c_S_nodesBehind 28 = .ok (.istore_n 3, 1) := by decide +kernel
theorem d_S_nodesBehind_29 : decode c_S_nodesBehind 29 = .ok (.iinc 4 1, 3) := by decide +kernel
theorem d_S_nodesBehind_32 : decode c_S_nodesBehind 32 = .ok (.goto (-24), 3) := by decide +kernel
theorem d_S_nodesBehind_35 : decode c_S_nodesBehind 35 = .ok (.iload_n 3, 1) := by decide +kernel
theorem d_S_nodesBehind_36 : decode c_S_nodesBehind 36 = .ok (.ireturn, 1) := by decide +kernel
theorem d_S_nextOf_0 : decode c_S_nextOf 0 = .ok (.iconst 0, 1) := by decide +kernel
theorem d_S_nextOf_1 : decode c_S_nextOf 1 = .ok (.istore_n 2, 1) := by decide +kernel
theorem d_S_nextOf_2 : decode c_S_nextOf 2 = .ok (.iconst 0, 1) := by decide +kernel
theorem d_S_nextOf_3 : decode c_S_nextOf 3 = .ok (.istore_n 3, 1) := by decide +kernel
theorem d_S_nextOf_4 : decode c_S_nextOf 4 = .ok (.iload_n 3, 1) := by decide +kernel
theorem d_S_nextOf_5 : decode c_S_nextOf 5 = .ok (.aload_n 0, 1) := by decide +kernel
theorem d_S_nextOf_6 : decode c_S_nextOf 6 = .ok (.getfield 9, 3) := by decide +kernel
theorem d_S_nextOf_9 : decode c_S_nextOf 9 = .ok (.if_icmp .ge 26, 3) := by decide +kernel
theorem d_S_nextOf_12 : decode c_S_nextOf 12 = .ok (.iload_n 1, 1) := by decide +kernel
theorem d_S_nextOf_13 : decode c_S_nextOf 13 = .ok (.iload_n 3, 1) := by decide +kernel
theorem d_S_nextOf_14 : decode c_S_nextOf 14 = .ok (.invokestatic 68, 3) := by decide +kernel
theorem d_S_nextOf_17 : decode c_S_nextOf 17 = .ok (.ifCond .eq 12, 3) := by decide +kernel
theorem d_S_nextOf_20 : decode c_S_nextOf 20 = .ok (.iload_n 2, 1) := by decide +kernel
theorem d_S_nextOf_21 : decode c_S_nextOf 21 = .ok (.aload_n 0, 1) := by decide +kernel
theorem d_S_nextOf_22 : decode c_S_nextOf 22 = .ok (.getfield 24, 3) := by decide +kernel
theorem d_S_nextOf_25 : decode c_S_nextOf 25 = .ok (.iload_n 3, 1) := by decide +kernel
theorem d_S_nextOf_26 : decode c_S_nextOf 26 = .ok (.iaload, 1) := by decide +kernel
theorem d_S_nextOf_27 : decode c_S_nextOf 27 = .ok (.ior, 1) := by decide +kernel
theorem d_S_nextOf_28 : decode c_S_nextOf 28 = .ok (.istore_n 2, 1) := by decide +kernel
theorem d_S_nextOf_29 : decode c_S_nextOf 29 = .ok (.iinc 3 1, 3) := by decide +kernel
theorem d_S_nextOf_32 : decode c_S_nextOf 32 = .ok (.goto (-28), 3) := by decide +kernel
theorem d_S_nextOf_35 : decode c_S_nextOf 35 = .ok (.iload_n 2, 1) := by decide +kernel
theorem d_S_nextOf_36 : decode c_S_nextOf 36 = .ok (.ireturn, 1) := by decide +kernel
theorem d_C_isClosedFrom_0 : decode c_C_isClosedFrom 0 = .ok (.aload_n 0, 1) := by decide +kernel
theorem d_C_isClosedFrom_1 : decode c_C_isClosedFrom 1 = .ok (.getfield 28, 3) := by decide +kernel
theorem d_C_isClosedFrom_4 : decode c_C_isClosedFrom 4 = .ok (.iload_n 1, 1) := by decide +kernel
theorem d_C_isClosedFrom_5 : decode c_C_isClosedFrom 5 = .ok (.iaload, 1) := by decide +kernel
theorem d_C_isClosedFrom_6 : decode c_C_isClosedFrom 6 = .ok (.aload_n 0, 1) := by decide +kernel
theorem d_C_isClosedFrom_7 : decode c_C_isClosedFrom 7 = .ok (.iload_n 1, 1) := by decide +kernel
theorem d_C_isClosedFrom_8 : decode c_C_isClosedFrom 8 = .ok (.invokestatic 46, 3) := by decide +kernel
theorem d_C_isClosedFrom_11 : decode c_C_isClosedFrom 11 = .ok (.invokevirtual 50, 3) := by decide +kernel
theorem d_C_isClosedFrom_14 : decode c_C_isClosedFrom 14 = .ok (.iconst (-1), 1) := by decide +kernel
theorem d_C_isClosedFrom_15 : decode c_C_isClosedFrom 15 = .ok (.ixor, 1) := by decide +kernel
theorem d_C_isClosedFrom_16 : decode c_C_isClosedFrom 16 = .ok (.iand, 1) := by decide +kernel
theorem d_C_isClosedFrom_17 : decode c_C_isClosedFrom 17 = .ok (.ifCond .ne 7, 3) := by decide +kernel
theorem d_C_isClosedFrom_20 : decode c_C_isClosedFrom 20 = .ok (.iconst 1, 1) := by decide +kernel
theorem d_C_isClosedFrom_21 : decode c_C_isClosedFrom 21 = .ok (.goto 4, 3) := by decide +kernel
theorem d_C_isClosedFrom_24 : decode c_C_isClosedFrom 24 = .ok (.iconst 0, 1) := by decide +kernel
theorem d_C_isClosedFrom_25 : decode c_C_isClosedFrom 25 = .ok (.ireturn, 1) := by decide +kernel
theorem d_C_leadingTo_0 : decode c_C_leadingTo 0 = .ok (.iconst 0, 1) := by decide +kernel
theorem d_C_leadingTo_1 : decode c_C_leadingTo 1 = .ok (.istore_n 2, 1) := by decide +kernel
theorem d_C_leadingTo_2 : decode c_C_leadingTo 2 = .ok (.iconst 0, 1) := by decide +kernel
theorem d_C_leadingTo_3 : decode c_C_leadingTo 3 = .ok (.istore_n 3, 1) := by decide +kernel
theorem d_C_leadingTo_4 : decode c_C_leadingTo 4 = .ok (.iload_n 3, 1) := by decide +kernel
theorem d_C_leadingTo_5 : decode c_C_leadingTo 5 = .ok (.aload_n 0, 1) := by decide +kernel
theorem d_C_leadingTo_6 : decode c_C_leadingTo 6 = .ok (.getfield 25, 3) := by decide +kernel
theorem d_C_leadingTo_9 : decode c_C_leadingTo 9 = .ok (.if_icmp .ge 27, 3) := by decide +kernel
theorem d_C_leadingTo_12 : decode c_C_leadingTo 12 = .ok (.aload_n 0, 1) := by decide +kernel
theorem d_C_leadingTo_13 : decode c_C_leadingTo 13 = .ok (.getfield 28, 3) := by decide +kernel
theorem d_C_leadingTo_16 : decode c_C_leadingTo 16 = .ok (.iload_n 3, 1) := by decide +kernel
theorem d_C_leadingTo_17 : decode c_C_leadingTo 17 = .ok (.iaload, 1) := by decide +kernel
theorem d_C_leadingTo_18 : decode c_C_leadingTo 18 = .ok (.iload_n 1, 1) := by decide +kernel
theorem d_C_leadingTo_19 : decode c_C_leadingTo 19 = .ok (.iand, 1) := by decide +kernel
theorem d_C_leadingTo_20 : decode c_C_leadingTo 20 = .ok (.ifCond .eq 10, 3) := by decide +kernel
theorem d_C_leadingTo_23 : decode c_C_leadingTo 23 = .ok (.iload_n 2, 1) := by decide +kernel
theorem d_C_leadingTo_24 : decode c_C_leadingTo 24 = .ok (.iload_n 3, 1) := by decide +kernel
theorem d_C_leadingTo_25 : decode c_C_leadingTo 25 = .ok (.invokestatic 46, 3) := by decide +kernel
theorem d_C_leadingTo_28 : decode c_C_leadingTo 28 = .ok (.ior, 1) := by decide +kernel
theorem d_C_leadingTo_29 : decode c_C_leadingTo 29 = .ok (.istore_n 2, 1) := by decide +kernel
theorem d_C_leadingTo_30 : decode c_C_leadingTo 30 = .ok (.iinc 3 1, 3) := by decide +kernel
theorem d_C_leadingTo_33 : decode c_C_leadingTo 33 = .ok (.goto (-29), 3) := by decide +kernel
theorem d_C_leadingTo_36 : decode c_C_leadingTo 36 = .ok (.iload_n 2, 1) := by decide +kernel
theorem d_C_leadingTo_37 : decode c_C_leadingTo 37 = .ok (.ireturn, 1) := by decide +kernel
theorem d_C_addSet_0 : decode c_C_addSet 0 = .ok (.aload_n 0, 1) := by decide +kernel
theorem d_C_addSet_1 : decode c_C_addSet 1 = .ok (.getfield 9, 3) := by decide +kernel
theorem d_C_addSet_4 : decode c_C_addSet 4 = .ok (.iconst 5, 1) := by decide +kernel
theorem d_C_addSet_5 : decode c_C_addSet 5 = .ok (.if_icmp .lt 4, 3) := by decide +kernel
theorem d_C_addSet_8 : decode c_C_addSet 8 = .ok (.return_, 1) := by decide +kernel
theorem d_C_addSet_9 : decode c_C_addSet 9 = .ok (.aload_n 0, 1) := by decide +kernel
theorem d_C_addSet_10 : decode c_C_addSet 10 = .ok (.getfield 15, 3) := by decide +kernel
theorem d_C_addSet_13 : decode c_C_addSet 13 = .ok (.aload_n 0, 1) := by decide +kernel
theorem d_C_addSet_14 : decode c_C_addSet 14 = .ok (.getfield 9, 3) := by decide +kernel
theorem d_C_addSet_17 : decode c_C_addSet 17 = .ok (.aload_n 0, 1) := by decide +kernel
theorem d_C_addSet_18 : decode c_C_addSet 18 = .ok (.getfield 28, 3) := by decide +kernel
theorem d_C_addSet_21 : decode c_C_addSet 21 = .ok (.iload_n 1, 1) := by decide +kernel
theorem d_C_addSet_22 : decode c_C_addSet 22 = .ok (.iaload, 1) := by decide +kernel
theorem d_C_addSet_23 : decode c_C_addSet 23 = .ok (.iastore, 1) := by decide +kernel
theorem d_C_addSet_24 : decode c_C_addSet 24 = .ok (.aload_n 0, 1) := by decide +kernel
theorem d_C_addSet_25 : decode c_C_addSet 25 = .ok (.getfield 19, 3) := by decide +kernel
theorem d_C_addSet_28 : decode c_C_addSet 28 = .ok (.aload_n 0, 1) := by decide +kernel
theorem d_C_addSet_29 : decode c_C_addSet 29 = .ok (.getfield 9, 3) := by decide +kernel
theorem d_C_addSet_32 : decode c_C_addSet 32 = .ok (.iload_n 1, 1) := by decide +kernel
theorem d_C_addSet_33 : decode c_C_addSet 33 = .ok (.iastore, 1) := by decide +kernel
theorem d_C_addSet_34 : decode c_C_addSet 34 = .ok (.iconst 0, 1) := by decide +kernel
theorem d_C_addSet_35 : decode c_C_addSet 35 = .ok (.istore_n 2, 1) := by decide +kernel
theorem d_C_addSet_36 : decode c_C_addSet 36 = .ok (.iload_n 2, 1) := by decide +kernel
theorem d_C_addSet_37 : decode c_C_addSet 37 = .ok (.aload_n 0, 1) := by decide +kernel
theorem d_C_addSet_38 : decode c_C_addSet 38 = .ok (.getfield 25, 3) := by decide +kernel
theorem d_C_addSet_41 : decode c_C_addSet 41 = .ok (.if_icmp .ge 32, 3) := by decide +kernel
theorem d_C_addSet_44 : decode c_C_addSet 44 = .ok (.aload_n 0, 1) := by decide +kernel
theorem d_C_addSet_45 : decode c_C_addSet 45 = .ok (.getfield 28, 3) := by decide +kernel
theorem d_C_addSet_48 : decode c_C_addSet 48 = .ok (.iload_n 1, 1) := by decide +kernel
theorem d_C_addSet_49 : decode c_C_addSet 49 = .ok (.iaload, 1) := by decide +kernel
theorem d_C_addSet_50 : decode c_C_addSet 50 = .ok (.iload_n 2, 1) := by decide +kernel
theorem d_C_addSet_51 : decode c_C_addSet 51 = .ok (.invokestatic 53, 3) := by decide +kernel
theorem d_C_addSet_54 : decode c_C_addSet 54 = .ok (.ifCond .eq 13, 3) := by decide +kernel
theorem d_C_addSet_57 : decode c_C_addSet 57 = .ok (.aload_n 0, 1) := by decide +kernel
theorem d_C_addSet_58 : decode c_C_addSet 58 = .ok (.getfield 22, 3) := by decide +kernel
theorem d_C_addSet_61 : decode c_C_addSet 61 = .ok (.iload_n 2, 1) := by decide +kernel
theorem d_C_addSet_62 : decode c_C_addSet 62 = .ok (.aload_n 0, 1) := by decide +kernel
theorem d_C_addSet_63 : decode c_C_addSet 63 = .ok (.getfield 9, 3) := by decide +kernel
theorem d_C_addSet_66 : decode c_C_addSet 66 = .ok (.iastore, 1) := by decide +kernel
theorem d_C_addSet_67 : decode c_C_addSet 67 = .ok (.iinc 2 1, 3) := by decide +kernel
theorem d_C_addSet_70 : decode c_C_addSet 70 = .ok (.goto (-34), 3) := by decide +kernel
theorem d_C_addSet_73 : decode c_C_addSet 73 = .ok (.aload_n 0, 1) := by decide +kernel
theorem d_C_addSet_74 : decode c_C_addSet 74 = .ok (.dup, 1) := by decide +kernel
theorem d_C_addSet_75 : decode c_C_addSet 75 = .ok (.getfield 9, 3) := by decide +kernel
theorem d_C_addSet_78 : decode c_C_addSet 78 = .ok (.iconst 1, 1) := by decide +kernel
theorem d_C_addSet_79 : decode c_C_addSet 79 = .ok (.iadd, 1) := by decide +kernel
theorem d_C_addSet_80 : decode c_C_addSet 80 = .ok (.putfield 9, 3) := by decide +kernel
theorem d_C_addSet_83 : decode c_C_addSet 83 = .ok (.return_, 1) := by decide +kernel
theorem d_S_periodAt_0 : decode c_S_periodAt 0 = .ok (.iconst 0, 1) := by decide +kernel
theorem d_S_periodAt_1 : decode c_S_periodAt 1 = .ok (.istore_n 2, 1) := by decide +kernel
theorem d_S_periodAt_2 : decode c_S_periodAt 2 = .ok (.iload_n 1, 1) := by decide +kernel
theorem d_S_periodAt_3 : decode c_S_periodAt 3 = .ok (.invokestatic 65, 3) := by decide +kernel
theorem d_S_periodAt_6 : decode c_S_periodAt 6 = .ok (.istore_n 3, 1) := by decide +kernel
theorem d_S_periodAt_7 : decode c_S_periodAt 7 = .ok (.iconst 1, 1) := by decide +kernel
theorem d_S_periodAt_8 : decode c_S_periodAt 8 = .ok (.istore 4, 2) := by decide +kernel
theorem d_S_periodAt_10 : decode c_S_periodAt 10 = .ok (.iload 4, 2) := by decide +kernel
theorem d_S_periodAt_12 : decode c_S_periodAt 12 = .ok (.bipush 15, 2) := by decide +kernel
theorem d_S_periodAt_14 : decode c_S_periodAt 14 = .ok (.if_icmp .gt 33, 3) := by decide +kernel
theorem d_S_periodAt_17 : decode c_S_periodAt 17 = .ok (.aload_n 0, 1) := by decide +kernel
theorem d_S_periodAt_18 : decode c_S_periodAt 18 = .ok (.iload_n 3, 1) := by decide +kernel
theorem d_S_periodAt_19 : decode c_S_periodAt 19 = .ok (.invokevirtual 72, 3) := by decide +kernel
theorem d_S_periodAt_22 : decode c_S_periodAt 22 = .ok (.istore_n 3, 1) := by decide +kernel
theorem d_S_periodAt_23 : decode c_S_periodAt 23 = .ok (.iload_n 3, 1) := by decide +kernel
theorem d_S_periodAt_24 : decode c_S_periodAt 24 = .ok (.iload_n 1, 1) := by decide +kernel
theorem d_S_periodAt_25 : decode c_S_periodAt 25 = .ok (.invokestatic 68, 3) := by decide +kernel
theorem d_S_periodAt_28 : decode c_S_periodAt 28 = .ok (.ifCond .eq 13, 3) := by decide +kernel
theorem d_S_periodAt_31 : decode c_S_periodAt 31 = .ok (.iload_n 2, 1) := by decide +kernel
theorem d_S_periodAt_32 : decode c_S_periodAt 32 = .ok (.i2l, 1) := by decide +kernel
theorem d_S_periodAt_33 : decode c_S_periodAt 33 = .ok (.iload 4, 2) := by decide +kernel
theorem d_S_periodAt_35 : decode c_S_periodAt 35 = .ok (.i2l, 1) := by decide +kernel
theorem d_S_periodAt_36 : decode c_S_periodAt 36 = .ok (.invokestatic 61, 3) := by decide +kernel
theorem d_S_periodAt_39 : decode c_S_periodAt 39 = .ok (.l2i, 1) := by decide +kernel
theorem d_S_periodAt_40 : decode c_S_periodAt 40 = .ok (.istore_n 2, 1) := by decide +kernel
theorem d_S_periodAt_41 : decode c_S_periodAt 41 = .ok (.iinc 4 1, 3) := by decide +kernel
theorem d_S_periodAt_44 : decode c_S_periodAt 44 = .ok (.goto (-34), 3) := by decide +kernel
theorem d_S_periodAt_47 : decode c_S_periodAt 47 = .ok (.iload_n 2, 1) := by decide +kernel
theorem d_S_periodAt_48 : decode c_S_periodAt 48 = .ok (.ireturn, 1) := by decide +kernel
theorem d_E_fill_0 : decode c_E_fill 0 = .ok (.aload_n 0, 1) := by decide +kernel
theorem d_E_fill_1 : decode c_E_fill 1 = .ok (.aload_n 1, 1) := by decide +kernel
theorem d_E_fill_2 : decode c_E_fill 2 = .ok (.getfield 20, 3) := by decide +kernel
theorem d_E_fill_5 : decode c_E_fill 5 = .ok (.putfield 9, 3) := by decide +kernel
theorem d_E_fill_8 : decode c_E_fill 8 = .ok (.iconst 0, 1) := by decide +kernel
theorem d_E_fill_9 : decode c_E_fill 9 = .ok (.istore_n 3, 1) := by decide +kernel
theorem d_E_fill_10 : decode c_E_fill 10 = .ok (.iload_n 3, 1) := by decide +kernel
theorem d_E_fill_11 : decode c_E_fill 11 = .ok (.aload_n 0, 1) := by decide +kernel
theorem d_E_fill_12 : decode c_E_fill 12 = .ok (.getfield 9, 3) := by decide +kernel
theorem d_E_fill_15 : decode c_E_fill 15 = .ok (.if_icmp .ge 114, 3) := by decide +kernel
theorem d_E_fill_18 : decode c_E_fill 18 = .ok (.iconst 0, 1) := by decide +kernel
theorem d_E_fill_19 : decode c_E_fill 19 = .ok (.istore 4, 2) := by decide +kernel
theorem d_E_fill_21 : decode c_E_fill 21 = .ok (.iload 4, 2) := by decide +kernel
theorem d_E_fill_23 : decode c_E_fill 23 = .ok (.aload_n 0, 1) := by decide +kernel
theorem d_E_fill_24 : decode c_E_fill 24 = .ok (.getfield 9, 3) := by decide +kernel
theorem d_E_fill_27 : decode c_E_fill 27 = .ok (.if_icmp .ge 96, 3) := by decide +kernel
theorem d_E_fill_30 : decode c_E_fill 30 = .ok (.iload_n 2, 1) := by decide +kernel
theorem d_E_fill_31 : decode c_E_fill 31 = .ok (.iload_n 3, 1) := by decide +kernel
theorem d_E_fill_32 : decode c_E_fill 32 = .ok (.invokestatic 23, 3) := by decide +kernel
theorem d_E_fill_35 : decode c_E_fill 35 = .ok (.ifCond .eq 16, 3) := by decide +kernel
theorem d_E_fill_38 : decode c_E_fill 38 = .ok (.iload_n 2, 1) := by decide +kernel
theorem d_E_fill_39 : decode c_E_fill 39 = .ok (.iload 4, 2) := by decide +kernel
theorem d_E_fill_41 : decode c_E_fill 41 = .ok (.invokestatic 23, 3) := by decide +kernel
theorem d_E_fill_44 : decode c_E_fill 44 = .ok (.ifCond .eq 7, 3) := by decide +kernel
theorem d_E_fill_47 : decode c_E_fill 47 = .ok (.iconst 1, 1) := by decide +kernel
theorem d_E_fill_48 : decode c_E_fill 48 = .ok (.goto 4, 3) := by decide +kernel
theorem d_E_fill_51 : decode c_E_fill 51 = .ok (.iconst 0, 1) := by decide +kernel
theorem d_E_fill_52 : decode c_E_fill 52 = .ok (.istore 5, 2) := by decide +kernel
theorem d_E_fill_54 : decode c_E_fill 54 = .ok (.iload 5, 2) := by decide +kernel
theorem d_E_fill_56 : decode c_E_fill 56 = .ok (.ifCond .eq 13, 3) := by decide +kernel
theorem d_E_fill_59 : decode c_E_fill 59 = .ok (.aload_n 1, 1) := by decide +kernel
theorem d_E_fill_60 : decode c_E_fill 60 = .ok (.getfield 27, 3) := by decide +kernel
theorem d_E_fill_63 : decode c_E_fill 63 = .ok (.iload_n 3, 1) := by decide +kernel
theorem d_E_fill_64 : decode c_E_fill 64 = .ok (.iaload, 1) := by decide +kernel
theorem d_E_fill_65 : decode c_E_fill 65 = .ok (.i2l, 1) := by decide +kernel
theorem d_E_fill_66 : decode c_E_fill 66 = .ok (.goto 4, 3) := by decide +kernel
theorem d_E_fill_69 : decode c_E_fill 69 = .ok (.lconst 1, 1) := by decide +kernel
theorem d_E_fill_70 : decode c_E_fill 70 = .ok (.lstore 6, 2) := by decide +kernel
theorem d_E_fill_72 : decode c_E_fill 72 = .ok (.iload 5, 2) := by decide +kernel
theorem d_E_fill_74 : decode c_E_fill 74 = .ok (.ifCond .eq 16, 3) := by decide +kernel
theorem d_E_fill_77 : decode c_E_fill 77 = .ok (.aload_n 1, 1) := by decide +kernel
theorem d_E_fill_78 : decode c_E_fill 78 = .ok (.getfield 31, 3) := by decide +kernel
theorem d_E_fill_81 : decode c_E_fill 81 = .ok (.iload_n 3, 1) := by decide +kernel
theorem d_E_fill_82 : decode c_E_fill 82 = .ok (.aaload, 1) := by decide +kernel
theorem d_E_fill_83 : decode c_E_fill 83 = .ok (.iload 4, 2) := by decide +kernel
theorem d_E_fill_85 : decode c_E_fill 85 = .ok (.iaload, 1) := by decide +kernel
theorem d_E_fill_86 : decode c_E_fill 86 = .ok (.i2l, 1) := by decide +kernel
theorem d_E_fill_87 : decode c_E_fill 87 = .ok (.goto 4, 3) := by decide +kernel
theorem d_E_fill_90 : decode c_E_fill 90 = .ok (.lconst 0, 1) := by decide +kernel
theorem d_E_fill_91 : decode c_E_fill 91 = .ok (.lstore 8, 2) := by decide +kernel
theorem d_E_fill_93 : decode c_E_fill 93 = .ok (.aload_n 0, 1) := by decide +kernel
theorem d_E_fill_94 : decode c_E_fill 94 = .ok (.getfield 17, 3) := by decide +kernel
theorem d_E_fill_97 : decode c_E_fill 97 = .ok (.iload_n 3, 1) := by decide +kernel
theorem d_E_fill_98 : decode c_E_fill 98 = .ok (.aaload, 1) := by decide +kernel
theorem d_E_fill_99 : decode c_E_fill 99 = .ok (.iload 4, 2) := by decide +kernel
theorem d_E_fill_101 : decode c_E_fill 101 = .ok (.iload_n 3, 1) := by decide +kernel
theorem d_E_fill_102 : decode c_E_fill 102 = .ok (.iload 4, 2) := by decide +kernel
theorem d_E_fill_104 : decode c_E_fill 104 = .ok (.if_icmp .ne 8, 3) := by decide +kernel
theorem d_E_fill_107 : decode c_E_fill 107 = .ok (.lload 6, 2) := by decide +kernel
theorem d_E_fill_109 : decode c_E_fill 109 = .ok (.goto 4, 3) := by decide +kernel
theorem d_E_fill_112 : decode c_E_fill 112 = .ok (.lconst 0, 1) := by decide +kernel
theorem d_E_fill_113 : decode c_E_fill 113 = .ok (.lload 8, 2) := by decide +kernel
theorem d_E_fill_115 : decode c_E_fill 115 = .ok (.lsub, 1) := by decide +kernel
theorem d_E_fill_116 : decode c_E_fill 116 = .ok (.lastore, 1) := by decide +kernel
theorem d_E_fill_117 : decode c_E_fill 117 = .ok (.iinc 4 1, 3) := by decide +kernel
theorem d_E_fill_120 : decode c_E_fill 120 = .ok (.goto (-99), 3) := by decide +kernel
theorem d_E_fill_123 : decode c_E_fill 123 = .ok (.iinc 3 1, 3) := by decide +kernel
theorem d_E_fill_126 : decode c_E_fill 126 = .ok (.goto (-116), 3) := by decide +kernel
theorem d_E_fill_129 : decode c_E_fill 129 = .ok (.return_, 1) := by decide +kernel
theorem d_E_determinant_0 : decode c_E_determinant 0 = .ok (.aload_n 0, 1) := by decide +kernel
theorem d_E_determinant_1 : decode c_E_determinant 1 = .ok (.getfield 17, 3) := by decide +kernel
theorem d_E_determinant_4 : decode c_E_determinant 4 = .ok (.aload_n 0, 1) := by decide +kernel
theorem d_E_determinant_5 : decode c_E_determinant 5 = .ok (.getfield 9, 3) := by decide +kernel
theorem d_E_determinant_8 : decode c_E_determinant 8 = .ok (.iconst 0, 1) := by decide +kernel
theorem d_E_determinant_9 : decode c_E_determinant 9 = .ok (.iconst 0, 1) := by decide +kernel
theorem d_E_determinant_10 : decode c_E_determinant 10 = .ok (.invokestatic 35, 3) := by decide +kernel
theorem d_E_determinant_13 : decode c_E_determinant 13 = .ok (.lreturn, 1) := by decide +kernel
theorem d_E_expand_0 : decode c_E_expand 0 = .ok (.iload_n 2, 1) := by decide +kernel
theorem d_E_expand_1 : decode c_E_expand 1 = .ok (.iload_n 1, 1) := by decide +kernel
theorem d_E_expand_2 : decode c_E_expand 2 = .ok (.if_icmp .lt 5, 3) := by decide +kernel
theorem d_E_expand_5 : decode c_E_expand 5 = .ok (.lconst 1, 1) := by decide +kernel
theorem d_E_expand_6 : decode c_E_expand 6 = .ok (.lreturn, 1) := by decide +kernel
theorem d_E_expand_7 : decode c_E_expand 7 = .ok (.lconst 0, 1) := by decide +kernel
theorem d_E_expand_8 : decode c_E_expand 8 = .ok (.lstore 4, 2) := by decide +kernel
theorem d_E_expand_10 : decode c_E_expand 10 = .ok (.lconst 1, 1) := by decide +kernel
theorem d_E_expand_11 : decode c_E_expand 11 = .ok (.lstore 6, 2) := by decide +kernel
theorem d_E_expand_13 : decode c_E_expand 13 = .ok (.iconst 0, 1) := by decide +kernel
theorem d_E_expand_14 : decode c_E_expand 14 = .ok (.istore 8, 2) := by decide +kernel
theorem d_E_expand_16 : decode c_E_expand 16 = .ok (.iload 8, 2) := by decide +kernel
theorem d_E_expand_18 : decode c_E_expand 18 = .ok (.iload_n 1, 1) := by decide +kernel
theorem d_E_expand_19 : decode c_E_expand 19 = .ok (.if_icmp .ge 67, 3) := by decide +kernel
theorem d_E_expand_22 : decode c_E_expand 22 = .ok (.iload_n 3, 1) := by decide +kernel
theorem d_E_expand_23 : decode c_E_expand 23 = .ok (.iload 8, 2) := by decide +kernel
theorem d_E_expand_25 : decode c_E_expand 25 = .ok (.invokestatic 23, 3) := by decide +kernel
theorem d_E_expand_28 : decode c_E_expand 28 = .ok (.ifCond .eq 6, 3) := by decide +kernel
theorem d_E_expand_31 : decode c_E_expand 31 = .ok (.goto 49, 3) := by decide +kernel
theorem d_E_expand_34 : decode c_E_expand 34 = .ok (.aload_n 0, 1) := by decide +kernel
theorem d_E_expand_35 : decode c_E_expand 35 = .ok (.iload_n 2, 1) := by decide +kernel
theorem d_E_expand_36 : decode c_E_expand 36 = .ok (.aaload, 1) := by decide +kernel
theorem d_E_expand_37 : decode c_E_expand 37 = .ok (.iload 8, 2) := by decide +kernel
theorem d_E_expand_39 : decode c_E_expand 39 = .ok (.laload, 1) := by decide +kernel
theorem d_E_expand_40 : decode c_E_expand 40 = .ok (.lstore 9, 2) := by decide +kernel
theorem d_E_expand_42 : decode c_E_expand 42 = .ok (.lload 9, 2) := by decide +kernel
theorem d_E_expand_44 : decode c_E_expand 44 = .ok (.lconst 0, 1) := by decide +kernel
theorem d_E_expand_45 : decode c_E_expand 45 = .ok (.lcmp, 1) := by decide +kernel
theorem d_E_expand_46 : decode c_E_expand 46 = .ok (.ifCond .eq 29, 3) := by decide +kernel
theorem d_E_expand_49 : decode c_E_expand 49 = .ok (.lload 4, 2) := by decide +kernel
theorem d_E_expand_51 : decode c_E_expand 51 = .ok (.lload 6, 2) := by decide +kernel
theorem d_E_expand_53 : decode c_E_expand 53 = .ok (.lload 9, 2) := by decide +kernel
theorem d_E_expand_55 : decode c_E_expand 55 = .ok (.lmul, 1) := by decide +kernel
theorem d_E_expand_56 : decode c_E_expand 56 = .ok (.aload_n 0, 1) := by decide +kernel
theorem d_E_expand_57 : decode c_E_expand 57 = .ok (.iload_n 1, 1) := by decide +kernel
theorem d_E_expand_58 : decode c_E_expand 58 = .ok (.iload_n 2, 1) := by decide +kernel
theorem d_E_expand_59 : decode c_E_expand 59 = .ok (.iconst 1, 1) := by decide +kernel
theorem d_E_expand_60 : decode c_E_expand 60 = .ok (.iadd, 1) := by decide +kernel
theorem d_E_expand_61 : decode c_E_expand 61 = .ok (.iload_n 3, 1) := by decide +kernel
theorem d_E_expand_62 : decode c_E_expand 62 = .ok (.iload 8, 2) := by decide +kernel
theorem d_E_expand_64 : decode c_E_expand 64 = .ok (.invokestatic 39, 3) := by decide +kernel
theorem d_E_expand_67 : decode c_E_expand 67 = .ok (.ior, 1) := by decide +kernel
theorem d_E_expand_68 : decode c_E_expand 68 = .ok (.invokestatic 35, 3) := by decide +kernel
theorem d_E_expand_71 : decode c_E_expand 71 = .ok (.lmul, 1) := by decide +kernel
theorem d_E_expand_72 : decode c_E_expand 72 = .ok (.ladd, 1) := by decide +kernel
theorem d_E_expand_73 : decode c_E_expand 73 = .ok (.lstore 4, 2) := by decide +kernel
theorem d_E_expand_75 : decode c_E_expand 75 = .ok (.lload 6, 2) := by decide +kernel
theorem d_E_expand_77 : decode c_E_expand 77 = .ok (.lneg, 1) := by decide +kernel
theorem d_E_expand_78 : decode c_E_expand 78 = .ok (.lstore 6, 2) := by decide +kernel
theorem d_E_expand_80 : decode c_E_expand 80 = .ok (.iinc 8 1, 3) := by decide +kernel
theorem d_E_expand_83 : decode c_E_expand 83 = .ok (.goto (-67), 3) := by decide +kernel
theorem d_E_expand_86 : decode c_E_expand 86 = .ok (.lload 4, 2) := by decide +kernel
theorem d_E_expand_88 : decode c_E_expand 88 = .ok (.lreturn, 1) := by decide +kernel
theorem d_E_putChances_0 : decode c_E_putChances 0 = .ok (.iconst 0, 1) := by decide +kernel
theorem d_E_putChances_1 : decode c_E_putChances 1 = .ok (.istore 5, 2) := by decide +kernel
theorem d_E_putChances_3 : decode c_E_putChances 3 = .ok (.iload 5, 2) := by decide +kernel
theorem d_E_putChances_5 : decode c_E_putChances 5 = .ok (.aload_n 0, 1) := by decide +kernel
theorem d_E_putChances_6 : decode c_E_putChances 6 = .ok (.getfield 9, 3) := by decide +kernel
theorem d_E_putChances_9 : decode c_E_putChances 9 = .ok (.if_icmp .ge 80, 3) := by decide +kernel
theorem d_E_putChances_12 : decode c_E_putChances 12 = .ok (.aload_n 0, 1) := by decide +kernel
theorem d_E_putChances_13 : decode c_E_putChances 13 = .ok (.getfield 17, 3) := by decide +kernel
theorem d_E_putChances_16 : decode c_E_putChances 16 = .ok (.iload 5, 2) := by decide +kernel
theorem d_E_putChances_18 : decode c_E_putChances 18 = .ok (.aaload, 1) := by decide +kernel
theorem d_E_putChances_19 : decode c_E_putChances 19 = .ok (.iload 4, 2) := by decide +kernel
theorem d_E_putChances_21 : decode c_E_putChances 21 = .ok (.lconst 0, 1) := by decide +kernel
theorem d_E_putChances_22 : decode c_E_putChances 22 = .ok (.lastore, 1) := by decide +kernel
theorem d_E_putChances_23 : decode c_E_putChances 23 = .ok (.iconst 0, 1) := by decide +kernel
theorem d_E_putChances_24 : decode c_E_putChances 24 = .ok (.istore 6, 2) := by decide +kernel
theorem d_E_putChances_26 : decode c_E_putChances 26 = .ok (.iload 6, 2) := by decide +kernel
theorem d_E_putChances_28 : decode c_E_putChances 28 = .ok (.aload_n 0, 1) := by decide +kernel
theorem d_E_putChances_29 : decode c_E_putChances 29 = .ok (.getfield 9, 3) := by decide +kernel
theorem d_E_putChances_32 : decode c_E_putChances 32 = .ok (.if_icmp .ge 51, 3) := by decide +kernel
theorem d_E_putChances_35 : decode c_E_putChances 35 = .ok (.iload_n 2, 1) := by decide +kernel
theorem d_E_putChances_36 : decode c_E_putChances 36 = .ok (.iload 5, 2) := by decide +kernel
theorem d_E_putChances_38 : decode c_E_putChances 38 = .ok (.invokestatic 23, 3) := by decide +kernel
theorem d_E_putChances_41 : decode c_E_putChances 41 = .ok (.ifCond .eq 36, 3) := by decide +kernel
theorem d_E_putChances_44 : decode c_E_putChances 44 = .ok (.iload_n 3, 1) := by decide +kernel
theorem d_E_putChances_45 : decode c_E_putChances 45 = .ok (.iload 6, 2) := by decide +kernel
theorem d_E_putChances_47 : decode c_E_putChances 47 = .ok (.invokestatic 23, 3) := by decide +kernel
theorem d_E_putChances_50 : decode c_E_putChances 50 = .ok (.ifCond .eq 27, 3) := by decide +kernel
theorem d_E_putChances_53 : decode c_E_putChances 53 = .ok (.aload_n 0, 1) := by decide +kernel
theorem d_E_putChances_54 : decode c_E_putChances 54 = .ok (.getfield 17, 3) := by decide +kernel
theorem d_E_putChances_57 : decode c_E_putChances 57 = .ok (.iload 5, 2) := by decide +kernel
theorem d_E_putChances_59 : decode c_E_putChances 59 = .ok (.aaload, 1) := by decide +kernel
theorem d_E_putChances_60 : decode c_E_putChances 60 = .ok (.iload 4, 2) := by decide +kernel
theorem d_E_putChances_62 : decode c_E_putChances 62 = .ok (.dup2, 1) := by decide +kernel
theorem d_E_putChances_63 : decode c_E_putChances 63 = .ok (.laload, 1) := by decide +kernel
theorem d_E_putChances_64 : decode c_E_putChances 64 = .ok (.aload_n 1, 1) := by decide +kernel
theorem d_E_putChances_65 : decode c_E_putChances 65 = .ok (.getfield 31, 3) := by decide +kernel
theorem d_E_putChances_68 : decode c_E_putChances 68 = .ok (.iload 5, 2) := by decide +kernel
theorem d_E_putChances_70 : decode c_E_putChances 70 = .ok (.aaload, 1) := by decide +kernel
theorem d_E_putChances_71 : decode c_E_putChances 71 = .ok (.iload 6, 2) := by decide +kernel
theorem d_E_putChances_73 : decode c_E_putChances 73 = .ok (.iaload, 1) := by decide +kernel
theorem d_E_putChances_74 : decode c_E_putChances 74 = .ok (.i2l, 1) := by decide +kernel
theorem d_E_putChances_75 : decode c_E_putChances 75 = .ok (.ladd, 1) := by decide +kernel
theorem d_E_putChances_76 : decode c_E_putChances 76 = .ok (.lastore, 1) := by decide +kernel
theorem d_E_putChances_77 : decode c_E_putChances 77 = .ok (.iinc 6 1, 3) := by decide +kernel
theorem d_E_putChances_80 : decode c_E_putChances 80 = .ok (.goto (-54), 3) := by decide +kernel
theorem d_E_putChances_83 : decode c_E_putChances 83 = .ok (.iinc 5 1, 3) := by decide +kernel
theorem d_E_putChances_86 : decode c_E_putChances 86 = .ok (.goto (-83), 3) := by decide +kernel
theorem d_E_putChances_89 : decode c_E_putChances 89 = .ok (.return_, 1) := by decide +kernel
theorem d_E_putStepCounts_0 : decode c_E_putStepCounts 0 = .ok (.iconst 0, 1) := by decide +kernel
theorem d_E_putStepCounts_1 : decode c_E_putStepCounts 1 = .ok (.istore 4, 2) := by decide +kernel
theorem d_E_putStepCounts_3 : decode c_E_putStepCounts 3 = .ok (.iload 4, 2) := by decide +kernel
theorem d_E_putStepCounts_5 : decode c_E_putStepCounts 5 = .ok (.aload_n 0, 1) := by decide +kernel
theorem d_E_putStepCounts_6 : decode c_E_putStepCounts 6 = .ok (.getfield 9, 3) := by decide +kernel
theorem d_E_putStepCounts_9 : decode c_E_putStepCounts 9 = .ok (.if_icmp .ge 39, 3) := by decide +kernel
theorem d_E_putStepCounts_12 : decode c_E_putStepCounts 12 = .ok (.aload_n 0, 1) := by decide +kernel
theorem d_E_putStepCounts_13 : decode c_E_putStepCounts 13 = .ok (.getfield 17, 3) := by decide +kernel
theorem d_E_putStepCounts_16 : decode c_E_putStepCounts 16 = .ok (.iload 4, 2) := by decide +kernel
theorem d_E_putStepCounts_18 : decode c_E_putStepCounts 18 = .ok (.aaload, 1) := by decide +kernel
theorem d_E_putStepCounts_19 : decode c_E_putStepCounts 19 = .ok (.iload_n 3, 1) := by decide +kernel
theorem d_E_putStepCounts_20 : decode c_E_putStepCounts 20 = .ok (.iload_n 2, 1) := by decide +kernel
theorem d_E_putStepCounts_21 : decode c_E_putStepCounts 21 = .ok (.iload 4, 2) := by decide +kernel
theorem d_E_putStepCounts_23 : decode c_E_putStepCounts 23 = .ok (.invokestatic 23, 3) := by decide +kernel
theorem d_E_putStepCounts_26 : decode c_E_putStepCounts 26 = .ok (.ifCond .eq 14, 3) := by decide +kernel
theorem d_E_putStepCounts_29 : decode c_E_putStepCounts 29 = .ok (.aload_n 1, 1) := by decide +kernel
theorem d_E_putStepCounts_30 : decode c_E_putStepCounts 30 = .ok (.getfield 27, 3) := by decide +kernel
theorem d_E_putStepCounts_33 : decode c_E_putStepCounts 33 = .ok (.iload 4, 2) := by decide +kernel
theorem d_E_putStepCounts_35 : decode c_E_putStepCounts 35 = .ok (.iaload, 1) := by decide +kernel
theorem d_E_putStepCounts_36 : decode c_E_putStepCounts 36 = .ok (.i2l, 1) := by decide +kernel
theorem d_E_putStepCounts_37 : decode c_E_putStepCounts 37 = .ok (.goto 4, 3) := by decide +kernel
theorem d_E_putStepCounts_40 : decode c_E_putStepCounts 40 = .ok (.lconst 0, 1) := by decide +kernel
theorem d_E_putStepCounts_41 : decode c_E_putStepCounts 41 = .ok (.lastore, 1) := by decide +kernel
theorem d_E_putStepCounts_42 : decode c_E_putStepCounts 42 = .ok (.iinc 4 1, 3) := by decide +kernel
theorem d_E_putStepCounts_45 : decode c_E_putStepCounts 45 = .ok (.goto (-42), 3) := by decide +kernel
theorem d_E_putStepCounts_48 : decode c_E_putStepCounts 48 = .ok (.return_, 1) := by decide +kernel
theorem d_S_commonTotal_0 : decode c_S_commonTotal 0 = .ok (.lconst 1, 1) := by decide +kernel
theorem d_S_commonTotal_1 : decode c_S_commonTotal 1 = .ok (.lstore_n 1, 1) := by decide +kernel
theorem d_S_commonTotal_2 : decode c_S_commonTotal 2 = .ok (.iconst 0, 1) := by decide +kernel
theorem d_S_commonTotal_3 : decode c_S_commonTotal 3 = .ok (.istore_n 3, 1) := by decide +kernel
theorem d_S_commonTotal_4 : decode c_S_commonTotal 4 = .ok (.iload_n 3, 1) := by decide +kernel
theorem d_S_commonTotal_5 : decode c_S_commonTotal 5 = .ok (.aload_n 0, 1) := by decide +kernel
theorem d_S_commonTotal_6 : decode c_S_commonTotal 6 = .ok (.getfield 9, 3) := by decide +kernel
theorem d_S_commonTotal_9 : decode c_S_commonTotal 9 = .ok (.if_icmp .ge 42, 3) := by decide +kernel
theorem d_S_commonTotal_12 : decode c_S_commonTotal 12 = .ok (.lload_n 1, 1) := by decide +kernel
theorem d_S_commonTotal_13 : decode c_S_commonTotal 13 = .ok (.aload_n 0, 1) := by decide +kernel
theorem d_S_commonTotal_14 : decode c_S_commonTotal 14 = .ok (.getfield 20, 3) := by decide +kernel
theorem d_S_commonTotal_17 : decode c_S_commonTotal 17 = .ok (.iload_n 3, 1) := by decide +kernel
theorem d_S_commonTotal_18 : decode c_S_commonTotal 18 = .ok (.iaload, 1) := by decide +kernel
theorem d_S_commonTotal_19 : decode c_S_commonTotal 19 = .ok (.i2l, 1) := by decide +kernel
theorem d_S_commonTotal_20 : decode c_S_commonTotal 20 = .ok (.invokestatic 61, 3) := by decide +kernel
theorem d_S_commonTotal_23 : decode c_S_commonTotal 23 = .ok (.lstore 4, 2) := by decide +kernel
theorem d_S_commonTotal_25 : decode c_S_commonTotal 25 = .ok (.lload 4, 2) := by decide +kernel
theorem d_S_commonTotal_27 : decode c_S_commonTotal 27 = .ok (.lconst 0, 1) := by decide +kernel
theorem d_S_commonTotal_28 : decode c_S_commonTotal 28 = .ok (.lcmp, 1) := by decide +kernel
theorem d_S_commonTotal_29 : decode c_S_commonTotal 29 = .ok (.ifCond .eq 16, 3) := by decide +kernel
theorem d_S_commonTotal_32 : decode c_S_commonTotal 32 = .ok (.lload_n 1, 1) := by decide +kernel
theorem d_S_commonTotal_33 : decode c_S_commonTotal 33 = .ok (.lload 4, 2) := by decide +kernel
theorem d_S_commonTotal_35 : decode c_S_commonTotal 35 = .ok (.ldiv, 1) := by decide +kernel
theorem d_S_commonTotal_36 : decode c_S_commonTotal 36 = .ok (.aload_n 0, 1) := by decide +kernel
theorem d_S_commonTotal_37 : decode c_S_commonTotal 37 = .ok (.getfield 20, 3) := by decide +kernel
theorem d_S_commonTotal_40 : decode c_S_commonTotal 40 = .ok (.iload_n 3, 1) := by decide +kernel
theorem d_S_commonTotal_41 : decode c_S_commonTotal 41 = .ok (.iaload, 1) := by decide +kernel
theorem d_S_commonTotal_42 : decode c_S_commonTotal 42 = .ok (.i2l, 1) := by decide +kernel
theorem d_S_commonTotal_43 : decode c_S_commonTotal 43 = .ok (.lmul, 1) := by decide +kernel
theorem d_S_commonTotal_44 : decode c_S_commonTotal 44 = .ok (.lstore_n 1, 1) := by decide +kernel
theorem d_S_commonTotal_45 : decode c_S_commonTotal 45 = .ok (.iinc 3 1, 3) := by decide +kernel
theorem d_S_commonTotal_48 : decode c_S_commonTotal 48 = .ok (.goto (-44), 3) := by decide +kernel
theorem d_S_commonTotal_51 : decode c_S_commonTotal 51 = .ok (.lload_n 1, 1) := by decide +kernel
theorem d_S_commonTotal_52 : decode c_S_commonTotal 52 = .ok (.lreturn, 1) := by decide +kernel
theorem d_P_fillBySteps_0 : decode c_P_fillBySteps 0 = .ok (.aload_n 0, 1) := by decide +kernel
theorem d_P_fillBySteps_1 : decode c_P_fillBySteps 1 = .ok (.aload_n 1, 1) := by decide +kernel
theorem d_P_fillBySteps_2 : decode c_P_fillBySteps 2 = .ok (.getfield 34, 3) := by decide +kernel
theorem d_P_fillBySteps_5 : decode c_P_fillBySteps 5 = .ok (.putfield 18, 3) := by decide +kernel
theorem d_P_fillBySteps_8 : decode c_P_fillBySteps 8 = .ok (.iconst 0, 1) := by decide +kernel
theorem d_P_fillBySteps_9 : decode c_P_fillBySteps 9 = .ok (.istore 4, 2) := by decide +kernel
theorem d_P_fillBySteps_11 : decode c_P_fillBySteps 11 = .ok (.iload 4, 2) := by decide +kernel
theorem d_P_fillBySteps_13 : decode c_P_fillBySteps 13 = .ok (.aload_n 0, 1) := by decide +kernel
theorem d_P_fillBySteps_14 : decode c_P_fillBySteps 14 = .ok (.getfield 18, 3) := by decide +kernel
theorem d_P_fillBySteps_17 : decode c_P_fillBySteps 17 = .ok (.if_icmp .ge 77, 3) := by decide +kernel
theorem d_P_fillBySteps_20 : decode c_P_fillBySteps 20 = .ok (.aload_n 1, 1) := by decide +kernel
theorem d_P_fillBySteps_21 : decode c_P_fillBySteps 21 = .ok (.getfield 37, 3) := by decide +kernel
theorem d_P_fillBySteps_24 : decode c_P_fillBySteps 24 = .ok (.iload 4, 2) := by decide +kernel
theorem d_P_fillBySteps_26 : decode c_P_fillBySteps 26 = .ok (.iaload, 1) := by decide +kernel
theorem d_P_fillBySteps_27 : decode c_P_fillBySteps 27 = .ok (.ifCond .le 16, 3) := by decide +kernel
theorem d_P_fillBySteps_30 : decode c_P_fillBySteps 30 = .ok (.lload_n 2, 1) := by decide +kernel
theorem d_P_fillBySteps_31 : decode c_P_fillBySteps 31 = .ok (.aload_n 1, 1) := by decide +kernel
theorem d_P_fillBySteps_32 : decode c_P_fillBySteps 32 = .ok (.getfield 37, 3) := by decide +kernel
theorem d_P_fillBySteps_35 : decode c_P_fillBySteps 35 = .ok (.iload 4, 2) := by decide +kernel
theorem d_P_fillBySteps_37 : decode c_P_fillBySteps 37 = .ok (.iaload, 1) := by decide +kernel
theorem d_P_fillBySteps_38 : decode c_P_fillBySteps 38 = .ok (.i2l, 1) := by decide +kernel
theorem d_P_fillBySteps_39 : decode c_P_fillBySteps 39 = .ok (.ldiv, 1) := by decide +kernel
theorem d_P_fillBySteps_40 : decode c_P_fillBySteps 40 = .ok (.goto 4, 3) := by decide +kernel
theorem d_P_fillBySteps_43 : decode c_P_fillBySteps 43 = .ok (.lconst 0, 1) := by decide +kernel
theorem d_P_fillBySteps_44 : decode c_P_fillBySteps 44 = .ok (.lstore 5, 2) := by decide +kernel
theorem d_P_fillBySteps_46 : decode c_P_fillBySteps 46 = .ok (.iconst 0, 1) := by decide +kernel
theorem d_P_fillBySteps_47 : decode c_P_fillBySteps 47 = .ok (.istore 7, 2) := by decide +kernel
theorem d_P_fillBySteps_49 : decode c_P_fillBySteps 49 = .ok (.iload 7, 2) := by decide +kernel
theorem d_P_fillBySteps_51 : decode c_P_fillBySteps 51 = .ok (.aload_n 0, 1) := by decide +kernel
theorem d_P_fillBySteps_52 : decode c_P_fillBySteps 52 = .ok (.getfield 18, 3) := by decide +kernel
theorem d_P_fillBySteps_55 : decode c_P_fillBySteps 55 = .ok (.if_icmp .ge 33, 3) := by decide +kernel
theorem d_P_fillBySteps_58 : decode c_P_fillBySteps 58 = .ok (.aload_n 0, 1) := by decide +kernel
theorem d_P_fillBySteps_59 : decode c_P_fillBySteps 59 = .ok (.getfield 24, 3) := by decide +kernel
theorem d_P_fillBySteps_62 : decode c_P_fillBySteps 62 = .ok (.iload 4, 2) := by decide +kernel
theorem d_P_fillBySteps_64 : decode c_P_fillBySteps 64 = .ok (.aaload, 1) := by decide +kernel
theorem d_P_fillBySteps_65 : decode c_P_fillBySteps 65 = .ok (.iload 7, 2) := by decide +kernel
theorem d_P_fillBySteps_67 : decode c_P_fillBySteps 67 = .ok (.lload 5, 2) := by decide +kernel
theorem d_P_fillBySteps_69 : decode c_P_fillBySteps 69 = .ok (.aload_n 1, 1) := by decide +kernel
theorem d_P_fillBySteps_70 : decode c_P_fillBySteps 70 = .ok (.getfield 41, 3) := by decide +kernel
theorem d_P_fillBySteps_73 : decode c_P_fillBySteps 73 = .ok (.iload 4, 2) := by decide +kernel
theorem d_P_fillBySteps_75 : decode c_P_fillBySteps 75 = .ok (.aaload, 1) := by decide +kernel
theorem d_P_fillBySteps_76 : decode c_P_fillBySteps 76 = .ok (.iload 7, 2) := by decide +kernel
theorem d_P_fillBySteps_78 : decode c_P_fillBySteps 78 = .ok (.iaload, 1) := by decide +kernel
theorem d_P_fillBySteps_79 : decode c_P_fillBySteps 79 = .ok (.i2l, 1) := by decide +kernel
theorem d_P_fillBySteps_80 : decode c_P_fillBySteps 80 = .ok (.lmul, 1) := by decide +kernel
theorem d_P_fillBySteps_81 : decode c_P_fillBySteps 81 = .ok (.lastore, 1) := by decide +kernel
theorem d_P_fillBySteps_82 : decode c_P_fillBySteps 82 = .ok (.iinc 7 1, 3) := by decide +kernel
theorem d_P_fillBySteps_85 : decode c_P_fillBySteps 85 = .ok (.goto (-36), 3) := by decide +kernel
theorem d_P_fillBySteps_88 : decode c_P_fillBySteps 88 = .ok (.iinc 4 1, 3) := by decide +kernel
theorem d_P_fillBySteps_91 : decode c_P_fillBySteps 91 = .ok (.goto (-80), 3) := by decide +kernel
theorem d_P_fillBySteps_94 : decode c_P_fillBySteps 94 = .ok (.return_, 1) := by decide +kernel
theorem d_P_run_0 : decode c_P_run 0 = .ok (.iconst 0, 1) := by decide +kernel
theorem d_P_run_1 : decode c_P_run 1 = .ok (.istore_n 3, 1) := by decide +kernel
theorem d_P_run_2 : decode c_P_run 2 = .ok (.iload_n 3, 1) := by decide +kernel
theorem d_P_run_3 : decode c_P_run 3 = .ok (.aload_n 0, 1) := by decide +kernel
theorem d_P_run_4 : decode c_P_run 4 = .ok (.getfield 18, 3) := by decide +kernel
theorem d_P_run_7 : decode c_P_run 7 = .ok (.if_icmp .ge 25, 3) := by decide +kernel
theorem d_P_run_10 : decode c_P_run 10 = .ok (.aload_n 0, 1) := by decide +kernel
theorem d_P_run_11 : decode c_P_run 11 = .ok (.getfield 9, 3) := by decide +kernel
theorem d_P_run_14 : decode c_P_run 14 = .ok (.iload_n 3, 1) := by decide +kernel
theorem d_P_run_15 : decode c_P_run 15 = .ok (.iload_n 3, 1) := by decide +kernel
theorem d_P_run_16 : decode c_P_run 16 = .ok (.iload_n 1, 1) := by decide +kernel
theorem d_P_run_17 : decode c_P_run 17 = .ok (.if_icmp .ne 7, 3) := by decide +kernel
theorem d_P_run_20 : decode c_P_run 20 = .ok (.lconst 1, 1) := by decide +kernel
theorem d_P_run_21 : decode c_P_run 21 = .ok (.goto 4, 3) := by decide +kernel
theorem d_P_run_24 : decode c_P_run 24 = .ok (.lconst 0, 1) := by decide +kernel
theorem d_P_run_25 : decode c_P_run 25 = .ok (.lastore, 1) := by decide +kernel
theorem d_P_run_26 : decode c_P_run 26 = .ok (.iinc 3 1, 3) := by decide +kernel
theorem d_P_run_29 : decode c_P_run 29 = .ok (.goto (-27), 3) := by decide +kernel
theorem d_P_run_32 : decode c_P_run 32 = .ok (.iconst 0, 1) := by decide +kernel
theorem d_P_run_33 : decode c_P_run 33 = .ok (.istore_n 3, 1) := by decide +kernel
theorem d_P_run_34 : decode c_P_run 34 = .ok (.iload_n 3, 1) := by decide +kernel
theorem d_P_run_35 : decode c_P_run 35 = .ok (.iload_n 2, 1) := by decide +kernel
theorem d_P_run_36 : decode c_P_run 36 = .ok (.if_icmp .ge 13, 3) := by decide +kernel
theorem d_P_run_39 : decode c_P_run 39 = .ok (.aload_n 0, 1) := by decide +kernel
theorem d_P_run_40 : decode c_P_run 40 = .ok (.invokevirtual 44, 3) := by decide +kernel
theorem d_P_run_43 : decode c_P_run 43 = .ok (.iinc 3 1, 3) := by decide +kernel
theorem d_P_run_46 : decode c_P_run 46 = .ok (.goto (-12), 3) := by decide +kernel
theorem d_P_run_49 : decode c_P_run 49 = .ok (.return_, 1) := by decide +kernel
theorem d_P_move_0 : decode c_P_move 0 = .ok (.iconst 0, 1) := by decide +kernel
theorem d_P_move_1 : decode c_P_move 1 = .ok (.istore_n 1, 1) := by decide +kernel
theorem d_P_move_2 : decode c_P_move 2 = .ok (.iload_n 1, 1) := by decide +kernel
theorem d_P_move_3 : decode c_P_move 3 = .ok (.aload_n 0, 1) := by decide +kernel
theorem d_P_move_4 : decode c_P_move 4 = .ok (.getfield 18, 3) := by decide +kernel
theorem d_P_move_7 : decode c_P_move 7 = .ok (.if_icmp .ge 56, 3) := by decide +kernel
theorem d_P_move_10 : decode c_P_move 10 = .ok (.aload_n 0, 1) := by decide +kernel
theorem d_P_move_11 : decode c_P_move 11 = .ok (.getfield 15, 3) := by decide +kernel
theorem d_P_move_14 : decode c_P_move 14 = .ok (.iload_n 1, 1) := by decide +kernel
theorem d_P_move_15 : decode c_P_move 15 = .ok (.lconst 0, 1) := by decide +kernel
theorem d_P_move_16 : decode c_P_move 16 = .ok (.lastore, 1) := by decide +kernel
theorem d_P_move_17 : decode c_P_move 17 = .ok (.iconst 0, 1) := by decide +kernel
theorem d_P_move_18 : decode c_P_move 18 = .ok (.istore_n 2, 1) := by decide +kernel
theorem d_P_move_19 : decode c_P_move 19 = .ok (.iload_n 2, 1) := by decide +kernel
theorem d_P_move_20 : decode c_P_move 20 = .ok (.aload_n 0, 1) := by decide +kernel
theorem d_P_move_21 : decode c_P_move 21 = .ok (.getfield 18, 3) := by decide +kernel
theorem d_P_move_24 : decode c_P_move 24 = .ok (.if_icmp .ge 33, 3) := by decide +kernel
theorem d_P_move_27 : decode c_P_move 27 = .ok (.aload_n 0, 1) := by decide +kernel
theorem d_P_move_28 : decode c_P_move 28 = .ok (.getfield 15, 3) := by decide +kernel
theorem d_P_move_31 : decode c_P_move 31 = .ok (.iload_n 1, 1) := by decide +kernel
theorem d_P_move_32 : decode c_P_move 32 = .ok (.dup2, 1) := by decide +kernel
theorem d_P_move_33 : decode c_P_move 33 = .ok (.laload, 1) := by decide +kernel
theorem d_P_move_34 : decode c_P_move 34 = .ok (.aload_n 0, 1) := by decide +kernel
theorem d_P_move_35 : decode c_P_move 35 = .ok (.getfield 9, 3) := by decide +kernel
theorem d_P_move_38 : decode c_P_move 38 = .ok (.iload_n 2, 1) := by decide +kernel
theorem d_P_move_39 : decode c_P_move 39 = .ok (.laload, 1) := by decide +kernel
theorem d_P_move_40 : decode c_P_move 40 = .ok (.aload_n 0, 1) := by decide +kernel
theorem d_P_move_41 : decode c_P_move 41 = .ok (.getfield 24, 3) := by decide +kernel
theorem d_P_move_44 : decode c_P_move 44 = .ok (.iload_n 2, 1) := by decide +kernel
theorem d_P_move_45 : decode c_P_move 45 = .ok (.aaload, 1) := by decide +kernel
theorem d_P_move_46 : decode c_P_move 46 = .ok (.iload_n 1, 1) := by decide +kernel
theorem d_P_move_47 : decode c_P_move 47 = .ok (.laload, 1) := by decide +kernel
theorem d_P_move_48 : decode c_P_move 48 = .ok (.lmul, 1) := by decide +kernel
theorem d_P_move_49 : decode c_P_move 49 = .ok (.ladd, 1) := by decide +kernel
theorem d_P_move_50 : decode c_P_move 50 = .ok (.lastore, 1) := by decide +kernel
theorem d_P_move_51 : decode c_P_move 51 = .ok (.iinc 2 1, 3) := by decide +kernel
theorem d_P_move_54 : decode c_P_move 54 = .ok (.goto (-35), 3) := by decide +kernel
theorem d_P_move_57 : decode c_P_move 57 = .ok (.iinc 1 1, 3) := by decide +kernel
theorem d_P_move_60 : decode c_P_move 60 = .ok (.goto (-58), 3) := by decide +kernel
theorem d_P_move_63 : decode c_P_move 63 = .ok (.aload_n 0, 1) := by decide +kernel
theorem d_P_move_64 : decode c_P_move 64 = .ok (.getfield 9, 3) := by decide +kernel
theorem d_P_move_67 : decode c_P_move 67 = .ok (.astore_n 1, 1) := by decide +kernel
theorem d_P_move_68 : decode c_P_move 68 = .ok (.aload_n 0, 1) := by decide +kernel
theorem d_P_move_69 : decode c_P_move 69 = .ok (.aload_n 0, 1) := by decide +kernel
theorem d_P_move_70 : decode c_P_move 70 = .ok (.getfield 15, 3) := by decide +kernel
theorem d_P_move_73 : decode c_P_move 73 = .ok (.putfield 9, 3) := by decide +kernel
theorem d_P_move_76 : decode c_P_move 76 = .ok (.aload_n 0, 1) := by decide +kernel
theorem d_P_move_77 : decode c_P_move 77 = .ok (.aload_n 1, 1) := by decide +kernel
theorem d_P_move_78 : decode c_P_move 78 = .ok (.putfield 15, 3) := by decide +kernel
theorem d_P_move_81 : decode c_P_move 81 = .ok (.return_, 1) := by decide +kernel
theorem d_P_numberAt_0 : decode c_P_numberAt 0 = .ok (.aload_n 0, 1) := by decide +kernel
theorem d_P_numberAt_1 : decode c_P_numberAt 1 = .ok (.getfield 9, 3) := by decide +kernel
theorem d_P_numberAt_4 : decode c_P_numberAt 4 = .ok (.iload_n 1, 1) := by decide +kernel
theorem d_P_numberAt_5 : decode c_P_numberAt 5 = .ok (.laload, 1) := by decide +kernel
theorem d_P_numberAt_6 : decode c_P_numberAt 6 = .ok (.lreturn, 1) := by decide +kernel
theorem d_P_fillByWeights_0 : decode c_P_fillByWeights 0 = .ok (.aload_n 0, 1) := by decide +kernel
theorem d_P_fillByWeights_1 : decode c_P_fillByWeights 1 = .ok (.aload_n 1, 1) := by decide +kernel
theorem d_P_fillByWeights_2 : decode c_P_fillByWeights 2 = .ok (.getfield 27, 3) := by decide +kernel
theorem d_P_fillByWeights_5 : decode c_P_fillByWeights 5 = .ok (.putfield 18, 3) := by decide +kernel
theorem d_P_fillByWeights_8 : decode c_P_fillByWeights 8 = .ok (.iconst 0, 1) := by decide +kernel
theorem d_P_fillByWeights_9 : decode c_P_fillByWeights 9 = .ok (.istore_n 2, 1) := by decide +kernel
theorem d_P_fillByWeights_10 : decode c_P_fillByWeights 10 = .ok (.iload_n 2, 1) := by decide +kernel
theorem d_P_fillByWeights_11 : decode c_P_fillByWeights 11 = .ok (.aload_n 0, 1) := by decide +kernel
theorem d_P_fillByWeights_12 : decode c_P_fillByWeights 12 = .ok (.getfield 18, 3) := by decide +kernel
theorem d_P_fillByWeights_15 : decode c_P_fillByWeights 15 = .ok (.if_icmp .ge 42, 3) := by decide +kernel
theorem d_P_fillByWeights_18 : decode c_P_fillByWeights 18 = .ok (.iconst 0, 1) := by decide +kernel
theorem d_P_fillByWeights_19 : decode c_P_fillByWeights 19 = .ok (.istore_n 3, 1) := by decide +kernel
theorem d_P_fillByWeights_20 : decode c_P_fillByWeights 20 = .ok (.iload_n 3, 1) := by decide +kernel
theorem d_P_fillByWeights_21 : decode c_P_fillByWeights 21 = .ok (.aload_n 0, 1) := by decide +kernel
theorem d_P_fillByWeights_22 : decode c_P_fillByWeights 22 = .ok (.getfield 18, 3) := by decide +kernel
theorem d_P_fillByWeights_25 : decode c_P_fillByWeights 25 = .ok (.if_icmp .ge 26, 3) := by decide +kernel
theorem d_P_fillByWeights_28 : decode c_P_fillByWeights 28 = .ok (.aload_n 0, 1) := by decide +kernel
theorem d_P_fillByWeights_29 : decode c_P_fillByWeights 29 = .ok (.getfield 24, 3) := by decide +kernel
theorem d_P_fillByWeights_32 : decode c_P_fillByWeights 32 = .ok (.iload_n 2, 1) := by decide +kernel
theorem d_P_fillByWeights_33 : decode c_P_fillByWeights 33 = .ok (.aaload, 1) := by decide +kernel
theorem d_P_fillByWeights_34 : decode c_P_fillByWeights 34 = .ok (.iload_n 3, 1) := by decide +kernel
theorem d_P_fillByWeights_35 : decode c_P_fillByWeights 35 = .ok (.aload_n 1, 1) := by decide +kernel
theorem d_P_fillByWeights_36 : decode c_P_fillByWeights 36 = .ok (.getfield 30, 3) := by decide +kernel
theorem d_P_fillByWeights_39 : decode c_P_fillByWeights 39 = .ok (.iload_n 2, 1) := by decide +kernel
theorem d_P_fillByWeights_40 : decode c_P_fillByWeights 40 = .ok (.aaload, 1) := by decide +kernel
theorem d_P_fillByWeights_41 : decode c_P_fillByWeights 41 = .ok (.iload_n 3, 1) := by decide +kernel
theorem d_P_fillByWeights_42 : decode c_P_fillByWeights 42 = .ok (.iaload, 1) := by decide +kernel
theorem d_P_fillByWeights_43 : decode c_P_fillByWeights 43 = .ok (.i2l, 1) := by decide +kernel
theorem d_P_fillByWeights_44 : decode c_P_fillByWeights 44 = .ok (.lastore, 1) := by decide +kernel
theorem d_P_fillByWeights_45 : decode c_P_fillByWeights 45 = .ok (.iinc 3 1, 3) := by decide +kernel
theorem d_P_fillByWeights_48 : decode c_P_fillByWeights 48 = .ok (.goto (-28), 3) := by decide +kernel
theorem d_P_fillByWeights_51 : decode c_P_fillByWeights 51 = .ok (.iinc 2 1, 3) := by decide +kernel
theorem d_P_fillByWeights_54 : decode c_P_fillByWeights 54 = .ok (.goto (-44), 3) := by decide +kernel
theorem d_P_fillByWeights_57 : decode c_P_fillByWeights 57 = .ok (.return_, 1) := by decide +kernel
theorem d_S_nextNode_0 : decode c_S_nextNode 0 = .ok (.aload_n 0, 1) := by decide +kernel
theorem d_S_nextNode_1 : decode c_S_nextNode 1 = .ok (.getfield 20, 3) := by decide +kernel
theorem d_S_nextNode_4 : decode c_S_nextNode 4 = .ok (.iload_n 1, 1) := by decide +kernel
theorem d_S_nextNode_5 : decode c_S_nextNode 5 = .ok (.iaload, 1) := by decide +kernel
theorem d_S_nextNode_6 : decode c_S_nextNode 6 = .ok (.ifCond .gt 5, 3) := by decide +kernel
theorem d_S_nextNode_9 : decode c_S_nextNode 9 = .ok (.iload_n 1, 1) := by decide +kernel
theorem d_S_nextNode_10 : decode c_S_nextNode 10 = .ok (.ireturn, 1) := by decide +kernel
theorem d_S_nextNode_11 : decode c_S_nextNode 11 = .ok (.iload_n 2, 1) := by decide +kernel
theorem d_S_nextNode_12 : decode c_S_nextNode 12 = .ok (.aload_n 0, 1) := by decide +kernel
theorem d_S_nextNode_13 : decode c_S_nextNode 13 = .ok (.getfield 20, 3) := by decide +kernel
theorem d_S_nextNode_16 : decode c_S_nextNode 16 = .ok (.iload_n 1, 1) := by decide +kernel
theorem d_S_nextNode_17 : decode c_S_nextNode 17 = .ok (.iaload, 1) := by decide +kernel
theorem d_S_nextNode_18 : decode c_S_nextNode 18 = .ok (.irem, 1) := by decide +kernel
theorem d_S_nextNode_19 : decode c_S_nextNode 19 = .ok (.istore_n 3, 1) := by decide +kernel
theorem d_S_nextNode_20 : decode c_S_nextNode 20 = .ok (.iconst 0, 1) := by decide +kernel
theorem d_S_nextNode_21 : decode c_S_nextNode 21 = .ok (.istore 4, 2) := by decide +kernel
theorem d_S_nextNode_23 : decode c_S_nextNode 23 = .ok (.iload 4, 2) := by decide +kernel
theorem d_S_nextNode_25 : decode c_S_nextNode 25 = .ok (.aload_n 0, 1) := by decide +kernel
theorem d_S_nextNode_26 : decode c_S_nextNode 26 = .ok (.getfield 9, 3) := by decide +kernel
theorem d_S_nextNode_29 : decode c_S_nextNode 29 = .ok (.if_icmp .ge 37, 3) := by decide +kernel
theorem d_S_nextNode_32 : decode c_S_nextNode 32 = .ok (.iload_n 3, 1) := by decide +kernel
theorem d_S_nextNode_33 : decode c_S_nextNode 33 = .ok (.aload_n 0, 1) := by decide +kernel
theorem d_S_nextNode_34 : decode c_S_nextNode 34 = .ok (.getfield 17, 3) := by decide +kernel
theorem d_S_nextNode_37 : decode c_S_nextNode 37 = .ok (.iload_n 1, 1) := by decide +kernel
theorem d_S_nextNode_38 : decode c_S_nextNode 38 = .ok (.aaload, 1) := by decide +kernel
theorem d_S_nextNode_39 : decode c_S_nextNode 39 = .ok (.iload 4, 2) := by decide +kernel
theorem d_S_nextNode_41 : decode c_S_nextNode 41 = .ok (.iaload, 1) := by decide +kernel
theorem d_S_nextNode_42 : decode c_S_nextNode 42 = .ok (.if_icmp .ge 6, 3) := by decide +kernel
theorem d_S_nextNode_45 : decode c_S_nextNode 45 = .ok (.iload 4, 2) := by decide +kernel
theorem d_S_nextNode_47 : decode c_S_nextNode 47 = .ok (.ireturn, 1) := by decide +kernel
theorem d_S_nextNode_48 : decode c_S_nextNode 48 = .ok (.iload_n 3, 1) := by decide +kernel
theorem d_S_nextNode_49 : decode c_S_nextNode 49 = .ok (.aload_n 0, 1) := by decide +kernel
theorem d_S_nextNode_50 : decode c_S_nextNode 50 = .ok (.getfield 17, 3) := by decide +kernel
theorem d_S_nextNode_53 : decode c_S_nextNode 53 = .ok (.iload_n 1, 1) := by decide +kernel
theorem d_S_nextNode_54 : decode c_S_nextNode 54 = .ok (.aaload, 1) := by decide +kernel
theorem d_S_nextNode_55 : decode c_S_nextNode 55 = .ok (.iload 4, 2) := by decide +kernel
theorem d_S_nextNode_57 : decode c_S_nextNode 57 = .ok (.iaload, 1) := by decide +kernel
theorem d_S_nextNode_58 : decode c_S_nextNode 58 = .ok (.isub, 1) := by decide +kernel
theorem d_S_nextNode_59 : decode c_S_nextNode 59 = .ok (.istore_n 3, 1) := by decide +kernel
theorem d_S_nextNode_60 : decode c_S_nextNode 60 = .ok (.iinc 4 1, 3) := by decide +kernel
theorem d_S_nextNode_63 : decode c_S_nextNode 63 = .ok (.goto (-40), 3) := by decide +kernel
theorem d_S_nextNode_66 : decode c_S_nextNode 66 = .ok (.iload_n 1, 1) := by decide +kernel
theorem d_S_nextNode_67 : decode c_S_nextNode 67 = .ok (.ireturn, 1) := by decide +kernel
end
section
-- decode rows
theorem d_W_init_0 : decode c_W_init 0 = .ok (.aload_n 0, 1) := by decide +kernel
theorem d_W_init_1 : decode c_W_init 1 = .ok (.invokespecial 1, 3) := by decide +kernel
theorem d_W_init_4 : decode c_W_init 4 = .ok (.aload_n 0, 1) := by decide +kernel
theorem d_W_init_5 : decode c_W_init 5 = .ok (.new 7, 3) := by decide +kernel
theorem d_W_init_8 : decode c_W_init 8 = .ok (.dup, 1) := by decide +kernel
theorem d_W_init_9 : decode c_W_init 9 = .ok (.invokespecial 9, 3) := by decide +kernel
theorem d_W_init_12 : decode c_W_init 12 = .ok (.putfield 10, 3) := by decide +kernel
theorem d_W_init_15 : decode c_W_init 15 = .ok (.aload_n 0, 1) := by decide +kernel
theorem d_W_init_16 : decode c_W_init 16 = .ok (.new 16, 3) := by decide +kernel
theorem d_W_init_19 : decode c_W_init 19 = .ok (.dup, 1) := by decide +kernel
theorem d_W_init_20 : decode c_W_init 20 = .ok (.invokespecial 18, 3) := by decide +kernel
theorem d_W_init_23 : decode c_W_init 23 = .ok (.putfield 19, 3) := by decide +kernel
theorem d_W_init_26 : decode c_W_init 26 = .ok (.aload_n 0, 1) := by decide +kernel
theorem d_W_init_27 : decode c_W_init 27 = .ok (.new 23, 3) := by decide +kernel
theorem d_W_init_30 : decode c_W_init 30 = .ok (.dup, 1) := by decide +kernel
theorem d_W_init_31 : decode c_W_init 31 = .ok (.invokespecial 25, 3) := by decide +kernel
theorem d_W_init_34 : decode c_W_init 34 = .ok (.putfield 26, 3) := by decide +kernel
theorem d_W_init_37 : decode c_W_init 37 = .ok (.aload_n 0, 1) := by decide +kernel
theorem d_W_init_38 : decode c_W_init 38 = .ok (.new 30, 3) := by decide +kernel
theorem d_W_init_41 : decode c_W_init 41 = .ok (.dup, 1) := by decide +kernel
theorem d_W_init_42 : decode c_W_init 42 = .ok (.invokespecial 32, 3) := by decide +kernel
theorem d_W_init_45 : decode c_W_init 45 = .ok (.putfield 33, 3) := by decide +kernel
theorem d_W_init_48 : decode c_W_init 48 = .ok (.aload_n 0, 1) := by decide +kernel
theorem d_W_init_49 : decode c_W_init 49 = .ok (.new 37, 3) := by decide +kernel
theorem d_W_init_52 : decode c_W_init 52 = .ok (.dup, 1) := by decide +kernel
theorem d_W_init_53 : decode c_W_init 53 = .ok (.invokespecial 39, 3) := by decide +kernel
theorem d_W_init_56 : decode c_W_init 56 = .ok (.putfield 40, 3) := by decide +kernel
theorem d_W_init_59 : decode c_W_init 59 = .ok (.aload_n 0, 1) := by decide +kernel
theorem d_W_init_60 : decode c_W_init 60 = .ok (.iconst 5, 1) := by decide +kernel
theorem d_W_init_61 : decode c_W_init 61 = .ok (.newarray .long, 2) := by decide +kernel
theorem d_W_init_63 : decode c_W_init 63 = .ok (.putfield 44, 3) := by decide +kernel
theorem d_W_init_66 : decode c_W_init 66 = .ok (.return_, 1) := by decide +kernel
theorem d_W_node_0 : decode c_W_node 0 = .ok (.aload_n 0, 1) := by decide +kernel
theorem d_W_node_1 : decode c_W_node 1 = .ok (.getfield 10, 3) := by decide +kernel
theorem d_W_node_4 : decode c_W_node 4 = .ok (.getfield 48, 3) := by decide +kernel
theorem d_W_node_7 : decode c_W_node 7 = .ok (.iconst 5, 1) := by decide +kernel
theorem d_W_node_8 : decode c_W_node 8 = .ok (.if_icmp .lt 6, 3) := by decide +kernel
theorem d_W_node_11 : decode c_W_node 11 = .ok (.bipush (-4), 2) := by decide +kernel
theorem d_W_node_13 : decode c_W_node 13 = .ok (.ireturn, 1) := by decide +kernel
theorem d_W_node_14 : decode c_W_node 14 = .ok (.aload_n 0, 1) := by decide +kernel
theorem d_W_node_15 : decode c_W_node 15 = .ok (.getfield 10, 3) := by decide +kernel
theorem d_W_node_18 : decode c_W_node 18 = .ok (.invokevirtual 52, 3) := by decide +kernel
theorem d_W_node_21 : decode c_W_node 21 = .ok (.istore_n 1, 1) := by decide +kernel
theorem d_W_node_22 : decode c_W_node 22 = .ok (.aload_n 0, 1) := by decide +kernel
theorem d_W_node_23 : decode c_W_node 23 = .ok (.invokevirtual 56, 3) := by decide +kernel
theorem d_W_node_26 : decode c_W_node 26 = .ok (.iload_n 1, 1) := by decide +kernel
theorem d_W_node_27 : decode c_W_node 27 = .ok (.ireturn, 1) := by decide +kernel
theorem d_W_renew_0 : decode c_W_renew 0 = .ok (.aload_n 0, 1) := by decide +kernel
theorem d_W_renew_1 : decode c_W_renew 1 = .ok (.getfield 19, 3) := by decide +kernel
theorem d_W_renew_4 : decode c_W_renew 4 = .ok (.aload_n 0, 1) := by decide +kernel
theorem d_W_renew_5 : decode c_W_renew 5 = .ok (.getfield 10, 3) := by decide +kernel
theorem d_W_renew_8 : decode c_W_renew 8 = .ok (.invokevirtual 171, 3) := by decide +kernel
theorem d_W_renew_11 : decode c_W_renew 11 = .ok (.aload_n 0, 1) := by decide +kernel
theorem d_W_renew_12 : decode c_W_renew 12 = .ok (.getfield 26, 3) := by decide +kernel
theorem d_W_renew_15 : decode c_W_renew 15 = .ok (.aload_n 0, 1) := by decide +kernel
theorem d_W_renew_16 : decode c_W_renew 16 = .ok (.getfield 19, 3) := by decide +kernel
theorem d_W_renew_19 : decode c_W_renew 19 = .ok (.invokevirtual 173, 3) := by decide +kernel
theorem d_W_renew_22 : decode c_W_renew 22 = .ok (.return_, 1) := by decide +kernel
theorem d_W_greatestDivisor_0 : decode c_W_greatestDivisor 0 = .ok (.lload_n 0, 1) := by decide +kernel
theorem d_W_greatestDivisor_1 : decode c_W_greatestDivisor 1 = .ok (.lstore 4, 2) := by decide +kernel
theorem d_W_greatestDivisor_3 : decode c_W_greatestDivisor 3 = .ok (.lload_n 2, 1) := by decide +kernel
theorem d_W_greatestDivisor_4 : decode c_W_greatestDivisor 4 = .ok (.lstore 6, 2) := by decide +kernel
theorem d_W_greatestDivisor_6 : decode c_W_greatestDivisor 6 = .ok (.iconst 0, 1) := by decide +kernel
theorem d_W_greatestDivisor_7 : decode c_W_greatestDivisor 7 = .ok (.istore 8, 2) := by decide +kernel
theorem d_W_greatestDivisor_9 : decode c_W_greatestDivisor 9 = .ok (.iload 8, 2) := by decide +kernel
theorem d_W_greatestDivisor_11 : decode c_W_greatestDivisor 11 = .ok (.bipush 100, 2) := by decide +kernel
theorem d_W_greatestDivisor_13 : decode c_W_greatestDivisor 13 = .ok (.if_icmp .ge 31, 3) := by decide +kernel
theorem d_W_greatestDivisor_16 : decode c_W_greatestDivisor 16 = .ok (.lload 6, 2) := by decide +kernel
theorem d_W_greatestDivisor_18 : decode c_W_greatestDivisor 18 = .ok (.lconst 0, 1) := by decide +kernel
theorem d_W_greatestDivisor_19 : decode c_W_greatestDivisor 19 = .ok (.lcmp, 1) := by decide +kernel
theorem d_W_greatestDivisor_20 : decode c_W_greatestDivisor 20 = .ok (.ifCond .eq 24, 3) := by decide +kernel
theorem d_W_greatestDivisor_23 : decode c_W_greatestDivisor 23 = .ok (.lload 4, 2) := by decide +kernel
theorem d_W_greatestDivisor_25 : decode c_W_greatestDivisor 25 = .ok (.lload 6, 2) := by decide +kernel
theorem d_W_greatestDivisor_27 : decode c_W_greatestDivisor 27 = .ok (.lrem, 1) := by decide +kernel
theorem d_W_greatestDivisor_28 : decode c_W_greatestDivisor 28 = .ok (.lstore 9, 2) := by decide +kernel
theorem d_W_greatestDivisor_30 : decode c_W_greatestDivisor 30 = .ok (.lload 6, 2) := by decide +kernel
theorem d_W_greatestDivisor_32 : decode c_W_greatestDivisor 32 = .ok (.lstore 4, 2) := by decide +kernel
theorem d_W_greatestDivisor_34 : decode c_W_greatestDivisor 34 = .ok (.lload 9, 2) := by decide +kernel
theorem d_W_greatestDivisor_36 : decode c_W_greatestDivisor 36 = .ok (.lstore 6, 2) := by decide +kernel
theorem d_W_greatestDivisor_38 : decode c_W_greatestDivisor 38 = .ok (.iinc 8 1, 3) := by decide +kernel
theorem d_W_greatestDivisor_41 : decode c_W_greatestDivisor 41 = .ok (.goto (-32), 3) := by decide +kernel
theorem d_W_greatestDivisor_44 : decode c_W_greatestDivisor 44 = .ok (.lload 4, 2) := by decide +kernel
theorem d_W_greatestDivisor_46 : decode c_W_greatestDivisor 46 = .ok (.lreturn, 1) := by decide +kernel
theorem d_W_only_0 : decode c_W_only 0 = .ok (.iconst 1, 1) := by decide +kernel
theorem d_W_only_1 : decode c_W_only 1 = .ok (.iload_n 0, 1) := by decide +kernel
theorem d_W_only_2 : decode c_W_only 2 = .ok (.ishl, 1) := by decide +kernel
theorem d_W_only_3 : decode c_W_only 3 = .ok (.ireturn, 1) := by decide +kernel
theorem d_W_has_0 : decode c_W_has 0 = .ok (.iload_n 0, 1) := by decide +kernel
theorem d_W_has_1 : decode c_W_has 1 = .ok (.iload_n 1, 1) := by decide +kernel
theorem d_W_has_2 : decode c_W_has 2 = .ok (.invokestatic 122, 3) := by decide +kernel
theorem d_W_has_5 : decode c_W_has 5 = .ok (.iand, 1) := by decide +kernel
theorem d_W_has_6 : decode c_W_has 6 = .ok (.ifCond .eq 7, 3) := by decide +kernel
theorem d_W_has_9 : decode c_W_has 9 = .ok (.iconst 1, 1) := by decide +kernel
theorem d_W_has_10 : decode c_W_has 10 = .ok (.goto 4, 3) := by decide +kernel
theorem d_W_has_13 : decode c_W_has 13 = .ok (.iconst 0, 1) := by decide +kernel
theorem d_W_has_14 : decode c_W_has 14 = .ok (.ireturn, 1) := by decide +kernel
theorem d_W_weight_0 : decode c_W_weight 0 = .ok (.aload_n 0, 1) := by decide +kernel
theorem d_W_weight_1 : decode c_W_weight 1 = .ok (.iload_n 1, 1) := by decide +kernel
theorem d_W_weight_2 : decode c_W_weight 2 = .ok (.invokevirtual 59, 3) := by decide +kernel
theorem d_W_weight_5 : decode c_W_weight 5 = .ok (.ifCond .eq 11, 3) := by decide +kernel
theorem d_W_weight_8 : decode c_W_weight 8 = .ok (.aload_n 0, 1) := by decide +kernel
theorem d_W_weight_9 : decode c_W_weight 9 = .ok (.iload_n 2, 1) := by decide +kernel
theorem d_W_weight_10 : decode c_W_weight 10 = .ok (.invokevirtual 59, 3) := by decide +kernel
theorem d_W_weight_13 : decode c_W_weight 13 = .ok (.ifCond .ne 5, 3) := by decide +kernel
theorem d_W_weight_16 : decode c_W_weight 16 = .ok (.iconst (-1), 1) := by decide +kernel
theorem d_W_weight_17 : decode c_W_weight 17 = .ok (.ireturn, 1) := by decide +kernel
theorem d_W_weight_18 : decode c_W_weight 18 = .ok (.iload_n 3, 1) := by decide +kernel
theorem d_W_weight_19 : decode c_W_weight 19 = .ok (.ifCond .lt 8, 3) := by decide +kernel
theorem d_W_weight_22 : decode c_W_weight 22 = .ok (.iload_n 3, 1) := by decide +kernel
theorem d_W_weight_23 : decode c_W_weight 23 = .ok (.iconst 2, 1) := by decide +kernel
theorem d_W_weight_24 : decode c_W_weight 24 = .ok (.if_icmp .le 6, 3) := by decide +kernel
theorem d_W_weight_27 : decode c_W_weight 27 = .ok (.bipush (-2), 2) := by decide +kernel
theorem d_W_weight_29 : decode c_W_weight 29 = .ok (.ireturn, 1) := by decide +kernel
theorem d_W_weight_30 : decode c_W_weight 30 = .ok (.aload_n 0, 1) := by decide +kernel
theorem d_W_weight_31 : decode c_W_weight 31 = .ok (.getfield 10, 3) := by decide +kernel
theorem d_W_weight_34 : decode c_W_weight 34 = .ok (.getfield 63, 3) := by decide +kernel
theorem d_W_weight_37 : decode c_W_weight 37 = .ok (.iload_n 1, 1) := by decide +kernel
theorem d_W_weight_38 : decode c_W_weight 38 = .ok (.aaload, 1) := by decide +kernel
theorem d_W_weight_39 : decode c_W_weight 39 = .ok (.iload_n 2, 1) := by decide +kernel
theorem d_W_weight_40 : decode c_W_weight 40 = .ok (.iaload, 1) := by decide +kernel
theorem d_W_weight_41 : decode c_W_weight 41 = .ok (.istore 4, 2) := by decide +kernel
theorem d_W_weight_43 : decode c_W_weight 43 = .ok (.aload_n 0, 1) := by decide +kernel
theorem d_W_weight_44 : decode c_W_weight 44 = .ok (.getfield 10, 3) := by decide +kernel
theorem d_W_weight_47 : decode c_W_weight 47 = .ok (.getfield 63, 3) := by decide +kernel
theorem d_W_weight_50 : decode c_W_weight 50 = .ok (.iload_n 1, 1) := by decide +kernel
theorem d_W_weight_51 : decode c_W_weight 51 = .ok (.aaload, 1) := by decide +kernel
theorem d_W_weight_52 : decode c_W_weight 52 = .ok (.iload_n 2, 1) := by decide +kernel
theorem d_W_weight_53 : decode c_W_weight 53 = .ok (.iload_n 3, 1) := by decide +kernel
theorem d_W_weight_54 : decode c_W_weight 54 = .ok (.iastore, 1) := by decide +kernel
theorem d_W_weight_55 : decode c_W_weight 55 = .ok (.aload_n 0, 1) := by decide +kernel
theorem d_W_weight_56 : decode c_W_weight 56 = .ok (.invokevirtual 56, 3) := by decide +kernel
theorem d_W_weight_59 : decode c_W_weight 59 = .ok (.iload 4, 2) := by decide +kernel
theorem d_W_weight_61 : decode c_W_weight 61 = .ok (.ireturn, 1) := by decide +kernel
theorem d_W_isNode_0 : decode c_W_isNode 0 = .ok (.iload_n 1, 1) := by decide +kernel
theorem d_W_isNode_1 : decode c_W_isNode 1 = .ok (.ifCond .lt 18, 3) := by decide +kernel
theorem d_W_isNode_4 : decode c_W_isNode 4 = .ok (.iload_n 1, 1) := by decide +kernel
theorem d_W_isNode_5 : decode c_W_isNode 5 = .ok (.aload_n 0, 1) := by decide +kernel
theorem d_W_isNode_6 : decode c_W_isNode 6 = .ok (.getfield 10, 3) := by decide +kernel
theorem d_W_isNode_9 : decode c_W_isNode 9 = .ok (.getfield 48, 3) := by decide +kernel
theorem d_W_isNode_12 : decode c_W_isNode 12 = .ok (.if_icmp .ge 7, 3) := by decide +kernel
theorem d_W_isNode_15 : decode c_W_isNode 15 = .ok (.iconst 1, 1) := by decide +kernel
theorem d_W_isNode_16 : decode c_W_isNode 16 = .ok (.goto 4, 3) := by decide +kernel
theorem d_W_isNode_19 : decode c_W_isNode 19 = .ok (.iconst 0, 1) := by decide +kernel
theorem d_W_isNode_20 : decode c_W_isNode 20 = .ok (.ireturn, 1) := by decide +kernel
theorem d_W_jump_0 : decode c_W_jump 0 = .ok (.aload_n 0, 1) := by decide +kernel
theorem d_W_jump_1 : decode c_W_jump 1 = .ok (.iload_n 1, 1) := by decide +kernel
theorem d_W_jump_2 : decode c_W_jump 2 = .ok (.invokevirtual 59, 3) := by decide +kernel
theorem d_W_jump_5 : decode c_W_jump 5 = .ok (.ifCond .ne 5, 3) := by decide +kernel
theorem d_W_jump_8 : decode c_W_jump 8 = .ok (.iconst (-1), 1) := by decide +kernel
theorem d_W_jump_9 : decode c_W_jump 9 = .ok (.ireturn, 1) := by decide +kernel
theorem d_W_jump_10 : decode c_W_jump 10 = .ok (.iload_n 2, 1) := by decide +kernel
theorem d_W_jump_11 : decode c_W_jump 11 = .ok (.ifCond .lt 8, 3) := by decide +kernel
theorem d_W_jump_14 : decode c_W_jump 14 = .ok (.iload_n 2, 1) := by decide +kernel
theorem d_W_jump_15 : decode c_W_jump 15 = .ok (.iconst 2, 1) := by decide +kernel
theorem d_W_jump_16 : decode c_W_jump 16 = .ok (.if_icmp .le 6, 3) := by decide +kernel
theorem d_W_jump_19 : decode c_W_jump 19 = .ok (.bipush (-2), 2) := by decide +kernel
theorem d_W_jump_21 : decode c_W_jump 21 = .ok (.ireturn, 1) := by decide +kernel
theorem d_W_jump_22 : decode c_W_jump 22 = .ok (.aload_n 0, 1) := by decide +kernel
theorem d_W_jump_23 : decode c_W_jump 23 = .ok (.getfield 10, 3) := by decide +kernel
theorem d_W_jump_26 : decode c_W_jump 26 = .ok (.getfield 67, 3) := by decide +kernel
theorem d_W_jump_29 : decode c_W_jump 29 = .ok (.iload_n 1, 1) := by decide +kernel
theorem d_W_jump_30 : decode c_W_jump 30 = .ok (.iaload, 1) := by decide +kernel
theorem d_W_jump_31 : decode c_W_jump 31 = .ok (.istore_n 3, 1) := by decide +kernel
theorem d_W_jump_32 : decode c_W_jump 32 = .ok (.aload_n 0, 1) := by decide +kernel
theorem d_W_jump_33 : decode c_W_jump 33 = .ok (.getfield 10, 3) := by decide +kernel
theorem d_W_jump_36 : decode c_W_jump 36 = .ok (.getfield 67, 3) := by decide +kernel
theorem d_W_jump_39 : decode c_W_jump 39 = .ok (.iload_n 1, 1) := by decide +kernel
theorem d_W_jump_40 : decode c_W_jump 40 = .ok (.iload_n 2, 1) := by decide +kernel
theorem d_W_jump_41 : decode c_W_jump 41 = .ok (.iastore, 1) := by decide +kernel
theorem d_W_jump_42 : decode c_W_jump 42 = .ok (.aload_n 0, 1) := by decide +kernel
theorem d_W_jump_43 : decode c_W_jump 43 = .ok (.invokevirtual 56, 3) := by decide +kernel
theorem d_W_jump_46 : decode c_W_jump 46 = .ok (.iload_n 3, 1) := by decide +kernel
theorem d_W_jump_47 : decode c_W_jump 47 = .ok (.ireturn, 1) := by decide +kernel
theorem d_W_keep_0 : decode c_W_keep 0 = .ok (.iload_n 2, 1) := by decide +kernel
theorem d_W_keep_1 : decode c_W_keep 1 = .ok (.iconst 1, 1) := by decide +kernel
theorem d_W_keep_2 : decode c_W_keep 2 = .ok (.if_icmp .lt 17, 3) := by decide +kernel
theorem d_W_keep_5 : decode c_W_keep 5 = .ok (.iload_n 2, 1) := by decide +kernel
theorem d_W_keep_6 : decode c_W_keep 6 = .ok (.iconst 4, 1) := by decide +kernel
theorem d_W_keep_7 : decode c_W_keep 7 = .ok (.if_icmp .gt 12, 3) := by decide +kernel
theorem d_W_keep_10 : decode c_W_keep 10 = .ok (.iload_n 1, 1) := by decide +kernel
theorem d_W_keep_11 : decode c_W_keep 11 = .ok (.ifCond .lt 8, 3) := by decide +kernel
theorem d_W_keep_14 : decode c_W_keep 14 = .ok (.iload_n 1, 1) := by decide +kernel
theorem d_W_keep_15 : decode c_W_keep 15 = .ok (.iload_n 2, 1) := by decide +kernel
theorem d_W_keep_16 : decode c_W_keep 16 = .ok (.if_icmp .le 6, 3) := by decide +kernel
theorem d_W_keep_19 : decode c_W_keep 19 = .ok (.bipush (-2), 2) := by decide +kernel
theorem d_W_keep_21 : decode c_W_keep 21 = .ok (.ireturn, 1) := by decide +kernel
theorem d_W_keep_22 : decode c_W_keep 22 = .ok (.aload_n 0, 1) := by decide +kernel
theorem d_W_keep_23 : decode c_W_keep 23 = .ok (.getfield 10, 3) := by decide +kernel
theorem d_W_keep_26 : decode c_W_keep 26 = .ok (.iload_n 1, 1) := by decide +kernel
theorem d_W_keep_27 : decode c_W_keep 27 = .ok (.putfield 71, 3) := by decide +kernel
theorem d_W_keep_30 : decode c_W_keep 30 = .ok (.aload_n 0, 1) := by decide +kernel
theorem d_W_keep_31 : decode c_W_keep 31 = .ok (.getfield 10, 3) := by decide +kernel
theorem d_W_keep_34 : decode c_W_keep 34 = .ok (.iload_n 2, 1) := by decide +kernel
theorem d_W_keep_35 : decode c_W_keep 35 = .ok (.putfield 74, 3) := by decide +kernel
theorem d_W_keep_38 : decode c_W_keep 38 = .ok (.aload_n 0, 1) := by decide +kernel
theorem d_W_keep_39 : decode c_W_keep 39 = .ok (.invokevirtual 56, 3) := by decide +kernel
theorem d_W_keep_42 : decode c_W_keep 42 = .ok (.iconst 1, 1) := by decide +kernel
theorem d_W_keep_43 : decode c_W_keep 43 = .ok (.ireturn, 1) := by decide +kernel
theorem d_W_clear_0 : decode c_W_clear 0 = .ok (.aload_n 0, 1) := by decide +kernel
theorem d_W_clear_1 : decode c_W_clear 1 = .ok (.getfield 10, 3) := by decide +kernel
theorem d_W_clear_4 : decode c_W_clear 4 = .ok (.getfield 48, 3) := by decide +kernel
theorem d_W_clear_7 : decode c_W_clear 7 = .ok (.istore_n 1, 1) := by decide +kernel
theorem d_W_clear_8 : decode c_W_clear 8 = .ok (.aload_n 0, 1) := by decide +kernel
theorem d_W_clear_9 : decode c_W_clear 9 = .ok (.getfield 10, 3) := by decide +kernel
theorem d_W_clear_12 : decode c_W_clear 12 = .ok (.iconst 0, 1) := by decide +kernel
theorem d_W_clear_13 : decode c_W_clear 13 = .ok (.putfield 48, 3) := by decide +kernel
theorem d_W_clear_16 : decode c_W_clear 16 = .ok (.aload_n 0, 1) := by decide +kernel
theorem d_W_clear_17 : decode c_W_clear 17 = .ok (.invokevirtual 56, 3) := by decide +kernel
theorem d_W_clear_20 : decode c_W_clear 20 = .ok (.iload_n 1, 1) := by decide +kernel
theorem d_W_clear_21 : decode c_W_clear 21 = .ok (.ireturn, 1) := by decide +kernel
theorem d_W_row_0 : decode c_W_row 0 = .ok (.aload_n 0, 1) := by decide +kernel
theorem d_W_row_1 : decode c_W_row 1 = .ok (.iload_n 1, 1) := by decide +kernel
theorem d_W_row_2 : decode c_W_row 2 = .ok (.invokevirtual 59, 3) := by decide +kernel
theorem d_W_row_5 : decode c_W_row 5 = .ok (.ifCond .eq 11, 3) := by decide +kernel
theorem d_W_row_8 : decode c_W_row 8 = .ok (.aload_n 0, 1) := by decide +kernel
theorem d_W_row_9 : decode c_W_row 9 = .ok (.iload_n 2, 1) := by decide +kernel
theorem d_W_row_10 : decode c_W_row 10 = .ok (.invokevirtual 59, 3) := by decide +kernel
theorem d_W_row_13 : decode c_W_row 13 = .ok (.ifCond .ne 5, 3) := by decide +kernel
theorem d_W_row_16 : decode c_W_row 16 = .ok (.iconst (-1), 1) := by decide +kernel
theorem d_W_row_17 : decode c_W_row 17 = .ok (.ireturn, 1) := by decide +kernel
theorem d_W_row_18 : decode c_W_row 18 = .ok (.aload_n 0, 1) := by decide +kernel
theorem d_W_row_19 : decode c_W_row 19 = .ok (.getfield 19, 3) := by decide +kernel
theorem d_W_row_22 : decode c_W_row 22 = .ok (.getfield 77, 3) := by decide +kernel
theorem d_W_row_25 : decode c_W_row 25 = .ok (.iload_n 1, 1) := by decide +kernel
theorem d_W_row_26 : decode c_W_row 26 = .ok (.aaload, 1) := by decide +kernel
theorem d_W_row_27 : decode c_W_row 27 = .ok (.iload_n 2, 1) := by decide +kernel
theorem d_W_row_28 : decode c_W_row 28 = .ok (.iaload, 1) := by decide +kernel
theorem d_W_row_29 : decode c_W_row 29 = .ok (.ireturn, 1) := by decide +kernel
theorem d_W_total_0 : decode c_W_total 0 = .ok (.aload_n 0, 1) := by decide +kernel
theorem d_W_total_1 : decode c_W_total 1 = .ok (.iload_n 1, 1) := by decide +kernel
theorem d_W_total_2 : decode c_W_total 2 = .ok (.invokevirtual 59, 3) := by decide +kernel
theorem d_W_total_5 : decode c_W_total 5 = .ok (.ifCond .ne 5, 3) := by decide +kernel
theorem d_W_total_8 : decode c_W_total 8 = .ok (.iconst (-1), 1) := by decide +kernel
theorem d_W_total_9 : decode c_W_total 9 = .ok (.ireturn, 1) := by decide +kernel
theorem d_W_total_10 : decode c_W_total 10 = .ok (.aload_n 0, 1) := by decide +kernel
theorem d_W_total_11 : decode c_W_total 11 = .ok (.getfield 19, 3) := by decide +kernel
theorem d_W_total_14 : decode c_W_total 14 = .ok (.getfield 80, 3) := by decide +kernel
theorem d_W_total_17 : decode c_W_total 17 = .ok (.iload_n 1, 1) := by decide +kernel
theorem d_W_total_18 : decode c_W_total 18 = .ok (.iaload, 1) := by decide +kernel
theorem d_W_total_19 : decode c_W_total 19 = .ok (.ireturn, 1) := by decide +kernel
theorem d_W_closed_0 : decode c_W_closed 0 = .ok (.aload_n 0, 1) := by decide +kernel
theorem d_W_closed_1 : decode c_W_closed 1 = .ok (.getfield 26, 3) := by decide +kernel
theorem d_W_closed_4 : decode c_W_closed 4 = .ok (.getfield 83, 3) := by decide +kernel
theorem d_W_closed_7 : decode c_W_closed 7 = .ok (.ireturn, 1) := by decide +kernel
theorem d_W_closedOf_0 : decode c_W_closedOf 0 = .ok (.aload_n 0, 1) := by decide +kernel
theorem d_W_closedOf_1 : decode c_W_closedOf 1 = .ok (.iload_n 1, 1) := by decide +kernel
theorem d_W_closedOf_2 : decode c_W_closedOf 2 = .ok (.invokevirtual 59, 3) := by decide +kernel
theorem d_W_closedOf_5 : decode c_W_closedOf 5 = .ok (.ifCond .ne 5, 3) := by decide +kernel
theorem d_W_closedOf_8 : decode c_W_closedOf 8 = .ok (.iconst (-1), 1) := by decide +kernel
theorem d_W_closedOf_9 : decode c_W_closedOf 9 = .ok (.ireturn, 1) := by decide +kernel
theorem d_W_closedOf_10 : decode c_W_closedOf 10 = .ok (.aload_n 0, 1) := by decide +kernel
theorem d_W_closedOf_11 : decode c_W_closedOf 11 = .ok (.getfield 26, 3) := by decide +kernel
theorem d_W_closedOf_14 : decode c_W_closedOf 14 = .ok (.getfield 86, 3) := by decide +kernel
theorem d_W_closedOf_17 : decode c_W_closedOf 17 = .ok (.iload_n 1, 1) := by decide +kernel
theorem d_W_closedOf_18 : decode c_W_closedOf 18 = .ok (.iaload, 1) := by decide +kernel
theorem d_W_closedOf_19 : decode c_W_closedOf 19 = .ok (.ireturn, 1) := by decide +kernel
theorem d_W_period_0 : decode c_W_period 0 = .ok (.aload_n 0, 1) := by decide +kernel
theorem d_W_period_1 : decode c_W_period 1 = .ok (.iload_n 1, 1) := by decide +kernel
theorem d_W_period_2 : decode c_W_period 2 = .ok (.invokevirtual 89, 3) := by decide +kernel
theorem d_W_period_5 : decode c_W_period 5 = .ok (.ifCond .ne 5, 3) := by decide +kernel
theorem d_W_period_8 : decode c_W_period 8 = .ok (.iconst (-1), 1) := by decide +kernel
theorem d_W_period_9 : decode c_W_period 9 = .ok (.ireturn, 1) := by decide +kernel
theorem d_W_period_10 : decode c_W_period 10 = .ok (.aload_n 0, 1) := by decide +kernel
theorem d_W_period_11 : decode c_W_period 11 = .ok (.getfield 19, 3) := by decide +kernel
theorem d_W_period_14 : decode c_W_period 14 = .ok (.aload_n 0, 1) := by decide +kernel
theorem d_W_period_15 : decode c_W_period 15 = .ok (.getfield 26, 3) := by decide +kernel
theorem d_W_period_18 : decode c_W_period 18 = .ok (.getfield 92, 3) := by decide +kernel
theorem d_W_period_21 : decode c_W_period 21 = .ok (.iload_n 1, 1) := by decide +kernel
theorem d_W_period_22 : decode c_W_period 22 = .ok (.iaload, 1) := by decide +kernel
theorem d_W_period_23 : decode c_W_period 23 = .ok (.invokevirtual 95, 3) := by decide +kernel
theorem d_W_period_26 : decode c_W_period 26 = .ok (.ireturn, 1) := by decide +kernel
theorem d_W_isSet_0 : decode c_W_isSet 0 = .ok (.iload_n 1, 1) := by decide +kernel
theorem d_W_isSet_1 : decode c_W_isSet 1 = .ok (.ifCond .lt 18, 3) := by decide +kernel
theorem d_W_isSet_4 : decode c_W_isSet 4 = .ok (.iload_n 1, 1) := by decide +kernel
theorem d_W_isSet_5 : decode c_W_isSet 5 = .ok (.aload_n 0, 1) := by decide +kernel
theorem d_W_isSet_6 : decode c_W_isSet 6 = .ok (.getfield 26, 3) := by decide +kernel
theorem d_W_isSet_9 : decode c_W_isSet 9 = .ok (.getfield 83, 3) := by decide +kernel
theorem d_W_isSet_12 : decode c_W_isSet 12 = .ok (.if_icmp .ge 7, 3) := by decide +kernel
theorem d_W_isSet_15 : decode c_W_isSet 15 = .ok (.iconst 1, 1) := by decide +kernel
theorem d_W_isSet_16 : decode c_W_isSet 16 = .ok (.goto 4, 3) := by decide +kernel
theorem d_W_isSet_19 : decode c_W_isSet 19 = .ok (.iconst 0, 1) := by decide +kernel
theorem d_W_isSet_20 : decode c_W_isSet 20 = .ok (.ireturn, 1) := by decide +kernel
theorem d_W_rank_0 : decode c_W_rank 0 = .ok (.aload_n 0, 1) := by decide +kernel
theorem d_W_rank_1 : decode c_W_rank 1 = .ok (.iload_n 1, 1) := by decide +kernel
theorem d_W_rank_2 : decode c_W_rank 2 = .ok (.invokevirtual 59, 3) := by decide +kernel
theorem d_W_rank_5 : decode c_W_rank 5 = .ok (.ifCond .ne 7, 3) := by decide +kernel
theorem d_W_rank_8 : decode c_W_rank 8 = .ok (.ldc2_w 99, 3) := by decide +kernel
theorem d_W_rank_11 : decode c_W_rank 11 = .ok (.lreturn, 1) := by decide +kernel
theorem d_W_rank_12 : decode c_W_rank 12 = .ok (.iload_n 2, 1) := by decide +kernel
theorem d_W_rank_13 : decode c_W_rank 13 = .ok (.invokestatic 101, 3) := by decide +kernel
theorem d_W_rank_16 : decode c_W_rank 16 = .ok (.ifCond .ne 7, 3) := by decide +kernel
theorem d_W_rank_19 : decode c_W_rank 19 = .ok (.ldc2_w 104, 3) := by decide +kernel
theorem d_W_rank_22 : decode c_W_rank 22 = .ok (.lreturn, 1) := by decide +kernel
theorem d_W_rank_23 : decode c_W_rank 23 = .ok (.aload_n 0, 1) := by decide +kernel
theorem d_W_rank_24 : decode c_W_rank 24 = .ok (.getfield 26, 3) := by decide +kernel
theorem d_W_rank_27 : decode c_W_rank 27 = .ok (.getfield 83, 3) := by decide +kernel
theorem d_W_rank_30 : decode c_W_rank 30 = .ok (.iconst 1, 1) := by decide +kernel
theorem d_W_rank_31 : decode c_W_rank 31 = .ok (.if_icmp .eq 7, 3) := by decide +kernel
theorem d_W_rank_34 : decode c_W_rank 34 = .ok (.ldc2_w 106, 3) := by decide +kernel
theorem d_W_rank_37 : decode c_W_rank 37 = .ok (.lreturn, 1) := by decide +kernel
theorem d_W_rank_38 : decode c_W_rank 38 = .ok (.aload_n 0, 1) := by decide +kernel
theorem d_W_rank_39 : decode c_W_rank 39 = .ok (.aload_n 0, 1) := by decide +kernel
theorem d_W_rank_40 : decode c_W_rank 40 = .ok (.getfield 26, 3) := by decide +kernel
theorem d_W_rank_43 : decode c_W_rank 43 = .ok (.getfield 108, 3) := by decide +kernel
theorem d_W_rank_46 : decode c_W_rank 46 = .ok (.iconst 0, 1) := by decide +kernel
theorem d_W_rank_47 : decode c_W_rank 47 = .ok (.iaload, 1) := by decide +kernel
theorem d_W_rank_48 : decode c_W_rank 48 = .ok (.invokevirtual 111, 3) := by decide +kernel
theorem d_W_rank_51 : decode c_W_rank 51 = .ok (.lstore_n 3, 1) := by decide +kernel
theorem d_W_rank_52 : decode c_W_rank 52 = .ok (.aload_n 0, 1) := by decide +kernel
theorem d_W_rank_53 : decode c_W_rank 53 = .ok (.getfield 44, 3) := by decide +kernel
theorem d_W_rank_56 : decode c_W_rank 56 = .ok (.iload_n 1, 1) := by decide +kernel
theorem d_W_rank_57 : decode c_W_rank 57 = .ok (.laload, 1) := by decide +kernel
theorem d_W_rank_58 : decode c_W_rank 58 = .ok (.lload_n 3, 1) := by decide +kernel
theorem d_W_rank_59 : decode c_W_rank 59 = .ok (.iload_n 2, 1) := by decide +kernel
theorem d_W_rank_60 : decode c_W_rank 60 = .ok (.invokestatic 115, 3) := by decide +kernel
theorem d_W_rank_63 : decode c_W_rank 63 = .ok (.lreturn, 1) := by decide +kernel
theorem d_W_isPart_0 : decode c_W_isPart 0 = .ok (.iload_n 0, 1) := by decide +kernel
theorem d_W_isPart_1 : decode c_W_isPart 1 = .ok (.ifCond .eq 8, 3) := by decide +kernel
theorem d_W_isPart_4 : decode c_W_isPart 4 = .ok (.iload_n 0, 1) := by decide +kernel
theorem d_W_isPart_5 : decode c_W_isPart 5 = .ok (.iconst 1, 1) := by decide +kernel
theorem d_W_isPart_6 : decode c_W_isPart 6 = .ok (.if_icmp .ne 7, 3) := by decide +kernel
theorem d_W_isPart_9 : decode c_W_isPart 9 = .ok (.iconst 1, 1) := by decide +kernel
theorem d_W_isPart_10 : decode c_W_isPart 10 = .ok (.goto 4, 3) := by decide +kernel
theorem d_W_isPart_13 : decode c_W_isPart 13 = .ok (.iconst 0, 1) := by decide +kernel
theorem d_W_isPart_14 : decode c_W_isPart 14 = .ok (.ireturn, 1) := by decide +kernel
theorem d_W_fillShares_0 : decode c_W_fillShares 0 = .ok (.lconst 0, 1) := by decide +kernel
theorem d_W_fillShares_1 : decode c_W_fillShares 1 = .ok (.lstore_n 2, 1) := by decide +kernel
theorem d_W_fillShares_2 : decode c_W_fillShares 2 = .ok (.iconst 0, 1) := by decide +kernel
theorem d_W_fillShares_3 : decode c_W_fillShares 3 = .ok (.istore 4, 2) := by decide +kernel
theorem d_W_fillShares_5 : decode c_W_fillShares 5 = .ok (.iload 4, 2) := by decide +kernel
theorem d_W_fillShares_7 : decode c_W_fillShares 7 = .ok (.aload_n 0, 1) := by decide +kernel
theorem d_W_fillShares_8 : decode c_W_fillShares 8 = .ok (.getfield 10, 3) := by decide +kernel
theorem d_W_fillShares_11 : decode c_W_fillShares 11 = .ok (.getfield 48, 3) := by decide +kernel
theorem d_W_fillShares_14 : decode c_W_fillShares 14 = .ok (.if_icmp .ge 82, 3) := by decide +kernel
theorem d_W_fillShares_17 : decode c_W_fillShares 17 = .ok (.aload_n 0, 1) := by decide +kernel
theorem d_W_fillShares_18 : decode c_W_fillShares 18 = .ok (.getfield 44, 3) := by decide +kernel
theorem d_W_fillShares_21 : decode c_W_fillShares 21 = .ok (.iload 4, 2) := by decide +kernel
theorem d_W_fillShares_23 : decode c_W_fillShares 23 = .ok (.lconst 0, 1) := by decide +kernel
theorem d_W_fillShares_24 : decode c_W_fillShares 24 = .ok (.lastore, 1) := by decide +kernel
theorem d_W_fillShares_25 : decode c_W_fillShares 25 = .ok (.iload_n 1, 1) := by decide +kernel
theorem d_W_fillShares_26 : decode c_W_fillShares 26 = .ok (.iload 4, 2) := by decide +kernel
theorem d_W_fillShares_28 : decode c_W_fillShares 28 = .ok (.invokestatic 176, 3) := by decide +kernel
theorem d_W_fillShares_31 : decode c_W_fillShares 31 = .ok (.ifCond .eq 49, 3) := by decide +kernel
theorem d_W_fillShares_34 : decode c_W_fillShares 34 = .ok (.aload_n 0, 1) := by decide +kernel
theorem d_W_fillShares_35 : decode c_W_fillShares 35 = .ok (.getfield 33, 3) := by decide +kernel
theorem d_W_fillShares_38 : decode c_W_fillShares 38 = .ok (.aload_n 0, 1) := by decide +kernel
theorem d_W_fillShares_39 : decode c_W_fillShares 39 = .ok (.getfield 19, 3) := by decide +kernel
theorem d_W_fillShares_42 : decode c_W_fillShares 42 = .ok (.iload_n 1, 1) := by decide +kernel
theorem d_W_fillShares_43 : decode c_W_fillShares 43 = .ok (.iload 4, 2) := by decide +kernel
theorem d_W_fillShares_45 : decode c_W_fillShares 45 = .ok (.invokestatic 122, 3) := by decide +kernel
theorem d_W_fillShares_48 : decode c_W_fillShares 48 = .ok (.iconst (-1), 1) := by decide +kernel
theorem d_W_fillShares_49 : decode c_W_fillShares 49 = .ok (.ixor, 1) := by decide +kernel
theorem d_W_fillShares_50 : decode c_W_fillShares 50 = .ok (.iand, 1) := by decide +kernel
theorem d_W_fillShares_51 : decode c_W_fillShares 51 = .ok (.invokevirtual 136, 3) := by decide +kernel
theorem d_W_fillShares_54 : decode c_W_fillShares 54 = .ok (.aload_n 0, 1) := by decide +kernel
theorem d_W_fillShares_55 : decode c_W_fillShares 55 = .ok (.getfield 44, 3) := by decide +kernel
theorem d_W_fillShares_58 : decode c_W_fillShares 58 = .ok (.iload 4, 2) := by decide +kernel
theorem d_W_fillShares_60 : decode c_W_fillShares 60 = .ok (.aload_n 0, 1) := by decide +kernel
theorem d_W_fillShares_61 : decode c_W_fillShares 61 = .ok (.getfield 19, 3) := by decide +kernel
theorem d_W_fillShares_64 : decode c_W_fillShares 64 = .ok (.getfield 80, 3) := by decide +kernel
theorem d_W_fillShares_67 : decode c_W_fillShares 67 = .ok (.iload 4, 2) := by decide +kernel
theorem d_W_fillShares_69 : decode c_W_fillShares 69 = .ok (.iaload, 1) := by decide +kernel
theorem d_W_fillShares_70 : decode c_W_fillShares 70 = .ok (.i2l, 1) := by decide +kernel
theorem d_W_fillShares_71 : decode c_W_fillShares 71 = .ok (.aload_n 0, 1) := by decide +kernel
theorem d_W_fillShares_72 : decode c_W_fillShares 72 = .ok (.getfield 33, 3) := by decide +kernel
theorem d_W_fillShares_75 : decode c_W_fillShares 75 = .ok (.invokevirtual 140, 3) := by decide +kernel
theorem d_W_fillShares_78 : decode c_W_fillShares 78 = .ok (.lmul, 1) := by decide +kernel
theorem d_W_fillShares_79 : decode c_W_fillShares 79 = .ok (.lastore, 1) := by decide +kernel
theorem d_W_fillShares_80 : decode c_W_fillShares 80 = .ok (.lload_n 2, 1) := by decide +kernel
theorem d_W_fillShares_81 : decode c_W_fillShares 81 = .ok (.aload_n 0, 1) := by decide +kernel
theorem d_W_fillShares_82 : decode c_W_fillShares 82 = .ok (.getfield 44, 3) := by decide +kernel
theorem d_W_fillShares_85 : decode c_W_fillShares 85 = .ok (.iload 4, 2) := by decide +kernel
theorem d_W_fillShares_87 : decode c_W_fillShares 87 = .ok (.laload, 1) := by decide +kernel
theorem d_W_fillShares_88 : decode c_W_fillShares 88 = .ok (.ladd, 1) := by decide +kernel
theorem d_W_fillShares_89 : decode c_W_fillShares 89 = .ok (.lstore_n 2, 1) := by decide +kernel
theorem d_W_fillShares_90 : decode c_W_fillShares 90 = .ok (.iinc 4 1, 3) := by decide +kernel
theorem d_W_fillShares_93 : decode c_W_fillShares 93 = .ok (.goto (-88), 3) := by decide +kernel
theorem d_W_fillShares_96 : decode c_W_fillShares 96 = .ok (.lload_n 2, 1) := by decide +kernel
theorem d_W_fillShares_97 : decode c_W_fillShares 97 = .ok (.lreturn, 1) := by decide +kernel
theorem d_W_fraction_0 : decode c_W_fraction 0 = .ok (.iload 4, 2) := by decide +kernel
theorem d_W_fraction_2 : decode c_W_fraction 2 = .ok (.ifCond .ne 7, 3) := by decide +kernel
theorem d_W_fraction_5 : decode c_W_fraction 5 = .ok (.lload_n 0, 1) := by decide +kernel
theorem d_W_fraction_6 : decode c_W_fraction 6 = .ok (.goto 4, 3) := by decide +kernel
theorem d_W_fraction_9 : decode c_W_fraction 9 = .ok (.lload_n 2, 1) := by decide +kernel
theorem d_W_fraction_10 : decode c_W_fraction 10 = .ok (.lstore 5, 2) := by decide +kernel
theorem d_W_fraction_12 : decode c_W_fraction 12 = .ok (.lload_n 0, 1) := by decide +kernel
theorem d_W_fraction_13 : decode c_W_fraction 13 = .ok (.lload_n 2, 1) := by decide +kernel
theorem d_W_fraction_14 : decode c_W_fraction 14 = .ok (.invokestatic 184, 3) := by decide +kernel
theorem d_W_fraction_17 : decode c_W_fraction 17 = .ok (.lstore 7, 2) := by decide +kernel
theorem d_W_fraction_19 : decode c_W_fraction 19 = .ok (.lload 7, 2) := by decide +kernel
theorem d_W_fraction_21 : decode c_W_fraction 21 = .ok (.lconst 0, 1) := by decide +kernel
theorem d_W_fraction_22 : decode c_W_fraction 22 = .ok (.lcmp, 1) := by decide +kernel
theorem d_W_fraction_23 : decode c_W_fraction 23 = .ok (.ifCond .ne 8, 3) := by decide +kernel
theorem d_W_fraction_26 : decode c_W_fraction 26 = .ok (.lload 5, 2) := by decide +kernel
theorem d_W_fraction_28 : decode c_W_fraction 28 = .ok (.goto 8, 3) := by decide +kernel
theorem d_W_fraction_31 : decode c_W_fraction 31 = .ok (.lload 5, 2) := by decide +kernel
theorem d_W_fraction_33 : decode c_W_fraction 33 = .ok (.lload 7, 2) := by decide +kernel
theorem d_W_fraction_35 : decode c_W_fraction 35 = .ok (.ldiv, 1) := by decide +kernel
theorem d_W_fraction_36 : decode c_W_fraction 36 = .ok (.lreturn, 1) := by decide +kernel
theorem d_W_place_0 : decode c_W_place 0 = .ok (.aload_n 0, 1) := by decide +kernel
theorem d_W_place_1 : decode c_W_place 1 = .ok (.iload_n 1, 1) := by decide +kernel
theorem d_W_place_2 : decode c_W_place 2 = .ok (.invokevirtual 59, 3) := by decide +kernel
theorem d_W_place_5 : decode c_W_place 5 = .ok (.ifCond .ne 5, 3) := by decide +kernel
theorem d_W_place_8 : decode c_W_place 8 = .ok (.iconst (-1), 1) := by decide +kernel
theorem d_W_place_9 : decode c_W_place 9 = .ok (.ireturn, 1) := by decide +kernel
theorem d_W_place_10 : decode c_W_place 10 = .ok (.aload_n 0, 1) := by decide +kernel
theorem d_W_place_11 : decode c_W_place 11 = .ok (.getfield 26, 3) := by decide +kernel
theorem d_W_place_14 : decode c_W_place 14 = .ok (.getfield 83, 3) := by decide +kernel
theorem d_W_place_17 : decode c_W_place 17 = .ok (.iconst 1, 1) := by decide +kernel
theorem d_W_place_18 : decode c_W_place 18 = .ok (.if_icmp .eq 6, 3) := by decide +kernel
theorem d_W_place_21 : decode c_W_place 21 = .ok (.bipush (-3), 2) := by decide +kernel
theorem d_W_place_23 : decode c_W_place 23 = .ok (.ireturn, 1) := by decide +kernel
theorem d_W_place_24 : decode c_W_place 24 = .ok (.aload_n 0, 1) := by decide +kernel
theorem d_W_place_25 : decode c_W_place 25 = .ok (.aload_n 0, 1) := by decide +kernel
theorem d_W_place_26 : decode c_W_place 26 = .ok (.getfield 26, 3) := by decide +kernel
theorem d_W_place_29 : decode c_W_place 29 = .ok (.getfield 108, 3) := by decide +kernel
theorem d_W_place_32 : decode c_W_place 32 = .ok (.iconst 0, 1) := by decide +kernel
theorem d_W_place_33 : decode c_W_place 33 = .ok (.iaload, 1) := by decide +kernel
theorem d_W_place_34 : decode c_W_place 34 = .ok (.invokevirtual 111, 3) := by decide +kernel
theorem d_W_place_37 : decode c_W_place 37 = .ok (.pop2, 1) := by decide +kernel
theorem d_W_place_38 : decode c_W_place 38 = .ok (.iconst 0, 1) := by decide +kernel
theorem d_W_place_39 : decode c_W_place 39 = .ok (.istore_n 2, 1) := by decide +kernel
theorem d_W_place_40 : decode c_W_place 40 = .ok (.iload_n 2, 1) := by decide +kernel
theorem d_W_place_41 : decode c_W_place 41 = .ok (.aload_n 0, 1) := by decide +kernel
theorem d_W_place_42 : decode c_W_place 42 = .ok (.getfield 10, 3) := by decide +kernel
theorem d_W_place_45 : decode c_W_place 45 = .ok (.getfield 48, 3) := by decide +kernel
theorem d_W_place_48 : decode c_W_place 48 = .ok (.if_icmp .ge 20, 3) := by decide +kernel
theorem d_W_place_51 : decode c_W_place 51 = .ok (.aload_n 0, 1) := by decide +kernel
theorem d_W_place_52 : decode c_W_place 52 = .ok (.iload_n 2, 1) := by decide +kernel
theorem d_W_place_53 : decode c_W_place 53 = .ok (.invokevirtual 119, 3) := by decide +kernel
theorem d_W_place_56 : decode c_W_place 56 = .ok (.iload_n 1, 1) := by decide +kernel
theorem d_W_place_57 : decode c_W_place 57 = .ok (.if_icmp .ne 5, 3) := by decide +kernel
theorem d_W_place_60 : decode c_W_place 60 = .ok (.iload_n 2, 1) := by decide +kernel
theorem d_W_place_61 : decode c_W_place 61 = .ok (.ireturn, 1) := by decide +kernel
theorem d_W_place_62 : decode c_W_place 62 = .ok (.iinc 2 1, 3) := by decide +kernel
theorem d_W_place_65 : decode c_W_place 65 = .ok (.goto (-25), 3) := by decide +kernel
theorem d_W_place_68 : decode c_W_place 68 = .ok (.iconst (-1), 1) := by decide +kernel
theorem d_W_place_69 : decode c_W_place 69 = .ok (.ireturn, 1) := by decide +kernel
theorem d_W_nodesAhead_0 : decode c_W_nodesAhead 0 = .ok (.iconst 0, 1) := by decide +kernel
theorem d_W_nodesAhead_1 : decode c_W_nodesAhead 1 = .ok (.istore_n 2, 1) := by decide +kernel
theorem d_W_nodesAhead_2 : decode c_W_nodesAhead 2 = .ok (.iconst 0, 1) := by decide +kernel
theorem d_W_nodesAhead_3 : decode c_W_nodesAhead 3 = .ok (.istore_n 3, 1) := by decide +kernel
theorem d_W_nodesAhead_4 : decode c_W_nodesAhead 4 = .ok (.iload_n 3, 1) := by decide +kernel
theorem d_W_nodesAhead_5 : decode c_W_nodesAhead 5 = .ok (.aload_n 0, 1) := by decide +kernel
theorem d_W_nodesAhead_6 : decode c_W_nodesAhead 6 = .ok (.getfield 10, 3) := by decide +kernel
theorem d_W_nodesAhead_9 : decode c_W_nodesAhead 9 = .ok (.getfield 48, 3) := by decide +kernel
theorem d_W_nodesAhead_12 : decode c_W_nodesAhead 12 = .ok (.if_icmp .ge 49, 3) := by decide +kernel
theorem d_W_nodesAhead_15 : decode c_W_nodesAhead 15 = .ok (.aload_n 0, 1) := by decide +kernel
theorem d_W_nodesAhead_16 : decode c_W_nodesAhead 16 = .ok (.getfield 44, 3) := by decide +kernel
theorem d_W_nodesAhead_19 : decode c_W_nodesAhead 19 = .ok (.iload_n 3, 1) := by decide +kernel
theorem d_W_nodesAhead_20 : decode c_W_nodesAhead 20 = .ok (.laload, 1) := by decide +kernel
theorem d_W_nodesAhead_21 : decode c_W_nodesAhead 21 = .ok (.aload_n 0, 1) := by decide +kernel
theorem d_W_nodesAhead_22 : decode c_W_nodesAhead 22 = .ok (.getfield 44, 3) := by decide +kernel
theorem d_W_nodesAhead_25 : decode c_W_nodesAhead 25 = .ok (.iload_n 1, 1) := by decide +kernel
theorem d_W_nodesAhead_26 : decode c_W_nodesAhead 26 = .ok (.laload, 1) := by decide +kernel
theorem d_W_nodesAhead_27 : decode c_W_nodesAhead 27 = .ok (.lcmp, 1) := by decide +kernel
theorem d_W_nodesAhead_28 : decode c_W_nodesAhead 28 = .ok (.ifCond .gt 24, 3) := by decide +kernel
theorem d_W_nodesAhead_31 : decode c_W_nodesAhead 31 = .ok (.aload_n 0, 1) := by decide +kernel
theorem d_W_nodesAhead_32 : decode c_W_nodesAhead 32 = .ok (.getfield 44, 3) := by decide +kernel
theorem d_W_nodesAhead_35 : decode c_W_nodesAhead 35 = .ok (.iload_n 3, 1) := by decide +kernel
theorem d_W_nodesAhead_36 : decode c_W_nodesAhead 36 = .ok (.laload, 1) := by decide +kernel
theorem d_W_nodesAhead_37 : decode c_W_nodesAhead 37 = .ok (.aload_n 0, 1) := by decide +kernel
theorem d_W_nodesAhead_38 : decode c_W_nodesAhead 38 = .ok (.getfield 44, 3) := by decide +kernel
theorem d_W_nodesAhead_41 : decode c_W_nodesAhead 41 = .ok (.iload_n 1, 1) := by decide +kernel
theorem d_W_nodesAhead_42 : decode c_W_nodesAhead 42 = .ok (.laload, 1) := by decide +kernel
theorem d_W_nodesAhead_43 : decode c_W_nodesAhead 43 = .ok (.lcmp, 1) := by decide +kernel
theorem d_W_nodesAhead_44 : decode c_W_nodesAhead 44 = .ok (.ifCond .ne 11, 3) := by decide +kernel
theorem d_W_nodesAhead_47 : decode c_W_nodesAhead 47 = .ok (.iload_n 3, 1) := by decide +kernel
theorem d_W_nodesAhead_48 : decode c_W_nodesAhead 48 = .ok (.iload_n 1, 1) := by decide +kernel
theorem d_W_nodesAhead_49 : decode c_W_nodesAhead 49 = .ok (.if_icmp .ge 6, 3) := by decide +kernel
theorem d_W_nodesAhead_52 : decode c_W_nodesAhead 52 = .ok (.iinc 2 1, 3) := by decide +kernel
theorem d_W_nodesAhead_55 : decode c_W_nodesAhead 55 = .ok (.iinc 3 1, 3) := by decide +kernel
theorem d_W_nodesAhead_58 : decode c_W_nodesAhead 58 = .ok (.goto (-54), 3) := by decide +kernel
theorem d_W_nodesAhead_61 : decode c_W_nodesAhead 61 = .ok (.iload_n 2, 1) := by decide +kernel
theorem d_W_nodesAhead_62 : decode c_W_nodesAhead 62 = .ok (.ireturn, 1) := by decide +kernel
theorem d_W_reach_0 : decode c_W_reach 0 = .ok (.aload_n 0, 1) := by decide +kernel
theorem d_W_reach_1 : decode c_W_reach 1 = .ok (.iload_n 1, 1) := by decide +kernel
theorem d_W_reach_2 : decode c_W_reach 2 = .ok (.invokevirtual 59, 3) := by decide +kernel
theorem d_W_reach_5 : decode c_W_reach 5 = .ok (.ifCond .eq 11, 3) := by decide +kernel
theorem d_W_reach_8 : decode c_W_reach 8 = .ok (.aload_n 0, 1) := by decide +kernel
theorem d_W_reach_9 : decode c_W_reach 9 = .ok (.iload_n 2, 1) := by decide +kernel
theorem d_W_reach_10 : decode c_W_reach 10 = .ok (.invokevirtual 59, 3) := by decide +kernel
theorem d_W_reach_13 : decode c_W_reach 13 = .ok (.ifCond .ne 7, 3) := by decide +kernel
theorem d_W_reach_16 : decode c_W_reach 16 = .ok (.ldc2_w 99, 3) := by decide +kernel
theorem d_W_reach_19 : decode c_W_reach 19 = .ok (.lreturn, 1) := by decide +kernel
theorem d_W_reach_20 : decode c_W_reach 20 = .ok (.iload_n 3, 1) := by decide +kernel
theorem d_W_reach_21 : decode c_W_reach 21 = .ok (.invokestatic 101, 3) := by decide +kernel
theorem d_W_reach_24 : decode c_W_reach 24 = .ok (.ifCond .ne 7, 3) := by decide +kernel
theorem d_W_reach_27 : decode c_W_reach 27 = .ok (.ldc2_w 104, 3) := by decide +kernel
theorem d_W_reach_30 : decode c_W_reach 30 = .ok (.lreturn, 1) := by decide +kernel
theorem d_W_reach_31 : decode c_W_reach 31 = .ok (.aload_n 0, 1) := by decide +kernel
theorem d_W_reach_32 : decode c_W_reach 32 = .ok (.iload_n 1, 1) := by decide +kernel
theorem d_W_reach_33 : decode c_W_reach 33 = .ok (.iload_n 2, 1) := by decide +kernel
theorem d_W_reach_34 : decode c_W_reach 34 = .ok (.invokestatic 122, 3) := by decide +kernel
theorem d_W_reach_37 : decode c_W_reach 37 = .ok (.iload_n 3, 1) := by decide +kernel
theorem d_W_reach_38 : decode c_W_reach 38 = .ok (.invokevirtual 125, 3) := by decide +kernel
theorem d_W_reach_41 : decode c_W_reach 41 = .ok (.lreturn, 1) := by decide +kernel
theorem d_W_chanceToCome_0 : decode c_W_chanceToCome 0 = .ok (.iload_n 2, 1) := by decide +kernel
theorem d_W_chanceToCome_1 : decode c_W_chanceToCome 1 = .ok (.iload_n 1, 1) := by decide +kernel
theorem d_W_chanceToCome_2 : decode c_W_chanceToCome 2 = .ok (.invokestatic 176, 3) := by decide +kernel
theorem d_W_chanceToCome_5 : decode c_W_chanceToCome 5 = .ok (.ifCond .eq 10, 3) := by decide +kernel
theorem d_W_chanceToCome_8 : decode c_W_chanceToCome 8 = .ok (.lconst 1, 1) := by decide +kernel
theorem d_W_chanceToCome_9 : decode c_W_chanceToCome 9 = .ok (.lconst 1, 1) := by decide +kernel
theorem d_W_chanceToCome_10 : decode c_W_chanceToCome 10 = .ok (.iload_n 3, 1) := by decide +kernel
theorem d_W_chanceToCome_11 : decode c_W_chanceToCome 11 = .ok (.invokestatic 115, 3) := by decide +kernel
theorem d_W_chanceToCome_14 : decode c_W_chanceToCome 14 = .ok (.lreturn, 1) := by decide +kernel
theorem d_W_chanceToCome_15 : decode c_W_chanceToCome 15 = .ok (.aload_n 0, 1) := by decide +kernel
theorem d_W_chanceToCome_16 : decode c_W_chanceToCome 16 = .ok (.getfield 26, 3) := by decide +kernel
theorem d_W_chanceToCome_19 : decode c_W_chanceToCome 19 = .ok (.iload_n 2, 1) := by decide +kernel
theorem d_W_chanceToCome_20 : decode c_W_chanceToCome 20 = .ok (.invokevirtual 133, 3) := by decide +kernel
theorem d_W_chanceToCome_23 : decode c_W_chanceToCome 23 = .ok (.iload_n 2, 1) := by decide +kernel
theorem d_W_chanceToCome_24 : decode c_W_chanceToCome 24 = .ok (.iconst (-1), 1) := by decide +kernel
theorem d_W_chanceToCome_25 : decode c_W_chanceToCome 25 = .ok (.ixor, 1) := by decide +kernel
theorem d_W_chanceToCome_26 : decode c_W_chanceToCome 26 = .ok (.iand, 1) := by decide +kernel
theorem d_W_chanceToCome_27 : decode c_W_chanceToCome 27 = .ok (.istore 4, 2) := by decide +kernel
theorem d_W_chanceToCome_29 : decode c_W_chanceToCome 29 = .ok (.iload 4, 2) := by decide +kernel
theorem d_W_chanceToCome_31 : decode c_W_chanceToCome 31 = .ok (.iload_n 1, 1) := by decide +kernel
theorem d_W_chanceToCome_32 : decode c_W_chanceToCome 32 = .ok (.invokestatic 176, 3) := by decide +kernel
theorem d_W_chanceToCome_35 : decode c_W_chanceToCome 35 = .ok (.ifCond .ne 10, 3) := by decide +kernel
theorem d_W_chanceToCome_38 : decode c_W_chanceToCome 38 = .ok (.lconst 0, 1) := by decide +kernel
theorem d_W_chanceToCome_39 : decode c_W_chanceToCome 39 = .ok (.lconst 1, 1) := by decide +kernel
theorem d_W_chanceToCome_40 : decode c_W_chanceToCome 40 = .ok (.iload_n 3, 1) := by decide +kernel
theorem d_W_chanceToCome_41 : decode c_W_chanceToCome 41 = .ok (.invokestatic 115, 3) := by decide +kernel
theorem d_W_chanceToCome_44 : decode c_W_chanceToCome 44 = .ok (.lreturn, 1) := by decide +kernel
theorem d_W_chanceToCome_45 : decode c_W_chanceToCome 45 = .ok (.aload_n 0, 1) := by decide +kernel
theorem d_W_chanceToCome_46 : decode c_W_chanceToCome 46 = .ok (.getfield 33, 3) := by decide +kernel
theorem d_W_chanceToCome_49 : decode c_W_chanceToCome 49 = .ok (.aload_n 0, 1) := by decide +kernel
theorem d_W_chanceToCome_50 : decode c_W_chanceToCome 50 = .ok (.getfield 19, 3) := by decide +kernel
theorem d_W_chanceToCome_53 : decode c_W_chanceToCome 53 = .ok (.iload 4, 2) := by decide +kernel
theorem d_W_chanceToCome_55 : decode c_W_chanceToCome 55 = .ok (.invokevirtual 136, 3) := by decide +kernel
theorem d_W_chanceToCome_58 : decode c_W_chanceToCome 58 = .ok (.aload_n 0, 1) := by decide +kernel
theorem d_W_chanceToCome_59 : decode c_W_chanceToCome 59 = .ok (.getfield 33, 3) := by decide +kernel
theorem d_W_chanceToCome_62 : decode c_W_chanceToCome 62 = .ok (.invokevirtual 140, 3) := by decide +kernel
theorem d_W_chanceToCome_65 : decode c_W_chanceToCome 65 = .ok (.lstore 5, 2) := by decide +kernel
theorem d_W_chanceToCome_67 : decode c_W_chanceToCome 67 = .ok (.aload_n 0, 1) := by decide +kernel
theorem d_W_chanceToCome_68 : decode c_W_chanceToCome 68 = .ok (.getfield 33, 3) := by decide +kernel
theorem d_W_chanceToCome_71 : decode c_W_chanceToCome 71 = .ok (.aload_n 0, 1) := by decide +kernel
theorem d_W_chanceToCome_72 : decode c_W_chanceToCome 72 = .ok (.getfield 19, 3) := by decide +kernel
theorem d_W_chanceToCome_75 : decode c_W_chanceToCome 75 = .ok (.iload 4, 2) := by decide +kernel
theorem d_W_chanceToCome_77 : decode c_W_chanceToCome 77 = .ok (.iload_n 2, 1) := by decide +kernel
theorem d_W_chanceToCome_78 : decode c_W_chanceToCome 78 = .ok (.iload_n 1, 1) := by decide +kernel
theorem d_W_chanceToCome_79 : decode c_W_chanceToCome 79 = .ok (.invokevirtual 180, 3) := by decide +kernel
theorem d_W_chanceToCome_82 : decode c_W_chanceToCome 82 = .ok (.aload_n 0, 1) := by decide +kernel
theorem d_W_chanceToCome_83 : decode c_W_chanceToCome 83 = .ok (.getfield 33, 3) := by decide +kernel
theorem d_W_chanceToCome_86 : decode c_W_chanceToCome 86 = .ok (.invokevirtual 140, 3) := by decide +kernel
theorem d_W_chanceToCome_89 : decode c_W_chanceToCome 89 = .ok (.lload 5, 2) := by decide +kernel
theorem d_W_chanceToCome_91 : decode c_W_chanceToCome 91 = .ok (.iload_n 3, 1) := by decide +kernel
theorem d_W_chanceToCome_92 : decode c_W_chanceToCome 92 = .ok (.invokestatic 115, 3) := by decide +kernel
theorem d_W_chanceToCome_95 : decode c_W_chanceToCome 95 = .ok (.lreturn, 1) := by decide +kernel
theorem d_W_hit_0 : decode c_W_hit 0 = .ok (.aload_n 0, 1) := by decide +kernel
theorem d_W_hit_1 : decode c_W_hit 1 = .ok (.iload_n 1, 1) := by decide +kernel
theorem d_W_hit_2 : decode c_W_hit 2 = .ok (.invokevirtual 59, 3) := by decide +kernel
theorem d_W_hit_5 : decode c_W_hit 5 = .ok (.ifCond .eq 11, 3) := by decide +kernel
theorem d_W_hit_8 : decode c_W_hit 8 = .ok (.aload_n 0, 1) := by decide +kernel
theorem d_W_hit_9 : decode c_W_hit 9 = .ok (.iload_n 2, 1) := by decide +kernel
theorem d_W_hit_10 : decode c_W_hit 10 = .ok (.invokevirtual 59, 3) := by decide +kernel
theorem d_W_hit_13 : decode c_W_hit 13 = .ok (.ifCond .ne 7, 3) := by decide +kernel
theorem d_W_hit_16 : decode c_W_hit 16 = .ok (.ldc2_w 99, 3) := by decide +kernel
theorem d_W_hit_19 : decode c_W_hit 19 = .ok (.lreturn, 1) := by decide +kernel
theorem d_W_hit_20 : decode c_W_hit 20 = .ok (.iload_n 3, 1) := by decide +kernel
theorem d_W_hit_21 : decode c_W_hit 21 = .ok (.invokestatic 101, 3) := by decide +kernel
theorem d_W_hit_24 : decode c_W_hit 24 = .ok (.ifCond .ne 7, 3) := by decide +kernel
theorem d_W_hit_27 : decode c_W_hit 27 = .ok (.ldc2_w 104, 3) := by decide +kernel
theorem d_W_hit_30 : decode c_W_hit 30 = .ok (.lreturn, 1) := by decide +kernel
theorem d_W_hit_31 : decode c_W_hit 31 = .ok (.iload_n 1, 1) := by decide +kernel
theorem d_W_hit_32 : decode c_W_hit 32 = .ok (.iload_n 2, 1) := by decide +kernel
theorem d_W_hit_33 : decode c_W_hit 33 = .ok (.if_icmp .ne 10, 3) := by decide +kernel
theorem d_W_hit_36 : decode c_W_hit 36 = .ok (.lconst 0, 1) := by decide +kernel
theorem d_W_hit_37 : decode c_W_hit 37 = .ok (.lconst 1, 1) := by decide +kernel
theorem d_W_hit_38 : decode c_W_hit 38 = .ok (.iload_n 3, 1) := by decide +kernel
theorem d_W_hit_39 : decode c_W_hit 39 = .ok (.invokestatic 115, 3) := by decide +kernel
theorem d_W_hit_42 : decode c_W_hit 42 = .ok (.lreturn, 1) := by decide +kernel
theorem d_W_hit_43 : decode c_W_hit 43 = .ok (.aload_n 0, 1) := by decide +kernel
theorem d_W_hit_44 : decode c_W_hit 44 = .ok (.getfield 19, 3) := by decide +kernel
theorem d_W_hit_47 : decode c_W_hit 47 = .ok (.iload_n 1, 1) := by decide +kernel
theorem d_W_hit_48 : decode c_W_hit 48 = .ok (.iload_n 2, 1) := by decide +kernel
theorem d_W_hit_49 : decode c_W_hit 49 = .ok (.invokestatic 122, 3) := by decide +kernel
theorem d_W_hit_52 : decode c_W_hit 52 = .ok (.invokevirtual 129, 3) := by decide +kernel
theorem d_W_hit_55 : decode c_W_hit 55 = .ok (.istore 4, 2) := by decide +kernel
theorem d_W_hit_57 : decode c_W_hit 57 = .ok (.iload 4, 2) := by decide +kernel
theorem d_W_hit_59 : decode c_W_hit 59 = .ok (.aload_n 0, 1) := by decide +kernel
theorem d_W_hit_60 : decode c_W_hit 60 = .ok (.getfield 26, 3) := by decide +kernel
theorem d_W_hit_63 : decode c_W_hit 63 = .ok (.iload_n 2, 1) := by decide +kernel
theorem d_W_hit_64 : decode c_W_hit 64 = .ok (.invokestatic 122, 3) := by decide +kernel
theorem d_W_hit_67 : decode c_W_hit 67 = .ok (.invokevirtual 133, 3) := by decide +kernel
theorem d_W_hit_70 : decode c_W_hit 70 = .ok (.iconst (-1), 1) := by decide +kernel
theorem d_W_hit_71 : decode c_W_hit 71 = .ok (.ixor, 1) := by decide +kernel
theorem d_W_hit_72 : decode c_W_hit 72 = .ok (.iand, 1) := by decide +kernel
theorem d_W_hit_73 : decode c_W_hit 73 = .ok (.ifCond .eq 7, 3) := by decide +kernel
theorem d_W_hit_76 : decode c_W_hit 76 = .ok (.ldc2_w 106, 3) := by decide +kernel
theorem d_W_hit_79 : decode c_W_hit 79 = .ok (.lreturn, 1) := by decide +kernel
theorem d_W_hit_80 : decode c_W_hit 80 = .ok (.aload_n 0, 1) := by decide +kernel
theorem d_W_hit_81 : decode c_W_hit 81 = .ok (.getfield 33, 3) := by decide +kernel
theorem d_W_hit_84 : decode c_W_hit 84 = .ok (.aload_n 0, 1) := by decide +kernel
theorem d_W_hit_85 : decode c_W_hit 85 = .ok (.getfield 19, 3) := by decide +kernel
theorem d_W_hit_88 : decode c_W_hit 88 = .ok (.iload 4, 2) := by decide +kernel
theorem d_W_hit_90 : decode c_W_hit 90 = .ok (.invokevirtual 136, 3) := by decide +kernel
theorem d_W_hit_93 : decode c_W_hit 93 = .ok (.aload_n 0, 1) := by decide +kernel
theorem d_W_hit_94 : decode c_W_hit 94 = .ok (.getfield 33, 3) := by decide +kernel
theorem d_W_hit_97 : decode c_W_hit 97 = .ok (.invokevirtual 140, 3) := by decide +kernel
theorem d_W_hit_100 : decode c_W_hit 100 = .ok (.lstore 5, 2) := by decide +kernel
theorem d_W_hit_102 : decode c_W_hit 102 = .ok (.aload_n 0, 1) := by decide +kernel
theorem d_W_hit_103 : decode c_W_hit 103 = .ok (.getfield 33, 3) := by decide +kernel
theorem d_W_hit_106 : decode c_W_hit 106 = .ok (.aload_n 0, 1) := by decide +kernel
theorem d_W_hit_107 : decode c_W_hit 107 = .ok (.getfield 19, 3) := by decide +kernel
theorem d_W_hit_110 : decode c_W_hit 110 = .ok (.iload 4, 2) := by decide +kernel
theorem d_W_hit_112 : decode c_W_hit 112 = .ok (.iload_n 1, 1) := by decide +kernel
theorem d_W_hit_113 : decode c_W_hit 113 = .ok (.invokevirtual 144, 3) := by decide +kernel
theorem d_W_hit_116 : decode c_W_hit 116 = .ok (.aload_n 0, 1) := by decide +kernel
theorem d_W_hit_117 : decode c_W_hit 117 = .ok (.getfield 33, 3) := by decide +kernel
theorem d_W_hit_120 : decode c_W_hit 120 = .ok (.invokevirtual 140, 3) := by decide +kernel
theorem d_W_hit_123 : decode c_W_hit 123 = .ok (.lload 5, 2) := by decide +kernel
theorem d_W_hit_125 : decode c_W_hit 125 = .ok (.iload_n 3, 1) := by decide +kernel
theorem d_W_hit_126 : decode c_W_hit 126 = .ok (.invokestatic 115, 3) := by decide +kernel
theorem d_W_hit_129 : decode c_W_hit 129 = .ok (.lreturn, 1) := by decide +kernel
theorem d_W_back_0 : decode c_W_back 0 = .ok (.aload_n 0, 1) := by decide +kernel
theorem d_W_back_1 : decode c_W_back 1 = .ok (.iload_n 1, 1) := by decide +kernel
theorem d_W_back_2 : decode c_W_back 2 = .ok (.invokevirtual 59, 3) := by decide +kernel
theorem d_W_back_5 : decode c_W_back 5 = .ok (.ifCond .ne 7, 3) := by decide +kernel
theorem d_W_back_8 : decode c_W_back 8 = .ok (.ldc2_w 99, 3) := by decide +kernel
theorem d_W_back_11 : decode c_W_back 11 = .ok (.lreturn, 1) := by decide +kernel
theorem d_W_back_12 : decode c_W_back 12 = .ok (.iload_n 2, 1) := by decide +kernel
theorem d_W_back_13 : decode c_W_back 13 = .ok (.invokestatic 101, 3) := by decide +kernel
theorem d_W_back_16 : decode c_W_back 16 = .ok (.ifCond .ne 7, 3) := by decide +kernel
theorem d_W_back_19 : decode c_W_back 19 = .ok (.ldc2_w 104, 3) := by decide +kernel
theorem d_W_back_22 : decode c_W_back 22 = .ok (.lreturn, 1) := by decide +kernel
theorem d_W_back_23 : decode c_W_back 23 = .ok (.aload_n 0, 1) := by decide +kernel
theorem d_W_back_24 : decode c_W_back 24 = .ok (.aload_n 0, 1) := by decide +kernel
theorem d_W_back_25 : decode c_W_back 25 = .ok (.getfield 26, 3) := by decide +kernel
theorem d_W_back_28 : decode c_W_back 28 = .ok (.getfield 86, 3) := by decide +kernel
theorem d_W_back_31 : decode c_W_back 31 = .ok (.iload_n 1, 1) := by decide +kernel
theorem d_W_back_32 : decode c_W_back 32 = .ok (.iaload, 1) := by decide +kernel
theorem d_W_back_33 : decode c_W_back 33 = .ok (.invokevirtual 89, 3) := by decide +kernel
theorem d_W_back_36 : decode c_W_back 36 = .ok (.ifCond .ne 7, 3) := by decide +kernel
theorem d_W_back_39 : decode c_W_back 39 = .ok (.ldc2_w 106, 3) := by decide +kernel
theorem d_W_back_42 : decode c_W_back 42 = .ok (.lreturn, 1) := by decide +kernel
theorem d_W_back_43 : decode c_W_back 43 = .ok (.aload_n 0, 1) := by decide +kernel
theorem d_W_back_44 : decode c_W_back 44 = .ok (.aload_n 0, 1) := by decide +kernel
theorem d_W_back_45 : decode c_W_back 45 = .ok (.getfield 26, 3) := by decide +kernel
theorem d_W_back_48 : decode c_W_back 48 = .ok (.getfield 108, 3) := by decide +kernel
theorem d_W_back_51 : decode c_W_back 51 = .ok (.aload_n 0, 1) := by decide +kernel
theorem d_W_back_52 : decode c_W_back 52 = .ok (.getfield 26, 3) := by decide +kernel
theorem d_W_back_55 : decode c_W_back 55 = .ok (.getfield 86, 3) := by decide +kernel
theorem d_W_back_58 : decode c_W_back 58 = .ok (.iload_n 1, 1) := by decide +kernel
theorem d_W_back_59 : decode c_W_back 59 = .ok (.iaload, 1) := by decide +kernel
theorem d_W_back_60 : decode c_W_back 60 = .ok (.iaload, 1) := by decide +kernel
theorem d_W_back_61 : decode c_W_back 61 = .ok (.invokevirtual 111, 3) := by decide +kernel
theorem d_W_back_64 : decode c_W_back 64 = .ok (.lstore_n 3, 1) := by decide +kernel
theorem d_W_back_65 : decode c_W_back 65 = .ok (.lload_n 3, 1) := by decide +kernel
theorem d_W_back_66 : decode c_W_back 66 = .ok (.aload_n 0, 1) := by decide +kernel
theorem d_W_back_67 : decode c_W_back 67 = .ok (.getfield 44, 3) := by decide +kernel
theorem d_W_back_70 : decode c_W_back 70 = .ok (.iload_n 1, 1) := by decide +kernel
theorem d_W_back_71 : decode c_W_back 71 = .ok (.laload, 1) := by decide +kernel
theorem d_W_back_72 : decode c_W_back 72 = .ok (.iload_n 2, 1) := by decide +kernel
theorem d_W_back_73 : decode c_W_back 73 = .ok (.invokestatic 115, 3) := by decide +kernel
theorem d_W_back_76 : decode c_W_back 76 = .ok (.lreturn, 1) := by decide +kernel
theorem d_W_end_0 : decode c_W_end 0 = .ok (.aload_n 0, 1) := by decide +kernel
theorem d_W_end_1 : decode c_W_end 1 = .ok (.iload_n 1, 1) := by decide +kernel
theorem d_W_end_2 : decode c_W_end 2 = .ok (.invokevirtual 59, 3) := by decide +kernel
theorem d_W_end_5 : decode c_W_end 5 = .ok (.ifCond .eq 11, 3) := by decide +kernel
theorem d_W_end_8 : decode c_W_end 8 = .ok (.aload_n 0, 1) := by decide +kernel
theorem d_W_end_9 : decode c_W_end 9 = .ok (.iload_n 2, 1) := by decide +kernel
theorem d_W_end_10 : decode c_W_end 10 = .ok (.invokevirtual 89, 3) := by decide +kernel
theorem d_W_end_13 : decode c_W_end 13 = .ok (.ifCond .ne 7, 3) := by decide +kernel
theorem d_W_end_16 : decode c_W_end 16 = .ok (.ldc2_w 99, 3) := by decide +kernel
theorem d_W_end_19 : decode c_W_end 19 = .ok (.lreturn, 1) := by decide +kernel
theorem d_W_end_20 : decode c_W_end 20 = .ok (.iload_n 3, 1) := by decide +kernel
theorem d_W_end_21 : decode c_W_end 21 = .ok (.invokestatic 101, 3) := by decide +kernel
theorem d_W_end_24 : decode c_W_end 24 = .ok (.ifCond .ne 7, 3) := by decide +kernel
theorem d_W_end_27 : decode c_W_end 27 = .ok (.ldc2_w 104, 3) := by decide +kernel
theorem d_W_end_30 : decode c_W_end 30 = .ok (.lreturn, 1) := by decide +kernel
theorem d_W_end_31 : decode c_W_end 31 = .ok (.aload_n 0, 1) := by decide +kernel
theorem d_W_end_32 : decode c_W_end 32 = .ok (.iload_n 1, 1) := by decide +kernel
theorem d_W_end_33 : decode c_W_end 33 = .ok (.aload_n 0, 1) := by decide +kernel
theorem d_W_end_34 : decode c_W_end 34 = .ok (.getfield 26, 3) := by decide +kernel
theorem d_W_end_37 : decode c_W_end 37 = .ok (.getfield 108, 3) := by decide +kernel
theorem d_W_end_40 : decode c_W_end 40 = .ok (.iload_n 2, 1) := by decide +kernel
theorem d_W_end_41 : decode c_W_end 41 = .ok (.iaload, 1) := by decide +kernel
theorem d_W_end_42 : decode c_W_end 42 = .ok (.iload_n 3, 1) := by decide +kernel
theorem d_W_end_43 : decode c_W_end 43 = .ok (.invokevirtual 125, 3) := by decide +kernel
theorem d_W_end_46 : decode c_W_end 46 = .ok (.lreturn, 1) := by decide +kernel
theorem d_W_after_0 : decode c_W_after 0 = .ok (.aload_n 0, 1) := by decide +kernel
theorem d_W_after_1 : decode c_W_after 1 = .ok (.iload_n 1, 1) := by decide +kernel
theorem d_W_after_2 : decode c_W_after 2 = .ok (.invokevirtual 59, 3) := by decide +kernel
theorem d_W_after_5 : decode c_W_after 5 = .ok (.ifCond .eq 11, 3) := by decide +kernel
theorem d_W_after_8 : decode c_W_after 8 = .ok (.aload_n 0, 1) := by decide +kernel
theorem d_W_after_9 : decode c_W_after 9 = .ok (.iload_n 2, 1) := by decide +kernel
theorem d_W_after_10 : decode c_W_after 10 = .ok (.invokevirtual 59, 3) := by decide +kernel
theorem d_W_after_13 : decode c_W_after 13 = .ok (.ifCond .ne 7, 3) := by decide +kernel
theorem d_W_after_16 : decode c_W_after 16 = .ok (.ldc2_w 99, 3) := by decide +kernel
theorem d_W_after_19 : decode c_W_after 19 = .ok (.lreturn, 1) := by decide +kernel
theorem d_W_after_20 : decode c_W_after 20 = .ok (.iload_n 3, 1) := by decide +kernel
theorem d_W_after_21 : decode c_W_after 21 = .ok (.ifCond .lt 16, 3) := by decide +kernel
theorem d_W_after_24 : decode c_W_after 24 = .ok (.iload_n 3, 1) := by decide +kernel
theorem d_W_after_25 : decode c_W_after 25 = .ok (.iconst 3, 1) := by decide +kernel
theorem d_W_after_26 : decode c_W_after 26 = .ok (.if_icmp .gt 11, 3) := by decide +kernel
theorem d_W_after_29 : decode c_W_after 29 = .ok (.iload 4, 2) := by decide +kernel
theorem d_W_after_31 : decode c_W_after 31 = .ok (.invokestatic 101, 3) := by decide +kernel
theorem d_W_after_34 : decode c_W_after 34 = .ok (.ifCond .ne 7, 3) := by decide +kernel
theorem d_W_after_37 : decode c_W_after 37 = .ok (.ldc2_w 104, 3) := by decide +kernel
theorem d_W_after_40 : decode c_W_after 40 = .ok (.lreturn, 1) := by decide +kernel
theorem d_W_after_41 : decode c_W_after 41 = .ok (.aload_n 0, 1) := by decide +kernel
theorem d_W_after_42 : decode c_W_after 42 = .ok (.getfield 19, 3) := by decide +kernel
theorem d_W_after_45 : decode c_W_after 45 = .ok (.invokevirtual 148, 3) := by decide +kernel
theorem d_W_after_48 : decode c_W_after 48 = .ok (.lstore 5, 2) := by decide +kernel
theorem d_W_after_50 : decode c_W_after 50 = .ok (.aload_n 0, 1) := by decide +kernel
theorem d_W_after_51 : decode c_W_after 51 = .ok (.getfield 40, 3) := by decide +kernel
theorem d_W_after_54 : decode c_W_after 54 = .ok (.aload_n 0, 1) := by decide +kernel
theorem d_W_after_55 : decode c_W_after 55 = .ok (.getfield 19, 3) := by decide +kernel
theorem d_W_after_58 : decode c_W_after 58 = .ok (.lload 5, 2) := by decide +kernel
theorem d_W_after_60 : decode c_W_after 60 = .ok (.invokevirtual 151, 3) := by decide +kernel
theorem d_W_after_63 : decode c_W_after 63 = .ok (.aload_n 0, 1) := by decide +kernel
theorem d_W_after_64 : decode c_W_after 64 = .ok (.getfield 40, 3) := by decide +kernel
theorem d_W_after_67 : decode c_W_after 67 = .ok (.iload_n 1, 1) := by decide +kernel
theorem d_W_after_68 : decode c_W_after 68 = .ok (.iload_n 3, 1) := by decide +kernel
theorem d_W_after_69 : decode c_W_after 69 = .ok (.invokevirtual 155, 3) := by decide +kernel
theorem d_W_after_72 : decode c_W_after 72 = .ok (.lconst 1, 1) := by decide +kernel
theorem d_W_after_73 : decode c_W_after 73 = .ok (.lstore 7, 2) := by decide +kernel
theorem d_W_after_75 : decode c_W_after 75 = .ok (.iconst 0, 1) := by decide +kernel
theorem d_W_after_76 : decode c_W_after 76 = .ok (.istore 9, 2) := by decide +kernel
theorem d_W_after_78 : decode c_W_after 78 = .ok (.iload 9, 2) := by decide +kernel
theorem d_W_after_80 : decode c_W_after 80 = .ok (.iload_n 3, 1) := by decide +kernel
theorem d_W_after_81 : decode c_W_after 81 = .ok (.if_icmp .ge 16, 3) := by decide +kernel
theorem d_W_after_84 : decode c_W_after 84 = .ok (.lload 7, 2) := by decide +kernel
theorem d_W_after_86 : decode c_W_after 86 = .ok (.lload 5, 2) := by decide +kernel
theorem d_W_after_88 : decode c_W_after 88 = .ok (.lmul, 1) := by decide +kernel
theorem d_W_after_89 : decode c_W_after 89 = .ok (.lstore 7, 2) := by decide +kernel
theorem d_W_after_91 : decode c_W_after 91 = .ok (.iinc 9 1, 3) := by decide +kernel
theorem d_W_after_94 : decode c_W_after 94 = .ok (.goto (-16), 3) := by decide +kernel
theorem d_W_after_97 : decode c_W_after 97 = .ok (.aload_n 0, 1) := by decide +kernel
theorem d_W_after_98 : decode c_W_after 98 = .ok (.getfield 40, 3) := by decide +kernel
theorem d_W_after_101 : decode c_W_after 101 = .ok (.iload_n 2, 1) := by decide +kernel
theorem d_W_after_102 : decode c_W_after 102 = .ok (.invokevirtual 159, 3) := by decide +kernel
theorem d_W_after_105 : decode c_W_after 105 = .ok (.lload 7, 2) := by decide +kernel
theorem d_W_after_107 : decode c_W_after 107 = .ok (.iload 4, 2) := by decide +kernel
theorem d_W_after_109 : decode c_W_after 109 = .ok (.invokestatic 115, 3) := by decide +kernel
theorem d_W_after_112 : decode c_W_after 112 = .ok (.lreturn, 1) := by decide +kernel
theorem d_W_walks_0 : decode c_W_walks 0 = .ok (.aload_n 0, 1) := by decide +kernel
theorem d_W_walks_1 : decode c_W_walks 1 = .ok (.iload_n 1, 1) := by decide +kernel
theorem d_W_walks_2 : decode c_W_walks 2 = .ok (.invokevirtual 59, 3) := by decide +kernel
theorem d_W_walks_5 : decode c_W_walks 5 = .ok (.ifCond .eq 11, 3) := by decide +kernel
theorem d_W_walks_8 : decode c_W_walks 8 = .ok (.aload_n 0, 1) := by decide +kernel
theorem d_W_walks_9 : decode c_W_walks 9 = .ok (.iload_n 2, 1) := by decide +kernel
theorem d_W_walks_10 : decode c_W_walks 10 = .ok (.invokevirtual 59, 3) := by decide +kernel
theorem d_W_walks_13 : decode c_W_walks 13 = .ok (.ifCond .ne 7, 3) := by decide +kernel
theorem d_W_walks_16 : decode c_W_walks 16 = .ok (.ldc2_w 99, 3) := by decide +kernel
theorem d_W_walks_19 : decode c_W_walks 19 = .ok (.lreturn, 1) := by decide +kernel
theorem d_W_walks_20 : decode c_W_walks 20 = .ok (.iload_n 3, 1) := by decide +kernel
theorem d_W_walks_21 : decode c_W_walks 21 = .ok (.ifCond .lt 9, 3) := by decide +kernel
theorem d_W_walks_24 : decode c_W_walks 24 = .ok (.iload_n 3, 1) := by decide +kernel
theorem d_W_walks_25 : decode c_W_walks 25 = .ok (.bipush 12, 2) := by decide +kernel
theorem d_W_walks_27 : decode c_W_walks 27 = .ok (.if_icmp .le 7, 3) := by decide +kernel
theorem d_W_walks_30 : decode c_W_walks 30 = .ok (.ldc2_w 104, 3) := by decide +kernel
theorem d_W_walks_33 : decode c_W_walks 33 = .ok (.lreturn, 1) := by decide +kernel
theorem d_W_walks_34 : decode c_W_walks 34 = .ok (.aload_n 0, 1) := by decide +kernel
theorem d_W_walks_35 : decode c_W_walks 35 = .ok (.getfield 40, 3) := by decide +kernel
theorem d_W_walks_38 : decode c_W_walks 38 = .ok (.aload_n 0, 1) := by decide +kernel
theorem d_W_walks_39 : decode c_W_walks 39 = .ok (.getfield 10, 3) := by decide +kernel
theorem d_W_walks_42 : decode c_W_walks 42 = .ok (.invokevirtual 162, 3) := by decide +kernel
theorem d_W_walks_45 : decode c_W_walks 45 = .ok (.aload_n 0, 1) := by decide +kernel
theorem d_W_walks_46 : decode c_W_walks 46 = .ok (.getfield 40, 3) := by decide +kernel
theorem d_W_walks_49 : decode c_W_walks 49 = .ok (.iload_n 1, 1) := by decide +kernel
theorem d_W_walks_50 : decode c_W_walks 50 = .ok (.iload_n 3, 1) := by decide +kernel
theorem d_W_walks_51 : decode c_W_walks 51 = .ok (.invokevirtual 155, 3) := by decide +kernel
theorem d_W_walks_54 : decode c_W_walks 54 = .ok (.aload_n 0, 1) := by decide +kernel
theorem d_W_walks_55 : decode c_W_walks 55 = .ok (.getfield 40, 3) := by decide +kernel
theorem d_W_walks_58 : decode c_W_walks 58 = .ok (.iload_n 2, 1) := by decide +kernel
theorem d_W_walks_59 : decode c_W_walks 59 = .ok (.invokevirtual 159, 3) := by decide +kernel
theorem d_W_walks_62 : decode c_W_walks 62 = .ok (.lreturn, 1) := by decide +kernel
theorem d_W_drawn_0 : decode c_W_drawn 0 = .ok (.aload_n 0, 1) := by decide +kernel
theorem d_W_drawn_1 : decode c_W_drawn 1 = .ok (.iload_n 1, 1) := by decide +kernel
theorem d_W_drawn_2 : decode c_W_drawn 2 = .ok (.invokevirtual 59, 3) := by decide +kernel
theorem d_W_drawn_5 : decode c_W_drawn 5 = .ok (.ifCond .ne 5, 3) := by decide +kernel
theorem d_W_drawn_8 : decode c_W_drawn 8 = .ok (.iconst (-1), 1) := by decide +kernel
theorem d_W_drawn_9 : decode c_W_drawn 9 = .ok (.ireturn, 1) := by decide +kernel
theorem d_W_drawn_10 : decode c_W_drawn 10 = .ok (.iload_n 3, 1) := by decide +kernel
theorem d_W_drawn_11 : decode c_W_drawn 11 = .ok (.ifCond .lt 10, 3) := by decide +kernel
theorem d_W_drawn_14 : decode c_W_drawn 14 = .ok (.iload_n 3, 1) := by decide +kernel
theorem d_W_drawn_15 : decode c_W_drawn 15 = .ok (.sipush 200, 3) := by decide +kernel
theorem d_W_drawn_18 : decode c_W_drawn 18 = .ok (.if_icmp .le 6, 3) := by decide +kernel
theorem d_W_drawn_21 : decode c_W_drawn 21 = .ok (.bipush (-2), 2) := by decide +kernel
theorem d_W_drawn_23 : decode c_W_drawn 23 = .ok (.ireturn, 1) := by decide +kernel
theorem d_W_drawn_24 : decode c_W_drawn 24 = .ok (.iload_n 1, 1) := by decide +kernel
theorem d_W_drawn_25 : decode c_W_drawn 25 = .ok (.istore 4, 2) := by decide +kernel
theorem d_W_drawn_27 : decode c_W_drawn 27 = .ok (.iload_n 2, 1) := by decide +kernel
theorem d_W_drawn_28 : decode c_W_drawn 28 = .ok (.istore 5, 2) := by decide +kernel
theorem d_W_drawn_30 : decode c_W_drawn 30 = .ok (.iconst 0, 1) := by decide +kernel
theorem d_W_drawn_31 : decode c_W_drawn 31 = .ok (.istore 6, 2) := by decide +kernel
theorem d_W_drawn_33 : decode c_W_drawn 33 = .ok (.iload 6, 2) := by decide +kernel
theorem d_W_drawn_35 : decode c_W_drawn 35 = .ok (.iload_n 3, 1) := by decide +kernel
theorem d_W_drawn_36 : decode c_W_drawn 36 = .ok (.if_icmp .ge 34, 3) := by decide +kernel
theorem d_W_drawn_39 : decode c_W_drawn 39 = .ok (.iload 5, 2) := by decide +kernel
theorem d_W_drawn_41 : decode c_W_drawn 41 = .ok (.ldc 166, 2) := by decide +kernel
theorem d_W_drawn_43 : decode c_W_drawn 43 = .ok (.imul, 1) := by decide +kernel
theorem d_W_drawn_44 : decode c_W_drawn 44 = .ok (.ldc 167, 2) := by decide +kernel
theorem d_W_drawn_46 : decode c_W_drawn 46 = .ok (.iadd, 1) := by decide +kernel
theorem d_W_drawn_47 : decode c_W_drawn 47 = .ok (.istore 5, 2) := by decide +kernel
theorem d_W_drawn_49 : decode c_W_drawn 49 = .ok (.aload_n 0, 1) := by decide +kernel
theorem d_W_drawn_50 : decode c_W_drawn 50 = .ok (.getfield 19, 3) := by decide +kernel
theorem d_W_drawn_53 : decode c_W_drawn 53 = .ok (.iload 4, 2) := by decide +kernel
theorem d_W_drawn_55 : decode c_W_drawn 55 = .ok (.iload 5, 2) := by decide +kernel
theorem d_W_drawn_57 : decode c_W_drawn 57 = .ok (.iconst 1, 1) := by decide +kernel
theorem d_W_drawn_58 : decode c_W_drawn 58 = .ok (.iushr, 1) := by decide +kernel
theorem d_W_drawn_59 : decode c_W_drawn 59 = .ok (.invokevirtual 168, 3) := by decide +kernel
theorem d_W_drawn_62 : decode c_W_drawn 62 = .ok (.istore 4, 2) := by decide +kernel
theorem d_W_drawn_64 : decode c_W_drawn 64 = .ok (.iinc 6 1, 3) := by decide +kernel
theorem d_W_drawn_67 : decode c_W_drawn 67 = .ok (.goto (-34), 3) := by decide +kernel
theorem d_W_drawn_70 : decode c_W_drawn 70 = .ok (.iload 4, 2) := by decide +kernel
theorem d_W_drawn_72 : decode c_W_drawn 72 = .ok (.ireturn, 1) := by decide +kernel
end
section
-- decode rows
theorem d_M_init_0 : decode c_M_init 0 = .ok (.aload_n 0, 1) := by decide +kernel
theorem d_M_init_1 : decode c_M_init 1 = .ok (.invokespecial 1, 3) := by decide +kernel
theorem d_M_init_4 : decode c_M_init 4 = .ok (.aload_n 0, 1) := by decide +kernel
theorem d_M_init_5 : decode c_M_init 5 = .ok (.bipush 25, 2) := by decide +kernel
theorem d_M_init_7 : decode c_M_init 7 = .ok (.newarray .int, 2) := by decide +kernel
theorem d_M_init_9 : decode c_M_init 9 = .ok (.putfield 7, 3) := by decide +kernel
theorem d_M_init_12 : decode c_M_init 12 = .ok (.aload_n 0, 1) := by decide +kernel
theorem d_M_init_13 : decode c_M_init 13 = .ok (.iconst 5, 1) := by decide +kernel
theorem d_M_init_14 : decode c_M_init 14 = .ok (.newarray .int, 2) := by decide +kernel
theorem d_M_init_16 : decode c_M_init 16 = .ok (.putfield 13, 3) := by decide +kernel
theorem d_M_init_19 : decode c_M_init 19 = .ok (.aload_n 0, 1) := by decide +kernel
theorem d_M_init_20 : decode c_M_init 20 = .ok (.iconst 1, 1) := by decide +kernel
theorem d_M_init_21 : decode c_M_init 21 = .ok (.putfield 16, 3) := by decide +kernel
theorem d_M_init_24 : decode c_M_init 24 = .ok (.aload_n 0, 1) := by decide +kernel
theorem d_M_init_25 : decode c_M_init 25 = .ok (.iconst 1, 1) := by decide +kernel
theorem d_M_init_26 : decode c_M_init 26 = .ok (.putfield 20, 3) := by decide +kernel
theorem d_M_init_29 : decode c_M_init 29 = .ok (.aload_n 0, 1) := by decide +kernel
theorem d_M_init_30 : decode c_M_init 30 = .ok (.bipush 25, 2) := by decide +kernel
theorem d_M_init_32 : decode c_M_init 32 = .ok (.newarray .int, 2) := by decide +kernel
theorem d_M_init_34 : decode c_M_init 34 = .ok (.putfield 23, 3) := by decide +kernel
theorem d_M_init_37 : decode c_M_init 37 = .ok (.aload_n 0, 1) := by decide +kernel
theorem d_M_init_38 : decode c_M_init 38 = .ok (.iconst 5, 1) := by decide +kernel
theorem d_M_init_39 : decode c_M_init 39 = .ok (.newarray .int, 2) := by decide +kernel
theorem d_M_init_41 : decode c_M_init 41 = .ok (.putfield 26, 3) := by decide +kernel
theorem d_M_init_44 : decode c_M_init 44 = .ok (.aload_n 0, 1) := by decide +kernel
theorem d_M_init_45 : decode c_M_init 45 = .ok (.iconst 5, 1) := by decide +kernel
theorem d_M_init_46 : decode c_M_init 46 = .ok (.newarray .int, 2) := by decide +kernel
theorem d_M_init_48 : decode c_M_init 48 = .ok (.putfield 29, 3) := by decide +kernel
theorem d_M_init_51 : decode c_M_init 51 = .ok (.aload_n 0, 1) := by decide +kernel
theorem d_M_init_52 : decode c_M_init 52 = .ok (.iconst 5, 1) := by decide +kernel
theorem d_M_init_53 : decode c_M_init 53 = .ok (.newarray .int, 2) := by decide +kernel
theorem d_M_init_55 : decode c_M_init 55 = .ok (.putfield 32, 3) := by decide +kernel
theorem d_M_init_58 : decode c_M_init 58 = .ok (.aload_n 0, 1) := by decide +kernel
theorem d_M_init_59 : decode c_M_init 59 = .ok (.iconst 5, 1) := by decide +kernel
theorem d_M_init_60 : decode c_M_init 60 = .ok (.newarray .int, 2) := by decide +kernel
theorem d_M_init_62 : decode c_M_init 62 = .ok (.putfield 35, 3) := by decide +kernel
theorem d_M_init_65 : decode c_M_init 65 = .ok (.aload_n 0, 1) := by decide +kernel
theorem d_M_init_66 : decode c_M_init 66 = .ok (.iconst 5, 1) := by decide +kernel
theorem d_M_init_67 : decode c_M_init 67 = .ok (.newarray .long, 2) := by decide +kernel
theorem d_M_init_69 : decode c_M_init 69 = .ok (.putfield 38, 3) := by decide +kernel
theorem d_M_init_72 : decode c_M_init 72 = .ok (.aload_n 0, 1) := by decide +kernel
theorem d_M_init_73 : decode c_M_init 73 = .ok (.iconst 5, 1) := by decide +kernel
theorem d_M_init_74 : decode c_M_init 74 = .ok (.newarray .long, 2) := by decide +kernel
theorem d_M_init_76 : decode c_M_init 76 = .ok (.putfield 42, 3) := by decide +kernel
theorem d_M_init_79 : decode c_M_init 79 = .ok (.aload_n 0, 1) := by decide +kernel
theorem d_M_init_80 : decode c_M_init 80 = .ok (.iconst 5, 1) := by decide +kernel
theorem d_M_init_81 : decode c_M_init 81 = .ok (.newarray .long, 2) := by decide +kernel
theorem d_M_init_83 : decode c_M_init 83 = .ok (.putfield 45, 3) := by decide +kernel
theorem d_M_init_86 : decode c_M_init 86 = .ok (.return_, 1) := by decide +kernel
theorem d_M_node_0 : decode c_M_node 0 = .ok (.aload_n 0, 1) := by decide +kernel
theorem d_M_node_1 : decode c_M_node 1 = .ok (.getfield 48, 3) := by decide +kernel
theorem d_M_node_4 : decode c_M_node 4 = .ok (.iconst 5, 1) := by decide +kernel
theorem d_M_node_5 : decode c_M_node 5 = .ok (.if_icmp .ne 6, 3) := by decide +kernel
theorem d_M_node_8 : decode c_M_node 8 = .ok (.bipush (-4), 2) := by decide +kernel
theorem d_M_node_10 : decode c_M_node 10 = .ok (.ireturn, 1) := by decide +kernel
theorem d_M_node_11 : decode c_M_node 11 = .ok (.iconst 0, 1) := by decide +kernel
theorem d_M_node_12 : decode c_M_node 12 = .ok (.istore_n 1, 1) := by decide +kernel
theorem d_M_node_13 : decode c_M_node 13 = .ok (.iload_n 1, 1) := by decide +kernel
theorem d_M_node_14 : decode c_M_node 14 = .ok (.aload_n 0, 1) := by decide +kernel
theorem d_M_node_15 : decode c_M_node 15 = .ok (.getfield 48, 3) := by decide +kernel
theorem d_M_node_18 : decode c_M_node 18 = .ok (.if_icmp .gt 37, 3) := by decide +kernel
theorem d_M_node_21 : decode c_M_node 21 = .ok (.aload_n 0, 1) := by decide +kernel
theorem d_M_node_22 : decode c_M_node 22 = .ok (.getfield 7, 3) := by decide +kernel
theorem d_M_node_25 : decode c_M_node 25 = .ok (.iconst 5, 1) := by decide +kernel
theorem d_M_node_26 : decode c_M_node 26 = .ok (.aload_n 0, 1) := by decide +kernel
theorem d_M_node_27 : decode c_M_node 27 = .ok (.getfield 48, 3) := by decide +kernel
theorem d_M_node_30 : decode c_M_node 30 = .ok (.imul, 1) := by decide +kernel
theorem d_M_node_31 : decode c_M_node 31 = .ok (.iload_n 1, 1) := by decide +kernel
theorem d_M_node_32 : decode c_M_node 32 = .ok (.iadd, 1) := by decide +kernel
theorem d_M_node_33 : decode c_M_node 33 = .ok (.iconst 0, 1) := by decide +kernel
theorem d_M_node_34 : decode c_M_node 34 = .ok (.iastore, 1) := by decide +kernel
theorem d_M_node_35 : decode c_M_node 35 = .ok (.aload_n 0, 1) := by decide +kernel
theorem d_M_node_36 : decode c_M_node 36 = .ok (.getfield 7, 3) := by decide +kernel
theorem d_M_node_39 : decode c_M_node 39 = .ok (.iconst 5, 1) := by decide +kernel
theorem d_M_node_40 : decode c_M_node 40 = .ok (.iload_n 1, 1) := by decide +kernel
theorem d_M_node_41 : decode c_M_node 41 = .ok (.imul, 1) := by decide +kernel
theorem d_M_node_42 : decode c_M_node 42 = .ok (.aload_n 0, 1) := by decide +kernel
theorem d_M_node_43 : decode c_M_node 43 = .ok (.getfield 48, 3) := by decide +kernel
theorem d_M_node_46 : decode c_M_node 46 = .ok (.iadd, 1) := by decide +kernel
theorem d_M_node_47 : decode c_M_node 47 = .ok (.iconst 0, 1) := by decide +kernel
theorem d_M_node_48 : decode c_M_node 48 = .ok (.iastore, 1) := by decide +kernel
theorem d_M_node_49 : decode c_M_node 49 = .ok (.iinc 1 1, 3) := by decide +kernel
theorem d_M_node_52 : decode c_M_node 52 = .ok (.goto (-39), 3) := by decide +kernel
theorem d_M_node_55 : decode c_M_node 55 = .ok (.aload_n 0, 1) := by decide +kernel
theorem d_M_node_56 : decode c_M_node 56 = .ok (.getfield 13, 3) := by decide +kernel
theorem d_M_node_59 : decode c_M_node 59 = .ok (.aload_n 0, 1) := by decide +kernel
theorem d_M_node_60 : decode c_M_node 60 = .ok (.getfield 48, 3) := by decide +kernel
theorem d_M_node_63 : decode c_M_node 63 = .ok (.iconst 1, 1) := by decide +kernel
theorem d_M_node_64 : decode c_M_node 64 = .ok (.iastore, 1) := by decide +kernel
theorem d_M_node_65 : decode c_M_node 65 = .ok (.aload_n 0, 1) := by decide +kernel
theorem d_M_node_66 : decode c_M_node 66 = .ok (.dup, 1) := by decide +kernel
theorem d_M_node_67 : decode c_M_node 67 = .ok (.getfield 48, 3) := by decide +kernel
theorem d_M_node_70 : decode c_M_node 70 = .ok (.iconst 1, 1) := by decide +kernel
theorem d_M_node_71 : decode c_M_node 71 = .ok (.iadd, 1) := by decide +kernel
theorem d_M_node_72 : decode c_M_node 72 = .ok (.putfield 48, 3) := by decide +kernel
theorem d_M_node_75 : decode c_M_node 75 = .ok (.aload_n 0, 1) := by decide +kernel
theorem d_M_node_76 : decode c_M_node 76 = .ok (.getfield 48, 3) := by decide +kernel
theorem d_M_node_79 : decode c_M_node 79 = .ok (.iconst 1, 1) := by decide +kernel
theorem d_M_node_80 : decode c_M_node 80 = .ok (.isub, 1) := by decide +kernel
theorem d_M_node_81 : decode c_M_node 81 = .ok (.ireturn, 1) := by decide +kernel
theorem d_M_weight_0 : decode c_M_weight 0 = .ok (.aload_n 0, 1) := by decide +kernel
theorem d_M_weight_1 : decode c_M_weight 1 = .ok (.iload_n 1, 1) := by decide +kernel
theorem d_M_weight_2 : decode c_M_weight 2 = .ok (.invokevirtual 51, 3) := by decide +kernel
theorem d_M_weight_5 : decode c_M_weight 5 = .ok (.ifCond .eq 11, 3) := by decide +kernel
theorem d_M_weight_8 : decode c_M_weight 8 = .ok (.aload_n 0, 1) := by decide +kernel
theorem d_M_weight_9 : decode c_M_weight 9 = .ok (.iload_n 2, 1) := by decide +kernel
theorem d_M_weight_10 : decode c_M_weight 10 = .ok (.invokevirtual 51, 3) := by decide +kernel
theorem d_M_weight_13 : decode c_M_weight 13 = .ok (.ifCond .ne 5, 3) := by decide +kernel
theorem d_M_weight_16 : decode c_M_weight 16 = .ok (.iconst (-1), 1) := by decide +kernel
theorem d_M_weight_17 : decode c_M_weight 17 = .ok (.ireturn, 1) := by decide +kernel
theorem d_M_weight_18 : decode c_M_weight 18 = .ok (.iload_n 3, 1) := by decide +kernel
theorem d_M_weight_19 : decode c_M_weight 19 = .ok (.ifCond .lt 8, 3) := by decide +kernel
theorem d_M_weight_22 : decode c_M_weight 22 = .ok (.iload_n 3, 1) := by decide +kernel
theorem d_M_weight_23 : decode c_M_weight 23 = .ok (.iconst 2, 1) := by decide +kernel
theorem d_M_weight_24 : decode c_M_weight 24 = .ok (.if_icmp .le 6, 3) := by decide +kernel
theorem d_M_weight_27 : decode c_M_weight 27 = .ok (.bipush (-2), 2) := by decide +kernel
theorem d_M_weight_29 : decode c_M_weight 29 = .ok (.ireturn, 1) := by decide +kernel
theorem d_M_weight_30 : decode c_M_weight 30 = .ok (.aload_n 0, 1) := by decide +kernel
theorem d_M_weight_31 : decode c_M_weight 31 = .ok (.getfield 7, 3) := by decide +kernel
theorem d_M_weight_34 : decode c_M_weight 34 = .ok (.iconst 5, 1) := by decide +kernel
theorem d_M_weight_35 : decode c_M_weight 35 = .ok (.iload_n 1, 1) := by decide +kernel
theorem d_M_weight_36 : decode c_M_weight 36 = .ok (.imul, 1) := by decide +kernel
theorem d_M_weight_37 : decode c_M_weight 37 = .ok (.iload_n 2, 1) := by decide +kernel
theorem d_M_weight_38 : decode c_M_weight 38 = .ok (.iadd, 1) := by decide +kernel
theorem d_M_weight_39 : decode c_M_weight 39 = .ok (.iaload, 1) := by decide +kernel
theorem d_M_weight_40 : decode c_M_weight 40 = .ok (.istore 4, 2) := by decide +kernel
theorem d_M_weight_42 : decode c_M_weight 42 = .ok (.aload_n 0, 1) := by decide +kernel
theorem d_M_weight_43 : decode c_M_weight 43 = .ok (.getfield 7, 3) := by decide +kernel
theorem d_M_weight_46 : decode c_M_weight 46 = .ok (.iconst 5, 1) := by decide +kernel
theorem d_M_weight_47 : decode c_M_weight 47 = .ok (.iload_n 1, 1) := by decide +kernel
theorem d_M_weight_48 : decode c_M_weight 48 = .ok (.imul, 1) := by decide +kernel
theorem d_M_weight_49 : decode c_M_weight 49 = .ok (.iload_n 2, 1) := by decide +kernel
theorem d_M_weight_50 : decode c_M_weight 50 = .ok (.iadd, 1) := by decide +kernel
theorem d_M_weight_51 : decode c_M_weight 51 = .ok (.iload_n 3, 1) := by decide +kernel
theorem d_M_weight_52 : decode c_M_weight 52 = .ok (.iastore, 1) := by decide +kernel
theorem d_M_weight_53 : decode c_M_weight 53 = .ok (.iload 4, 2) := by decide +kernel
theorem d_M_weight_55 : decode c_M_weight 55 = .ok (.ireturn, 1) := by decide +kernel
theorem d_M_isNode_0 : decode c_M_isNode 0 = .ok (.iload_n 1, 1) := by decide +kernel
theorem d_M_isNode_1 : decode c_M_isNode 1 = .ok (.ifCond .lt 15, 3) := by decide +kernel
theorem d_M_isNode_4 : decode c_M_isNode 4 = .ok (.iload_n 1, 1) := by decide +kernel
theorem d_M_isNode_5 : decode c_M_isNode 5 = .ok (.aload_n 0, 1) := by decide +kernel
theorem d_M_isNode_6 : decode c_M_isNode 6 = .ok (.getfield 48, 3) := by decide +kernel
theorem d_M_isNode_9 : decode c_M_isNode 9 = .ok (.if_icmp .ge 7, 3) := by decide +kernel
theorem d_M_isNode_12 : decode c_M_isNode 12 = .ok (.iconst 1, 1) := by decide +kernel
theorem d_M_isNode_13 : decode c_M_isNode 13 = .ok (.goto 4, 3) := by decide +kernel
theorem d_M_isNode_16 : decode c_M_isNode 16 = .ok (.iconst 0, 1) := by decide +kernel
theorem d_M_isNode_17 : decode c_M_isNode 17 = .ok (.ireturn, 1) := by decide +kernel
theorem d_M_jump_0 : decode c_M_jump 0 = .ok (.aload_n 0, 1) := by decide +kernel
theorem d_M_jump_1 : decode c_M_jump 1 = .ok (.iload_n 1, 1) := by decide +kernel
theorem d_M_jump_2 : decode c_M_jump 2 = .ok (.invokevirtual 51, 3) := by decide +kernel
theorem d_M_jump_5 : decode c_M_jump 5 = .ok (.ifCond .ne 5, 3) := by decide +kernel
theorem d_M_jump_8 : decode c_M_jump 8 = .ok (.iconst (-1), 1) := by decide +kernel
theorem d_M_jump_9 : decode c_M_jump 9 = .ok (.ireturn, 1) := by decide +kernel
theorem d_M_jump_10 : decode c_M_jump 10 = .ok (.iload_n 2, 1) := by decide +kernel
theorem d_M_jump_11 : decode c_M_jump 11 = .ok (.ifCond .lt 8, 3) := by decide +kernel
theorem d_M_jump_14 : decode c_M_jump 14 = .ok (.iload_n 2, 1) := by decide +kernel
theorem d_M_jump_15 : decode c_M_jump 15 = .ok (.iconst 2, 1) := by decide +kernel
theorem d_M_jump_16 : decode c_M_jump 16 = .ok (.if_icmp .le 6, 3) := by decide +kernel
theorem d_M_jump_19 : decode c_M_jump 19 = .ok (.bipush (-2), 2) := by decide +kernel
theorem d_M_jump_21 : decode c_M_jump 21 = .ok (.ireturn, 1) := by decide +kernel
theorem d_M_jump_22 : decode c_M_jump 22 = .ok (.aload_n 0, 1) := by decide +kernel
theorem d_M_jump_23 : decode c_M_jump 23 = .ok (.getfield 13, 3) := by decide +kernel
theorem d_M_jump_26 : decode c_M_jump 26 = .ok (.iload_n 1, 1) := by decide +kernel
theorem d_M_jump_27 : decode c_M_jump 27 = .ok (.iaload, 1) := by decide +kernel
theorem d_M_jump_28 : decode c_M_jump 28 = .ok (.istore_n 3, 1) := by decide +kernel
theorem d_M_jump_29 : decode c_M_jump 29 = .ok (.aload_n 0, 1) := by decide +kernel
theorem d_M_jump_30 : decode c_M_jump 30 = .ok (.getfield 13, 3) := by decide +kernel
theorem d_M_jump_33 : decode c_M_jump 33 = .ok (.iload_n 1, 1) := by decide +kernel
theorem d_M_jump_34 : decode c_M_jump 34 = .ok (.iload_n 2, 1) := by decide +kernel
theorem d_M_jump_35 : decode c_M_jump 35 = .ok (.iastore, 1) := by decide +kernel
theorem d_M_jump_36 : decode c_M_jump 36 = .ok (.iload_n 3, 1) := by decide +kernel
theorem d_M_jump_37 : decode c_M_jump 37 = .ok (.ireturn, 1) := by decide +kernel
theorem d_M_keep_0 : decode c_M_keep 0 = .ok (.iload_n 2, 1) := by decide +kernel
theorem d_M_keep_1 : decode c_M_keep 1 = .ok (.iconst 1, 1) := by decide +kernel
theorem d_M_keep_2 : decode c_M_keep 2 = .ok (.if_icmp .lt 17, 3) := by decide +kernel
theorem d_M_keep_5 : decode c_M_keep 5 = .ok (.iload_n 2, 1) := by decide +kernel
theorem d_M_keep_6 : decode c_M_keep 6 = .ok (.iconst 4, 1) := by decide +kernel
theorem d_M_keep_7 : decode c_M_keep 7 = .ok (.if_icmp .gt 12, 3) := by decide +kernel
theorem d_M_keep_10 : decode c_M_keep 10 = .ok (.iload_n 1, 1) := by decide +kernel
theorem d_M_keep_11 : decode c_M_keep 11 = .ok (.ifCond .lt 8, 3) := by decide +kernel
theorem d_M_keep_14 : decode c_M_keep 14 = .ok (.iload_n 1, 1) := by decide +kernel
theorem d_M_keep_15 : decode c_M_keep 15 = .ok (.iload_n 2, 1) := by decide +kernel
theorem d_M_keep_16 : decode c_M_keep 16 = .ok (.if_icmp .le 6, 3) := by decide +kernel
theorem d_M_keep_19 : decode c_M_keep 19 = .ok (.bipush (-2), 2) := by decide +kernel
theorem d_M_keep_21 : decode c_M_keep 21 = .ok (.ireturn, 1) := by decide +kernel
theorem d_M_keep_22 : decode c_M_keep 22 = .ok (.aload_n 0, 1) := by decide +kernel
theorem d_M_keep_23 : decode c_M_keep 23 = .ok (.iload_n 1, 1) := by decide +kernel
theorem d_M_keep_24 : decode c_M_keep 24 = .ok (.putfield 16, 3) := by decide +kernel
theorem d_M_keep_27 : decode c_M_keep 27 = .ok (.aload_n 0, 1) := by decide +kernel
theorem d_M_keep_28 : decode c_M_keep 28 = .ok (.iload_n 2, 1) := by decide +kernel
theorem d_M_keep_29 : decode c_M_keep 29 = .ok (.putfield 20, 3) := by decide +kernel
theorem d_M_keep_32 : decode c_M_keep 32 = .ok (.iconst 1, 1) := by decide +kernel
theorem d_M_keep_33 : decode c_M_keep 33 = .ok (.ireturn, 1) := by decide +kernel
theorem d_M_clear_0 : decode c_M_clear 0 = .ok (.aload_n 0, 1) := by decide +kernel
theorem d_M_clear_1 : decode c_M_clear 1 = .ok (.getfield 48, 3) := by decide +kernel
theorem d_M_clear_4 : decode c_M_clear 4 = .ok (.istore_n 1, 1) := by decide +kernel
theorem d_M_clear_5 : decode c_M_clear 5 = .ok (.aload_n 0, 1) := by decide +kernel
theorem d_M_clear_6 : decode c_M_clear 6 = .ok (.iconst 0, 1) := by decide +kernel
theorem d_M_clear_7 : decode c_M_clear 7 = .ok (.putfield 48, 3) := by decide +kernel
theorem d_M_clear_10 : decode c_M_clear 10 = .ok (.iload_n 1, 1) := by decide +kernel
theorem d_M_clear_11 : decode c_M_clear 11 = .ok (.ireturn, 1) := by decide +kernel
theorem d_M_row_0 : decode c_M_row 0 = .ok (.aload_n 0, 1) := by decide +kernel
theorem d_M_row_1 : decode c_M_row 1 = .ok (.iload_n 1, 1) := by decide +kernel
theorem d_M_row_2 : decode c_M_row 2 = .ok (.invokevirtual 51, 3) := by decide +kernel
theorem d_M_row_5 : decode c_M_row 5 = .ok (.ifCond .eq 11, 3) := by decide +kernel
theorem d_M_row_8 : decode c_M_row 8 = .ok (.aload_n 0, 1) := by decide +kernel
theorem d_M_row_9 : decode c_M_row 9 = .ok (.iload_n 2, 1) := by decide +kernel
theorem d_M_row_10 : decode c_M_row 10 = .ok (.invokevirtual 51, 3) := by decide +kernel
theorem d_M_row_13 : decode c_M_row 13 = .ok (.ifCond .ne 5, 3) := by decide +kernel
theorem d_M_row_16 : decode c_M_row 16 = .ok (.iconst (-1), 1) := by decide +kernel
theorem d_M_row_17 : decode c_M_row 17 = .ok (.ireturn, 1) := by decide +kernel
theorem d_M_row_18 : decode c_M_row 18 = .ok (.aload_n 0, 1) := by decide +kernel
theorem d_M_row_19 : decode c_M_row 19 = .ok (.invokevirtual 59, 3) := by decide +kernel
theorem d_M_row_22 : decode c_M_row 22 = .ok (.aload_n 0, 1) := by decide +kernel
theorem d_M_row_23 : decode c_M_row 23 = .ok (.getfield 23, 3) := by decide +kernel
theorem d_M_row_26 : decode c_M_row 26 = .ok (.iconst 5, 1) := by decide +kernel
theorem d_M_row_27 : decode c_M_row 27 = .ok (.iload_n 1, 1) := by decide +kernel
theorem d_M_row_28 : decode c_M_row 28 = .ok (.imul, 1) := by decide +kernel
theorem d_M_row_29 : decode c_M_row 29 = .ok (.iload_n 2, 1) := by decide +kernel
theorem d_M_row_30 : decode c_M_row 30 = .ok (.iadd, 1) := by decide +kernel
theorem d_M_row_31 : decode c_M_row 31 = .ok (.iaload, 1) := by decide +kernel
theorem d_M_row_32 : decode c_M_row 32 = .ok (.ireturn, 1) := by decide +kernel
theorem d_M_findRows_0 : decode c_M_findRows 0 = .ok (.iconst 0, 1) := by decide +kernel
theorem d_M_findRows_1 : decode c_M_findRows 1 = .ok (.istore_n 1, 1) := by decide +kernel
theorem d_M_findRows_2 : decode c_M_findRows 2 = .ok (.iconst 0, 1) := by decide +kernel
theorem d_M_findRows_3 : decode c_M_findRows 3 = .ok (.istore_n 2, 1) := by decide +kernel
theorem d_M_findRows_4 : decode c_M_findRows 4 = .ok (.iload_n 2, 1) := by decide +kernel
theorem d_M_findRows_5 : decode c_M_findRows 5 = .ok (.aload_n 0, 1) := by decide +kernel
theorem d_M_findRows_6 : decode c_M_findRows 6 = .ok (.getfield 48, 3) := by decide +kernel
theorem d_M_findRows_9 : decode c_M_findRows 9 = .ok (.if_icmp .ge 18, 3) := by decide +kernel
theorem d_M_findRows_12 : decode c_M_findRows 12 = .ok (.iload_n 1, 1) := by decide +kernel
theorem d_M_findRows_13 : decode c_M_findRows 13 = .ok (.aload_n 0, 1) := by decide +kernel
theorem d_M_findRows_14 : decode c_M_findRows 14 = .ok (.getfield 13, 3) := by decide +kernel
theorem d_M_findRows_17 : decode c_M_findRows 17 = .ok (.iload_n 2, 1) := by decide +kernel
theorem d_M_findRows_18 : decode c_M_findRows 18 = .ok (.iaload, 1) := by decide +kernel
theorem d_M_findRows_19 : decode c_M_findRows 19 = .ok (.iadd, 1) := by decide +kernel
theorem d_M_findRows_20 : decode c_M_findRows 20 = .ok (.istore_n 1, 1) := by decide +kernel
theorem d_M_findRows_21 : decode c_M_findRows 21 = .ok (.iinc 2 1, 3) := by decide +kernel
theorem d_M_findRows_24 : decode c_M_findRows 24 = .ok (.goto (-20), 3) := by decide +kernel
theorem d_M_findRows_27 : decode c_M_findRows 27 = .ok (.iconst 0, 1) := by decide +kernel
theorem d_M_findRows_28 : decode c_M_findRows 28 = .ok (.istore_n 2, 1) := by decide +kernel
theorem d_M_findRows_29 : decode c_M_findRows 29 = .ok (.iload_n 2, 1) := by decide +kernel
theorem d_M_findRows_30 : decode c_M_findRows 30 = .ok (.aload_n 0, 1) := by decide +kernel
theorem d_M_findRows_31 : decode c_M_findRows 31 = .ok (.getfield 48, 3) := by decide +kernel
theorem d_M_findRows_34 : decode c_M_findRows 34 = .ok (.if_icmp .ge 238, 3) := by decide +kernel
theorem d_M_findRows_37 : decode c_M_findRows 37 = .ok (.iconst 0, 1) := by decide +kernel
theorem d_M_findRows_38 : decode c_M_findRows 38 = .ok (.istore_n 3, 1) := by decide +kernel
theorem d_M_findRows_39 : decode c_M_findRows 39 = .ok (.iconst 0, 1) := by decide +kernel
theorem d_M_findRows_40 : decode c_M_findRows 40 = .ok (.istore 4, 2) := by decide +kernel
theorem d_M_findRows_42 : decode c_M_findRows 42 = .ok (.iload 4, 2) := by decide +kernel
theorem d_M_findRows_44 : decode c_M_findRows 44 = .ok (.aload_n 0, 1) := by decide +kernel
theorem d_M_findRows_45 : decode c_M_findRows 45 = .ok (.getfield 48, 3) := by decide +kernel
theorem d_M_findRows_48 : decode c_M_findRows 48 = .ok (.if_icmp .ge 23, 3) := by decide +kernel
theorem d_M_findRows_51 : decode c_M_findRows 51 = .ok (.iload_n 3, 1) := by decide +kernel
theorem d_M_findRows_52 : decode c_M_findRows 52 = .ok (.aload_n 0, 1) := by decide +kernel
theorem d_M_findRows_53 : decode c_M_findRows 53 = .ok (.getfield 7, 3) := by decide +kernel
theorem d_M_findRows_56 : decode c_M_findRows 56 = .ok (.iconst 5, 1) := by decide +kernel
theorem d_M_findRows_57 : decode c_M_findRows 57 = .ok (.iload_n 2, 1) := by decide +kernel
theorem d_M_findRows_58 : decode c_M_findRows 58 = .ok (.imul, 1) := by decide +kernel
theorem d_M_findRows_59 : decode c_M_findRows 59 = .ok (.iload 4, 2) := by decide +kernel
theorem d_M_findRows_61 : decode c_M_findRows 61 = .ok (.iadd, 1) := by decide +kernel
theorem d_M_findRows_62 : decode c_M_findRows 62 = .ok (.iaload, 1) := by decide +kernel
theorem d_M_findRows_63 : decode c_M_findRows 63 = .ok (.iadd, 1) := by decide +kernel
theorem d_M_findRows_64 : decode c_M_findRows 64 = .ok (.istore_n 3, 1) := by decide +kernel
theorem d_M_findRows_65 : decode c_M_findRows 65 = .ok (.iinc 4 1, 3) := by decide +kernel
theorem d_M_findRows_68 : decode c_M_findRows 68 = .ok (.goto (-26), 3) := by decide +kernel
theorem d_M_findRows_71 : decode c_M_findRows 71 = .ok (.lconst 0, 1) := by decide +kernel
theorem d_M_findRows_72 : decode c_M_findRows 72 = .ok (.lstore 4, 2) := by decide +kernel
theorem d_M_findRows_74 : decode c_M_findRows 74 = .ok (.iconst 0, 1) := by decide +kernel
theorem d_M_findRows_75 : decode c_M_findRows 75 = .ok (.istore 6, 2) := by decide +kernel
theorem d_M_findRows_77 : decode c_M_findRows 77 = .ok (.iconst 0, 1) := by decide +kernel
theorem d_M_findRows_78 : decode c_M_findRows 78 = .ok (.istore 7, 2) := by decide +kernel
theorem d_M_findRows_80 : decode c_M_findRows 80 = .ok (.iload 7, 2) := by decide +kernel
theorem d_M_findRows_82 : decode c_M_findRows 82 = .ok (.aload_n 0, 1) := by decide +kernel
theorem d_M_findRows_83 : decode c_M_findRows 83 = .ok (.getfield 48, 3) := by decide +kernel
theorem d_M_findRows_86 : decode c_M_findRows 86 = .ok (.if_icmp .ge 133, 3) := by decide +kernel
theorem d_M_findRows_89 : decode c_M_findRows 89 = .ok (.iload_n 3, 1) := by decide +kernel
theorem d_M_findRows_90 : decode c_M_findRows 90 = .ok (.ifCond .le 48, 3) := by decide +kernel
theorem d_M_findRows_93 : decode c_M_findRows 93 = .ok (.iload_n 1, 1) := by decide +kernel
theorem d_M_findRows_94 : decode c_M_findRows 94 = .ok (.ifCond .le 44, 3) := by decide +kernel
theorem d_M_findRows_97 : decode c_M_findRows 97 = .ok (.aload_n 0, 1) := by decide +kernel
theorem d_M_findRows_98 : decode c_M_findRows 98 = .ok (.getfield 16, 3) := by decide +kernel
theorem d_M_findRows_101 : decode c_M_findRows 101 = .ok (.aload_n 0, 1) := by decide +kernel
theorem d_M_findRows_102 : decode c_M_findRows 102 = .ok (.getfield 7, 3) := by decide +kernel
theorem d_M_findRows_105 : decode c_M_findRows 105 = .ok (.iconst 5, 1) := by decide +kernel
theorem d_M_findRows_106 : decode c_M_findRows 106 = .ok (.iload_n 2, 1) := by decide +kernel
theorem d_M_findRows_107 : decode c_M_findRows 107 = .ok (.imul, 1) := by decide +kernel
theorem d_M_findRows_108 : decode c_M_findRows 108 = .ok (.iload 7, 2) := by decide +kernel
theorem d_M_findRows_110 : decode c_M_findRows 110 = .ok (.iadd, 1) := by decide +kernel
theorem d_M_findRows_111 : decode c_M_findRows 111 = .ok (.iaload, 1) := by decide +kernel
theorem d_M_findRows_112 : decode c_M_findRows 112 = .ok (.imul, 1) := by decide +kernel
theorem d_M_findRows_113 : decode c_M_findRows 113 = .ok (.iload_n 1, 1) := by decide +kernel
theorem d_M_findRows_114 : decode c_M_findRows 114 = .ok (.imul, 1) := by decide +kernel
theorem d_M_findRows_115 : decode c_M_findRows 115 = .ok (.aload_n 0, 1) := by decide +kernel
theorem d_M_findRows_116 : decode c_M_findRows 116 = .ok (.getfield 20, 3) := by decide +kernel
theorem d_M_findRows_119 : decode c_M_findRows 119 = .ok (.aload_n 0, 1) := by decide +kernel
theorem d_M_findRows_120 : decode c_M_findRows 120 = .ok (.getfield 16, 3) := by decide +kernel
theorem d_M_findRows_123 : decode c_M_findRows 123 = .ok (.isub, 1) := by decide +kernel
theorem d_M_findRows_124 : decode c_M_findRows 124 = .ok (.aload_n 0, 1) := by decide +kernel
theorem d_M_findRows_125 : decode c_M_findRows 125 = .ok (.getfield 13, 3) := by decide +kernel
theorem d_M_findRows_128 : decode c_M_findRows 128 = .ok (.iload 7, 2) := by decide +kernel
theorem d_M_findRows_130 : decode c_M_findRows 130 = .ok (.iaload, 1) := by decide +kernel
theorem d_M_findRows_131 : decode c_M_findRows 131 = .ok (.imul, 1) := by decide +kernel
theorem d_M_findRows_132 : decode c_M_findRows 132 = .ok (.iload_n 3, 1) := by decide +kernel
theorem d_M_findRows_133 : decode c_M_findRows 133 = .ok (.imul, 1) := by decide +kernel
theorem d_M_findRows_134 : decode c_M_findRows 134 = .ok (.iadd, 1) := by decide +kernel
theorem d_M_findRows_135 : decode c_M_findRows 135 = .ok (.goto 46, 3) := by decide +kernel
theorem d_M_findRows_138 : decode c_M_findRows 138 = .ok (.iload_n 3, 1) := by decide +kernel
theorem d_M_findRows_139 : decode c_M_findRows 139 = .ok (.ifCond .le 17, 3) := by decide +kernel
theorem d_M_findRows_142 : decode c_M_findRows 142 = .ok (.aload_n 0, 1) := by decide +kernel
theorem d_M_findRows_143 : decode c_M_findRows 143 = .ok (.getfield 7, 3) := by decide +kernel
theorem d_M_findRows_146 : decode c_M_findRows 146 = .ok (.iconst 5, 1) := by decide +kernel
theorem d_M_findRows_147 : decode c_M_findRows 147 = .ok (.iload_n 2, 1) := by decide +kernel
theorem d_M_findRows_148 : decode c_M_findRows 148 = .ok (.imul, 1) := by decide +kernel
theorem d_M_findRows_149 : decode c_M_findRows 149 = .ok (.iload 7, 2) := by decide +kernel
theorem d_M_findRows_151 : decode c_M_findRows 151 = .ok (.iadd, 1) := by decide +kernel
theorem d_M_findRows_152 : decode c_M_findRows 152 = .ok (.iaload, 1) := by decide +kernel
theorem d_M_findRows_153 : decode c_M_findRows 153 = .ok (.goto 28, 3) := by decide +kernel
theorem d_M_findRows_156 : decode c_M_findRows 156 = .ok (.iload_n 1, 1) := by decide +kernel
theorem d_M_findRows_157 : decode c_M_findRows 157 = .ok (.ifCond .le 13, 3) := by decide +kernel
theorem d_M_findRows_160 : decode c_M_findRows 160 = .ok (.aload_n 0, 1) := by decide +kernel
theorem d_M_findRows_161 : decode c_M_findRows 161 = .ok (.getfield 13, 3) := by decide +kernel
theorem d_M_findRows_164 : decode c_M_findRows 164 = .ok (.iload 7, 2) := by decide +kernel
theorem d_M_findRows_166 : decode c_M_findRows 166 = .ok (.iaload, 1) := by decide +kernel
theorem d_M_findRows_167 : decode c_M_findRows 167 = .ok (.goto 14, 3) := by decide +kernel
theorem d_M_findRows_170 : decode c_M_findRows 170 = .ok (.iload_n 2, 1) := by decide +kernel
theorem d_M_findRows_171 : decode c_M_findRows 171 = .ok (.iload 7, 2) := by decide +kernel
theorem d_M_findRows_173 : decode c_M_findRows 173 = .ok (.if_icmp .ne 7, 3) := by decide +kernel
theorem d_M_findRows_176 : decode c_M_findRows 176 = .ok (.iconst 1, 1) := by decide +kernel
theorem d_M_findRows_177 : decode c_M_findRows 177 = .ok (.goto 4, 3) := by decide +kernel
theorem d_M_findRows_180 : decode c_M_findRows 180 = .ok (.iconst 0, 1) := by decide +kernel
theorem d_M_findRows_181 : decode c_M_findRows 181 = .ok (.istore 8, 2) := by decide +kernel
theorem d_M_findRows_183 : decode c_M_findRows 183 = .ok (.aload_n 0, 1) := by decide +kernel
theorem d_M_findRows_184 : decode c_M_findRows 184 = .ok (.getfield 23, 3) := by decide +kernel
theorem d_M_findRows_187 : decode c_M_findRows 187 = .ok (.iconst 5, 1) := by decide +kernel
theorem d_M_findRows_188 : decode c_M_findRows 188 = .ok (.iload_n 2, 1) := by decide +kernel
theorem d_M_findRows_189 : decode c_M_findRows 189 = .ok (.imul, 1) := by decide +kernel
theorem d_M_findRows_190 : decode c_M_findRows 190 = .ok (.iload 7, 2) := by decide +kernel
theorem d_M_findRows_192 : decode c_M_findRows 192 = .ok (.iadd, 1) := by decide +kernel
theorem d_M_findRows_193 : decode c_M_findRows 193 = .ok (.iload 8, 2) := by decide +kernel
theorem d_M_findRows_195 : decode c_M_findRows 195 = .ok (.iastore, 1) := by decide +kernel
theorem d_M_findRows_196 : decode c_M_findRows 196 = .ok (.iload 6, 2) := by decide +kernel
theorem d_M_findRows_198 : decode c_M_findRows 198 = .ok (.iload 8, 2) := by decide +kernel
theorem d_M_findRows_200 : decode c_M_findRows 200 = .ok (.iadd, 1) := by decide +kernel
theorem d_M_findRows_201 : decode c_M_findRows 201 = .ok (.istore 6, 2) := by decide +kernel
theorem d_M_findRows_203 : decode c_M_findRows 203 = .ok (.lload 4, 2) := by decide +kernel
theorem d_M_findRows_205 : decode c_M_findRows 205 = .ok (.iload 8, 2) := by decide +kernel
theorem d_M_findRows_207 : decode c_M_findRows 207 = .ok (.i2l, 1) := by decide +kernel
theorem d_M_findRows_208 : decode c_M_findRows 208 = .ok (.invokestatic 55, 3) := by decide +kernel
theorem d_M_findRows_211 : decode c_M_findRows 211 = .ok (.lstore 4, 2) := by decide +kernel
theorem d_M_findRows_213 : decode c_M_findRows 213 = .ok (.iinc 7 1, 3) := by decide +kernel
theorem d_M_findRows_216 : decode c_M_findRows 216 = .ok (.goto (-136), 3) := by decide +kernel
theorem d_M_findRows_219 : decode c_M_findRows 219 = .ok (.iconst 0, 1) := by decide +kernel
theorem d_M_findRows_220 : decode c_M_findRows 220 = .ok (.istore 7, 2) := by decide +kernel
theorem d_M_findRows_222 : decode c_M_findRows 222 = .ok (.iload 7, 2) := by decide +kernel
theorem d_M_findRows_224 : decode c_M_findRows 224 = .ok (.aload_n 0, 1) := by decide +kernel
theorem d_M_findRows_225 : decode c_M_findRows 225 = .ok (.getfield 48, 3) := by decide +kernel
theorem d_M_findRows_228 : decode c_M_findRows 228 = .ok (.if_icmp .ge 26, 3) := by decide +kernel
theorem d_M_findRows_231 : decode c_M_findRows 231 = .ok (.aload_n 0, 1) := by decide +kernel
theorem d_M_findRows_232 : decode c_M_findRows 232 = .ok (.getfield 23, 3) := by decide +kernel
theorem d_M_findRows_235 : decode c_M_findRows 235 = .ok (.iconst 5, 1) := by decide +kernel
theorem d_M_findRows_236 : decode c_M_findRows 236 = .ok (.iload_n 2, 1) := by decide +kernel
theorem d_M_findRows_237 : decode c_M_findRows 237 = .ok (.imul, 1) := by decide +kernel
theorem d_M_findRows_238 : decode c_M_findRows 238 = .ok (.iload 7, 2) := by decide +kernel
theorem d_M_findRows_240 : decode c_M_findRows 240 = .ok (.iadd, 1) := by decide +kernel
theorem d_M_findRows_241 : decode c_M_findRows 241 = .ok (.dup2, 1) := by decide +kernel
theorem d_M_findRows_242 : decode c_M_findRows 242 = .ok (.iaload, 1) := by decide +kernel
theorem d_M_findRows_243 : decode c_M_findRows 243 = .ok (.lload 4, 2) := by decide +kernel
theorem d_M_findRows_245 : decode c_M_findRows 245 = .ok (.l2i, 1) := by decide +kernel
theorem d_M_findRows_246 : decode c_M_findRows 246 = .ok (.idiv, 1) := by decide +kernel
theorem d_M_findRows_247 : decode c_M_findRows 247 = .ok (.iastore, 1) := by decide +kernel
theorem d_M_findRows_248 : decode c_M_findRows 248 = .ok (.iinc 7 1, 3) := by decide +kernel
theorem d_M_findRows_251 : decode c_M_findRows 251 = .ok (.goto (-29), 3) := by decide +kernel
theorem d_M_findRows_254 : decode c_M_findRows 254 = .ok (.aload_n 0, 1) := by decide +kernel
theorem d_M_findRows_255 : decode c_M_findRows 255 = .ok (.getfield 26, 3) := by decide +kernel
theorem d_M_findRows_258 : decode c_M_findRows 258 = .ok (.iload_n 2, 1) := by decide +kernel
theorem d_M_findRows_259 : decode c_M_findRows 259 = .ok (.iload 6, 2) := by decide +kernel
theorem d_M_findRows_261 : decode c_M_findRows 261 = .ok (.lload 4, 2) := by decide +kernel
theorem d_M_findRows_263 : decode c_M_findRows 263 = .ok (.l2i, 1) := by decide +kernel
theorem d_M_findRows_264 : decode c_M_findRows 264 = .ok (.idiv, 1) := by decide +kernel
theorem d_M_findRows_265 : decode c_M_findRows 265 = .ok (.iastore, 1) := by decide +kernel
theorem d_M_findRows_266 : decode c_M_findRows 266 = .ok (.iinc 2 1, 3) := by decide +kernel
theorem d_M_findRows_269 : decode c_M_findRows 269 = .ok (.goto (-240), 3) := by decide +kernel
theorem d_M_findRows_272 : decode c_M_findRows 272 = .ok (.return_, 1) := by decide +kernel
theorem d_M_common_0 : decode c_M_common 0 = .ok (.lload_n 0, 1) := by decide +kernel
theorem d_M_common_1 : decode c_M_common 1 = .ok (.lstore 4, 2) := by decide +kernel
theorem d_M_common_3 : decode c_M_common 3 = .ok (.lload_n 2, 1) := by decide +kernel
theorem d_M_common_4 : decode c_M_common 4 = .ok (.lstore 6, 2) := by decide +kernel
theorem d_M_common_6 : decode c_M_common 6 = .ok (.lload 6, 2) := by decide +kernel
theorem d_M_common_8 : decode c_M_common 8 = .ok (.lconst 0, 1) := by decide +kernel
theorem d_M_common_9 : decode c_M_common 9 = .ok (.lcmp, 1) := by decide +kernel
theorem d_M_common_10 : decode c_M_common 10 = .ok (.ifCond .eq 21, 3) := by decide +kernel
theorem d_M_common_13 : decode c_M_common 13 = .ok (.lload 4, 2) := by decide +kernel
theorem d_M_common_15 : decode c_M_common 15 = .ok (.lload 6, 2) := by decide +kernel
theorem d_M_common_17 : decode c_M_common 17 = .ok (.lrem, 1) := by decide +kernel
theorem d_M_common_18 : decode c_M_common 18 = .ok (.lstore 8, 2) := by decide +kernel
theorem d_M_common_20 : decode c_M_common 20 = .ok (.lload 6, 2) := by decide +kernel
theorem d_M_common_22 : decode c_M_common 22 = .ok (.lstore 4, 2) := by decide +kernel
theorem d_M_common_24 : decode c_M_common 24 = .ok (.lload 8, 2) := by decide +kernel
theorem d_M_common_26 : decode c_M_common 26 = .ok (.lstore 6, 2) := by decide +kernel
theorem d_M_common_28 : decode c_M_common 28 = .ok (.goto (-22), 3) := by decide +kernel
theorem d_M_common_31 : decode c_M_common 31 = .ok (.lload 4, 2) := by decide +kernel
theorem d_M_common_33 : decode c_M_common 33 = .ok (.lreturn, 1) := by decide +kernel
theorem d_M_total_0 : decode c_M_total 0 = .ok (.aload_n 0, 1) := by decide +kernel
theorem d_M_total_1 : decode c_M_total 1 = .ok (.iload_n 1, 1) := by decide +kernel
theorem d_M_total_2 : decode c_M_total 2 = .ok (.invokevirtual 51, 3) := by decide +kernel
theorem d_M_total_5 : decode c_M_total 5 = .ok (.ifCond .ne 5, 3) := by decide +kernel
theorem d_M_total_8 : decode c_M_total 8 = .ok (.iconst (-1), 1) := by decide +kernel
theorem d_M_total_9 : decode c_M_total 9 = .ok (.ireturn, 1) := by decide +kernel
theorem d_M_total_10 : decode c_M_total 10 = .ok (.aload_n 0, 1) := by decide +kernel
theorem d_M_total_11 : decode c_M_total 11 = .ok (.invokevirtual 59, 3) := by decide +kernel
theorem d_M_total_14 : decode c_M_total 14 = .ok (.aload_n 0, 1) := by decide +kernel
theorem d_M_total_15 : decode c_M_total 15 = .ok (.getfield 26, 3) := by decide +kernel
theorem d_M_total_18 : decode c_M_total 18 = .ok (.iload_n 1, 1) := by decide +kernel
theorem d_M_total_19 : decode c_M_total 19 = .ok (.iaload, 1) := by decide +kernel
theorem d_M_total_20 : decode c_M_total 20 = .ok (.ireturn, 1) := by decide +kernel
theorem d_M_closed_0 : decode c_M_closed 0 = .ok (.aload_n 0, 1) := by decide +kernel
theorem d_M_closed_1 : decode c_M_closed 1 = .ok (.invokevirtual 76, 3) := by decide +kernel
theorem d_M_closed_4 : decode c_M_closed 4 = .ok (.aload_n 0, 1) := by decide +kernel
theorem d_M_closed_5 : decode c_M_closed 5 = .ok (.getfield 70, 3) := by decide +kernel
theorem d_M_closed_8 : decode c_M_closed 8 = .ok (.ireturn, 1) := by decide +kernel
theorem d_M_findSets_0 : decode c_M_findSets 0 = .ok (.aload_n 0, 1) := by decide +kernel
theorem d_M_findSets_1 : decode c_M_findSets 1 = .ok (.invokevirtual 59, 3) := by decide +kernel
theorem d_M_findSets_4 : decode c_M_findSets 4 = .ok (.aload_n 0, 1) := by decide +kernel
theorem d_M_findSets_5 : decode c_M_findSets 5 = .ok (.iconst 0, 1) := by decide +kernel
theorem d_M_findSets_6 : decode c_M_findSets 6 = .ok (.putfield 70, 3) := by decide +kernel
theorem d_M_findSets_9 : decode c_M_findSets 9 = .ok (.iconst 0, 1) := by decide +kernel
theorem d_M_findSets_10 : decode c_M_findSets 10 = .ok (.istore_n 1, 1) := by decide +kernel
theorem d_M_findSets_11 : decode c_M_findSets 11 = .ok (.iload_n 1, 1) := by decide +kernel
theorem d_M_findSets_12 : decode c_M_findSets 12 = .ok (.aload_n 0, 1) := by decide +kernel
theorem d_M_findSets_13 : decode c_M_findSets 13 = .ok (.getfield 48, 3) := by decide +kernel
theorem d_M_findSets_16 : decode c_M_findSets 16 = .ok (.if_icmp .ge 107, 3) := by decide +kernel
theorem d_M_findSets_19 : decode c_M_findSets 19 = .ok (.aload_n 0, 1) := by decide +kernel
theorem d_M_findSets_20 : decode c_M_findSets 20 = .ok (.getfield 29, 3) := by decide +kernel
theorem d_M_findSets_23 : decode c_M_findSets 23 = .ok (.iload_n 1, 1) := by decide +kernel
theorem d_M_findSets_24 : decode c_M_findSets 24 = .ok (.bipush (-3), 2) := by decide +kernel
theorem d_M_findSets_26 : decode c_M_findSets 26 = .ok (.iastore, 1) := by decide +kernel
theorem d_M_findSets_27 : decode c_M_findSets 27 = .ok (.aload_n 0, 1) := by decide +kernel
theorem d_M_findSets_28 : decode c_M_findSets 28 = .ok (.iload_n 1, 1) := by decide +kernel
theorem d_M_findSets_29 : decode c_M_findSets 29 = .ok (.invokevirtual 73, 3) := by decide +kernel
theorem d_M_findSets_32 : decode c_M_findSets 32 = .ok (.ifCond .ne 6, 3) := by decide +kernel
theorem d_M_findSets_35 : decode c_M_findSets 35 = .ok (.goto 82, 3) := by decide +kernel
theorem d_M_findSets_38 : decode c_M_findSets 38 = .ok (.aload_n 0, 1) := by decide +kernel
theorem d_M_findSets_39 : decode c_M_findSets 39 = .ok (.iload_n 1, 1) := by decide +kernel
theorem d_M_findSets_40 : decode c_M_findSets 40 = .ok (.iconst (-1), 1) := by decide +kernel
theorem d_M_findSets_41 : decode c_M_findSets 41 = .ok (.invokevirtual 62, 3) := by decide +kernel
theorem d_M_findSets_44 : decode c_M_findSets 44 = .ok (.istore_n 2, 1) := by decide +kernel
theorem d_M_findSets_45 : decode c_M_findSets 45 = .ok (.iload_n 2, 1) := by decide +kernel
theorem d_M_findSets_46 : decode c_M_findSets 46 = .ok (.iconst 1, 1) := by decide +kernel
theorem d_M_findSets_47 : decode c_M_findSets 47 = .ok (.iload_n 1, 1) := by decide +kernel
theorem d_M_findSets_48 : decode c_M_findSets 48 = .ok (.ishl, 1) := by decide +kernel
theorem d_M_findSets_49 : decode c_M_findSets 49 = .ok (.iconst 1, 1) := by decide +kernel
theorem d_M_findSets_50 : decode c_M_findSets 50 = .ok (.isub, 1) := by decide +kernel
theorem d_M_findSets_51 : decode c_M_findSets 51 = .ok (.iand, 1) := by decide +kernel
theorem d_M_findSets_52 : decode c_M_findSets 52 = .ok (.ifCond .ne 23, 3) := by decide +kernel
theorem d_M_findSets_55 : decode c_M_findSets 55 = .ok (.aload_n 0, 1) := by decide +kernel
theorem d_M_findSets_56 : decode c_M_findSets 56 = .ok (.getfield 32, 3) := by decide +kernel
theorem d_M_findSets_59 : decode c_M_findSets 59 = .ok (.aload_n 0, 1) := by decide +kernel
theorem d_M_findSets_60 : decode c_M_findSets 60 = .ok (.getfield 70, 3) := by decide +kernel
theorem d_M_findSets_63 : decode c_M_findSets 63 = .ok (.iload_n 2, 1) := by decide +kernel
theorem d_M_findSets_64 : decode c_M_findSets 64 = .ok (.iastore, 1) := by decide +kernel
theorem d_M_findSets_65 : decode c_M_findSets 65 = .ok (.aload_n 0, 1) := by decide +kernel
theorem d_M_findSets_66 : decode c_M_findSets 66 = .ok (.dup, 1) := by decide +kernel
theorem d_M_findSets_67 : decode c_M_findSets 67 = .ok (.getfield 70, 3) := by decide +kernel
theorem d_M_findSets_70 : decode c_M_findSets 70 = .ok (.iconst 1, 1) := by decide +kernel
theorem d_M_findSets_71 : decode c_M_findSets 71 = .ok (.iadd, 1) := by decide +kernel
theorem d_M_findSets_72 : decode c_M_findSets 72 = .ok (.putfield 70, 3) := by decide +kernel
theorem d_M_findSets_75 : decode c_M_findSets 75 = .ok (.iconst 0, 1) := by decide +kernel
theorem d_M_findSets_76 : decode c_M_findSets 76 = .ok (.istore_n 3, 1) := by decide +kernel
theorem d_M_findSets_77 : decode c_M_findSets 77 = .ok (.iload_n 3, 1) := by decide +kernel
theorem d_M_findSets_78 : decode c_M_findSets 78 = .ok (.aload_n 0, 1) := by decide +kernel
theorem d_M_findSets_79 : decode c_M_findSets 79 = .ok (.getfield 70, 3) := by decide +kernel
theorem d_M_findSets_82 : decode c_M_findSets 82 = .ok (.if_icmp .ge 35, 3) := by decide +kernel
theorem d_M_findSets_85 : decode c_M_findSets 85 = .ok (.aload_n 0, 1) := by decide +kernel
theorem d_M_findSets_86 : decode c_M_findSets 86 = .ok (.getfield 29, 3) := by decide +kernel
theorem d_M_findSets_89 : decode c_M_findSets 89 = .ok (.iload_n 1, 1) := by decide +kernel
theorem d_M_findSets_90 : decode c_M_findSets 90 = .ok (.aload_n 0, 1) := by decide +kernel
theorem d_M_findSets_91 : decode c_M_findSets 91 = .ok (.getfield 32, 3) := by decide +kernel
theorem d_M_findSets_94 : decode c_M_findSets 94 = .ok (.iload_n 3, 1) := by decide +kernel
theorem d_M_findSets_95 : decode c_M_findSets 95 = .ok (.iaload, 1) := by decide +kernel
theorem d_M_findSets_96 : decode c_M_findSets 96 = .ok (.iload_n 2, 1) := by decide +kernel
theorem d_M_findSets_97 : decode c_M_findSets 97 = .ok (.if_icmp .ne 7, 3) := by decide +kernel
theorem d_M_findSets_100 : decode c_M_findSets 100 = .ok (.iload_n 3, 1) := by decide +kernel
theorem d_M_findSets_101 : decode c_M_findSets 101 = .ok (.goto 9, 3) := by decide +kernel
theorem d_M_findSets_104 : decode c_M_findSets 104 = .ok (.aload_n 0, 1) := by decide +kernel
theorem d_M_findSets_105 : decode c_M_findSets 105 = .ok (.getfield 29, 3) := by decide +kernel
theorem d_M_findSets_108 : decode c_M_findSets 108 = .ok (.iload_n 1, 1) := by decide +kernel
theorem d_M_findSets_109 : decode c_M_findSets 109 = .ok (.iaload, 1) := by decide +kernel
theorem d_M_findSets_110 : decode c_M_findSets 110 = .ok (.iastore, 1) := by decide +kernel
theorem d_M_findSets_111 : decode c_M_findSets 111 = .ok (.iinc 3 1, 3) := by decide +kernel
theorem d_M_findSets_114 : decode c_M_findSets 114 = .ok (.goto (-37), 3) := by decide +kernel
theorem d_M_findSets_117 : decode c_M_findSets 117 = .ok (.iinc 1 1, 3) := by decide +kernel
theorem d_M_findSets_120 : decode c_M_findSets 120 = .ok (.goto (-109), 3) := by decide +kernel
theorem d_M_findSets_123 : decode c_M_findSets 123 = .ok (.return_, 1) := by decide +kernel
theorem d_M_isClosed_0 : decode c_M_isClosed 0 = .ok (.aload_n 0, 1) := by decide +kernel
theorem d_M_isClosed_1 : decode c_M_isClosed 1 = .ok (.iload_n 1, 1) := by decide +kernel
theorem d_M_isClosed_2 : decode c_M_isClosed 2 = .ok (.iconst (-1), 1) := by decide +kernel
theorem d_M_isClosed_3 : decode c_M_isClosed 3 = .ok (.invokevirtual 62, 3) := by decide +kernel
theorem d_M_isClosed_6 : decode c_M_isClosed 6 = .ok (.istore_n 2, 1) := by decide +kernel
theorem d_M_isClosed_7 : decode c_M_isClosed 7 = .ok (.iconst 1, 1) := by decide +kernel
theorem d_M_isClosed_8 : decode c_M_isClosed 8 = .ok (.istore_n 3, 1) := by decide +kernel
theorem d_M_isClosed_9 : decode c_M_isClosed 9 = .ok (.iconst 0, 1) := by decide +kernel
theorem d_M_isClosed_10 : decode c_M_isClosed 10 = .ok (.istore 4, 2) := by decide +kernel
theorem d_M_isClosed_12 : decode c_M_isClosed 12 = .ok (.iload 4, 2) := by decide +kernel
theorem d_M_isClosed_14 : decode c_M_isClosed 14 = .ok (.aload_n 0, 1) := by decide +kernel
theorem d_M_isClosed_15 : decode c_M_isClosed 15 = .ok (.getfield 48, 3) := by decide +kernel
theorem d_M_isClosed_18 : decode c_M_isClosed 18 = .ok (.if_icmp .ge 38, 3) := by decide +kernel
theorem d_M_isClosed_21 : decode c_M_isClosed 21 = .ok (.iload_n 3, 1) := by decide +kernel
theorem d_M_isClosed_22 : decode c_M_isClosed 22 = .ok (.ifCond .eq 26, 3) := by decide +kernel
theorem d_M_isClosed_25 : decode c_M_isClosed 25 = .ok (.iload_n 2, 1) := by decide +kernel
theorem d_M_isClosed_26 : decode c_M_isClosed 26 = .ok (.iload 4, 2) := by decide +kernel
theorem d_M_isClosed_28 : decode c_M_isClosed 28 = .ok (.ishr, 1) := by decide +kernel
theorem d_M_isClosed_29 : decode c_M_isClosed 29 = .ok (.iconst 1, 1) := by decide +kernel
theorem d_M_isClosed_30 : decode c_M_isClosed 30 = .ok (.iand, 1) := by decide +kernel
theorem d_M_isClosed_31 : decode c_M_isClosed 31 = .ok (.ifCond .eq 13, 3) := by decide +kernel
theorem d_M_isClosed_34 : decode c_M_isClosed 34 = .ok (.aload_n 0, 1) := by decide +kernel
theorem d_M_isClosed_35 : decode c_M_isClosed 35 = .ok (.iload 4, 2) := by decide +kernel
theorem d_M_isClosed_37 : decode c_M_isClosed 37 = .ok (.iload_n 1, 1) := by decide +kernel
theorem d_M_isClosed_38 : decode c_M_isClosed 38 = .ok (.invokevirtual 66, 3) := by decide +kernel
theorem d_M_isClosed_41 : decode c_M_isClosed 41 = .ok (.ifCond .eq 7, 3) := by decide +kernel
theorem d_M_isClosed_44 : decode c_M_isClosed 44 = .ok (.iconst 1, 1) := by decide +kernel
theorem d_M_isClosed_45 : decode c_M_isClosed 45 = .ok (.goto 4, 3) := by decide +kernel
theorem d_M_isClosed_48 : decode c_M_isClosed 48 = .ok (.iconst 0, 1) := by decide +kernel
theorem d_M_isClosed_49 : decode c_M_isClosed 49 = .ok (.istore_n 3, 1) := by decide +kernel
theorem d_M_isClosed_50 : decode c_M_isClosed 50 = .ok (.iinc 4 1, 3) := by decide +kernel
theorem d_M_isClosed_53 : decode c_M_isClosed 53 = .ok (.goto (-41), 3) := by decide +kernel
theorem d_M_isClosed_56 : decode c_M_isClosed 56 = .ok (.iload_n 3, 1) := by decide +kernel
theorem d_M_isClosed_57 : decode c_M_isClosed 57 = .ok (.ireturn, 1) := by decide +kernel
theorem d_M_reached_0 : decode c_M_reached 0 = .ok (.iconst 1, 1) := by decide +kernel
theorem d_M_reached_1 : decode c_M_reached 1 = .ok (.iload_n 1, 1) := by decide +kernel
theorem d_M_reached_2 : decode c_M_reached 2 = .ok (.ishl, 1) := by decide +kernel
theorem d_M_reached_3 : decode c_M_reached 3 = .ok (.istore_n 3, 1) := by decide +kernel
theorem d_M_reached_4 : decode c_M_reached 4 = .ok (.iconst 0, 1) := by decide +kernel
theorem d_M_reached_5 : decode c_M_reached 5 = .ok (.istore 4, 2) := by decide +kernel
theorem d_M_reached_7 : decode c_M_reached 7 = .ok (.iload 4, 2) := by decide +kernel
theorem d_M_reached_9 : decode c_M_reached 9 = .ok (.iconst 5, 1) := by decide +kernel
theorem d_M_reached_10 : decode c_M_reached 10 = .ok (.if_icmp .ge 87, 3) := by decide +kernel
theorem d_M_reached_13 : decode c_M_reached 13 = .ok (.iconst 0, 1) := by decide +kernel
theorem d_M_reached_14 : decode c_M_reached 14 = .ok (.istore 5, 2) := by decide +kernel
theorem d_M_reached_16 : decode c_M_reached 16 = .ok (.iload 5, 2) := by decide +kernel
theorem d_M_reached_18 : decode c_M_reached 18 = .ok (.aload_n 0, 1) := by decide +kernel
theorem d_M_reached_19 : decode c_M_reached 19 = .ok (.getfield 48, 3) := by decide +kernel
theorem d_M_reached_22 : decode c_M_reached 22 = .ok (.if_icmp .ge 69, 3) := by decide +kernel
theorem d_M_reached_25 : decode c_M_reached 25 = .ok (.iconst 0, 1) := by decide +kernel
theorem d_M_reached_26 : decode c_M_reached 26 = .ok (.istore 6, 2) := by decide +kernel
theorem d_M_reached_28 : decode c_M_reached 28 = .ok (.iload 6, 2) := by decide +kernel
theorem d_M_reached_30 : decode c_M_reached 30 = .ok (.aload_n 0, 1) := by decide +kernel
theorem d_M_reached_31 : decode c_M_reached 31 = .ok (.getfield 48, 3) := by decide +kernel
theorem d_M_reached_34 : decode c_M_reached 34 = .ok (.if_icmp .ge 51, 3) := by decide +kernel
theorem d_M_reached_37 : decode c_M_reached 37 = .ok (.iload_n 3, 1) := by decide +kernel
theorem d_M_reached_38 : decode c_M_reached 38 = .ok (.iload_n 3, 1) := by decide +kernel
theorem d_M_reached_39 : decode c_M_reached 39 = .ok (.iload 5, 2) := by decide +kernel
theorem d_M_reached_41 : decode c_M_reached 41 = .ok (.ishr, 1) := by decide +kernel
theorem d_M_reached_42 : decode c_M_reached 42 = .ok (.iconst 1, 1) := by decide +kernel
theorem d_M_reached_43 : decode c_M_reached 43 = .ok (.iand, 1) := by decide +kernel
theorem d_M_reached_44 : decode c_M_reached 44 = .ok (.iconst 1, 1) := by decide +kernel
theorem d_M_reached_45 : decode c_M_reached 45 = .ok (.if_icmp .ne 31, 3) := by decide +kernel
theorem d_M_reached_48 : decode c_M_reached 48 = .ok (.iload 5, 2) := by decide +kernel
theorem d_M_reached_50 : decode c_M_reached 50 = .ok (.iload_n 2, 1) := by decide +kernel
theorem d_M_reached_51 : decode c_M_reached 51 = .ok (.if_icmp .eq 25, 3) := by decide +kernel
theorem d_M_reached_54 : decode c_M_reached 54 = .ok (.aload_n 0, 1) := by decide +kernel
theorem d_M_reached_55 : decode c_M_reached 55 = .ok (.getfield 23, 3) := by decide +kernel
theorem d_M_reached_58 : decode c_M_reached 58 = .ok (.iconst 5, 1) := by decide +kernel
theorem d_M_reached_59 : decode c_M_reached 59 = .ok (.iload 5, 2) := by decide +kernel
theorem d_M_reached_61 : decode c_M_reached 61 = .ok (.imul, 1) := by decide +kernel
theorem d_M_reached_62 : decode c_M_reached 62 = .ok (.iload 6, 2) := by decide +kernel
theorem d_M_reached_64 : decode c_M_reached 64 = .ok (.iadd, 1) := by decide +kernel
theorem d_M_reached_65 : decode c_M_reached 65 = .ok (.iaload, 1) := by decide +kernel
theorem d_M_reached_66 : decode c_M_reached 66 = .ok (.ifCond .le 10, 3) := by decide +kernel
theorem d_M_reached_69 : decode c_M_reached 69 = .ok (.iconst 1, 1) := by decide +kernel
theorem d_M_reached_70 : decode c_M_reached 70 = .ok (.iload 6, 2) := by decide +kernel
theorem d_M_reached_72 : decode c_M_reached 72 = .ok (.ishl, 1) := by decide +kernel
theorem d_M_reached_73 : decode c_M_reached 73 = .ok (.goto 4, 3) := by decide +kernel
theorem d_M_reached_76 : decode c_M_reached 76 = .ok (.iconst 0, 1) := by decide +kernel
theorem d_M_reached_77 : decode c_M_reached 77 = .ok (.ior, 1) := by decide +kernel
theorem d_M_reached_78 : decode c_M_reached 78 = .ok (.istore_n 3, 1) := by decide +kernel
theorem d_M_reached_79 : decode c_M_reached 79 = .ok (.iinc 6 1, 3) := by decide +kernel
theorem d_M_reached_82 : decode c_M_reached 82 = .ok (.goto (-54), 3) := by decide +kernel
theorem d_M_reached_85 : decode c_M_reached 85 = .ok (.iinc 5 1, 3) := by decide +kernel
theorem d_M_reached_88 : decode c_M_reached 88 = .ok (.goto (-72), 3) := by decide +kernel
theorem d_M_reached_91 : decode c_M_reached 91 = .ok (.iinc 4 1, 3) := by decide +kernel
theorem d_M_reached_94 : decode c_M_reached 94 = .ok (.goto (-87), 3) := by decide +kernel
theorem d_M_reached_97 : decode c_M_reached 97 = .ok (.iload_n 3, 1) := by decide +kernel
theorem d_M_reached_98 : decode c_M_reached 98 = .ok (.ireturn, 1) := by decide +kernel
theorem d_M_leads_0 : decode c_M_leads 0 = .ok (.aload_n 0, 1) := by decide +kernel
theorem d_M_leads_1 : decode c_M_leads 1 = .ok (.iload_n 1, 1) := by decide +kernel
theorem d_M_leads_2 : decode c_M_leads 2 = .ok (.iconst (-1), 1) := by decide +kernel
theorem d_M_leads_3 : decode c_M_leads 3 = .ok (.invokevirtual 62, 3) := by decide +kernel
theorem d_M_leads_6 : decode c_M_leads 6 = .ok (.iload_n 2, 1) := by decide +kernel
theorem d_M_leads_7 : decode c_M_leads 7 = .ok (.ishr, 1) := by decide +kernel
theorem d_M_leads_8 : decode c_M_leads 8 = .ok (.iconst 1, 1) := by decide +kernel
theorem d_M_leads_9 : decode c_M_leads 9 = .ok (.iand, 1) := by decide +kernel
theorem d_M_leads_10 : decode c_M_leads 10 = .ok (.iconst 1, 1) := by decide +kernel
theorem d_M_leads_11 : decode c_M_leads 11 = .ok (.if_icmp .ne 7, 3) := by decide +kernel
theorem d_M_leads_14 : decode c_M_leads 14 = .ok (.iconst 1, 1) := by decide +kernel
theorem d_M_leads_15 : decode c_M_leads 15 = .ok (.goto 4, 3) := by decide +kernel
theorem d_M_leads_18 : decode c_M_leads 18 = .ok (.iconst 0, 1) := by decide +kernel
theorem d_M_leads_19 : decode c_M_leads 19 = .ok (.ireturn, 1) := by decide +kernel
theorem d_M_closedOf_0 : decode c_M_closedOf 0 = .ok (.aload_n 0, 1) := by decide +kernel
theorem d_M_closedOf_1 : decode c_M_closedOf 1 = .ok (.iload_n 1, 1) := by decide +kernel
theorem d_M_closedOf_2 : decode c_M_closedOf 2 = .ok (.invokevirtual 51, 3) := by decide +kernel
theorem d_M_closedOf_5 : decode c_M_closedOf 5 = .ok (.ifCond .ne 5, 3) := by decide +kernel
theorem d_M_closedOf_8 : decode c_M_closedOf 8 = .ok (.iconst (-1), 1) := by decide +kernel
theorem d_M_closedOf_9 : decode c_M_closedOf 9 = .ok (.ireturn, 1) := by decide +kernel
theorem d_M_closedOf_10 : decode c_M_closedOf 10 = .ok (.aload_n 0, 1) := by decide +kernel
theorem d_M_closedOf_11 : decode c_M_closedOf 11 = .ok (.invokevirtual 76, 3) := by decide +kernel
theorem d_M_closedOf_14 : decode c_M_closedOf 14 = .ok (.aload_n 0, 1) := by decide +kernel
theorem d_M_closedOf_15 : decode c_M_closedOf 15 = .ok (.getfield 29, 3) := by decide +kernel
theorem d_M_closedOf_18 : decode c_M_closedOf 18 = .ok (.iload_n 1, 1) := by decide +kernel
theorem d_M_closedOf_19 : decode c_M_closedOf 19 = .ok (.iaload, 1) := by decide +kernel
theorem d_M_closedOf_20 : decode c_M_closedOf 20 = .ok (.ireturn, 1) := by decide +kernel
theorem d_M_period_0 : decode c_M_period 0 = .ok (.aload_n 0, 1) := by decide +kernel
theorem d_M_period_1 : decode c_M_period 1 = .ok (.invokevirtual 76, 3) := by decide +kernel
theorem d_M_period_4 : decode c_M_period 4 = .ok (.iload_n 1, 1) := by decide +kernel
theorem d_M_period_5 : decode c_M_period 5 = .ok (.ifCond .lt 11, 3) := by decide +kernel
theorem d_M_period_8 : decode c_M_period 8 = .ok (.iload_n 1, 1) := by decide +kernel
theorem d_M_period_9 : decode c_M_period 9 = .ok (.aload_n 0, 1) := by decide +kernel
theorem d_M_period_10 : decode c_M_period 10 = .ok (.getfield 70, 3) := by decide +kernel
theorem d_M_period_13 : decode c_M_period 13 = .ok (.if_icmp .lt 5, 3) := by decide +kernel
theorem d_M_period_16 : decode c_M_period 16 = .ok (.iconst (-1), 1) := by decide +kernel
theorem d_M_period_17 : decode c_M_period 17 = .ok (.ireturn, 1) := by decide +kernel
theorem d_M_period_18 : decode c_M_period 18 = .ok (.iconst 0, 1) := by decide +kernel
theorem d_M_period_19 : decode c_M_period 19 = .ok (.istore_n 2, 1) := by decide +kernel
theorem d_M_period_20 : decode c_M_period 20 = .ok (.aload_n 0, 1) := by decide +kernel
theorem d_M_period_21 : decode c_M_period 21 = .ok (.getfield 29, 3) := by decide +kernel
theorem d_M_period_24 : decode c_M_period 24 = .ok (.iload_n 2, 1) := by decide +kernel
theorem d_M_period_25 : decode c_M_period 25 = .ok (.iaload, 1) := by decide +kernel
theorem d_M_period_26 : decode c_M_period 26 = .ok (.iload_n 1, 1) := by decide +kernel
theorem d_M_period_27 : decode c_M_period 27 = .ok (.if_icmp .eq 9, 3) := by decide +kernel
theorem d_M_period_30 : decode c_M_period 30 = .ok (.iinc 2 1, 3) := by decide +kernel
theorem d_M_period_33 : decode c_M_period 33 = .ok (.goto (-13), 3) := by decide +kernel
theorem d_M_period_36 : decode c_M_period 36 = .ok (.iconst 1, 1) := by decide +kernel
theorem d_M_period_37 : decode c_M_period 37 = .ok (.iload_n 2, 1) := by decide +kernel
theorem d_M_period_38 : decode c_M_period 38 = .ok (.ishl, 1) := by decide +kernel
theorem d_M_period_39 : decode c_M_period 39 = .ok (.istore_n 3, 1) := by decide +kernel
theorem d_M_period_40 : decode c_M_period 40 = .ok (.lconst 0, 1) := by decide +kernel
theorem d_M_period_41 : decode c_M_period 41 = .ok (.lstore 4, 2) := by decide +kernel
theorem d_M_period_43 : decode c_M_period 43 = .ok (.iconst 1, 1) := by decide +kernel
theorem d_M_period_44 : decode c_M_period 44 = .ok (.istore 6, 2) := by decide +kernel
theorem d_M_period_46 : decode c_M_period 46 = .ok (.iload 6, 2) := by decide +kernel
theorem d_M_period_48 : decode c_M_period 48 = .ok (.bipush 60, 2) := by decide +kernel
theorem d_M_period_50 : decode c_M_period 50 = .ok (.if_icmp .gt 113, 3) := by decide +kernel
theorem d_M_period_53 : decode c_M_period 53 = .ok (.iconst 0, 1) := by decide +kernel
theorem d_M_period_54 : decode c_M_period 54 = .ok (.istore 7, 2) := by decide +kernel
theorem d_M_period_56 : decode c_M_period 56 = .ok (.iconst 0, 1) := by decide +kernel
theorem d_M_period_57 : decode c_M_period 57 = .ok (.istore 8, 2) := by decide +kernel
theorem d_M_period_59 : decode c_M_period 59 = .ok (.iload 8, 2) := by decide +kernel
theorem d_M_period_61 : decode c_M_period 61 = .ok (.aload_n 0, 1) := by decide +kernel
theorem d_M_period_62 : decode c_M_period 62 = .ok (.getfield 48, 3) := by decide +kernel
theorem d_M_period_65 : decode c_M_period 65 = .ok (.if_icmp .ge 65, 3) := by decide +kernel
theorem d_M_period_68 : decode c_M_period 68 = .ok (.iconst 0, 1) := by decide +kernel
theorem d_M_period_69 : decode c_M_period 69 = .ok (.istore 9, 2) := by decide +kernel
theorem d_M_period_71 : decode c_M_period 71 = .ok (.iload 9, 2) := by decide +kernel
theorem d_M_period_73 : decode c_M_period 73 = .ok (.aload_n 0, 1) := by decide +kernel
theorem d_M_period_74 : decode c_M_period 74 = .ok (.getfield 48, 3) := by decide +kernel
theorem d_M_period_77 : decode c_M_period 77 = .ok (.if_icmp .ge 47, 3) := by decide +kernel
theorem d_M_period_80 : decode c_M_period 80 = .ok (.iload 7, 2) := by decide +kernel
theorem d_M_period_82 : decode c_M_period 82 = .ok (.iload_n 3, 1) := by decide +kernel
theorem d_M_period_83 : decode c_M_period 83 = .ok (.iload 8, 2) := by decide +kernel
theorem d_M_period_85 : decode c_M_period 85 = .ok (.ishr, 1) := by decide +kernel
theorem d_M_period_86 : decode c_M_period 86 = .ok (.iconst 1, 1) := by decide +kernel
theorem d_M_period_87 : decode c_M_period 87 = .ok (.iand, 1) := by decide +kernel
theorem d_M_period_88 : decode c_M_period 88 = .ok (.iconst 1, 1) := by decide +kernel
theorem d_M_period_89 : decode c_M_period 89 = .ok (.if_icmp .ne 25, 3) := by decide +kernel
theorem d_M_period_92 : decode c_M_period 92 = .ok (.aload_n 0, 1) := by decide +kernel
theorem d_M_period_93 : decode c_M_period 93 = .ok (.getfield 23, 3) := by decide +kernel
theorem d_M_period_96 : decode c_M_period 96 = .ok (.iconst 5, 1) := by decide +kernel
theorem d_M_period_97 : decode c_M_period 97 = .ok (.iload 8, 2) := by decide +kernel
theorem d_M_period_99 : decode c_M_period 99 = .ok (.imul, 1) := by decide +kernel
theorem d_M_period_100 : decode c_M_period 100 = .ok (.iload 9, 2) := by decide +kernel
theorem d_M_period_102 : decode c_M_period 102 = .ok (.iadd, 1) := by decide +kernel
theorem d_M_period_103 : decode c_M_period 103 = .ok (.iaload, 1) := by decide +kernel
theorem d_M_period_104 : decode c_M_period 104 = .ok (.ifCond .le 10, 3) := by decide +kernel
theorem d_M_period_107 : decode c_M_period 107 = .ok (.iconst 1, 1) := by decide +kernel
theorem d_M_period_108 : decode c_M_period 108 = .ok (.iload 9, 2) := by decide +kernel
theorem d_M_period_110 : decode c_M_period 110 = .ok (.ishl, 1) := by decide +kernel
theorem d_M_period_111 : decode c_M_period 111 = .ok (.goto 4, 3) := by decide +kernel
theorem d_M_period_114 : decode c_M_period 114 = .ok (.iconst 0, 1) := by decide +kernel
theorem d_M_period_115 : decode c_M_period 115 = .ok (.ior, 1) := by decide +kernel
theorem d_M_period_116 : decode c_M_period 116 = .ok (.istore 7, 2) := by decide +kernel
theorem d_M_period_118 : decode c_M_period 118 = .ok (.iinc 9 1, 3) := by decide +kernel
theorem d_M_period_121 : decode c_M_period 121 = .ok (.goto (-50), 3) := by decide +kernel
theorem d_M_period_124 : decode c_M_period 124 = .ok (.iinc 8 1, 3) := by decide +kernel
theorem d_M_period_127 : decode c_M_period 127 = .ok (.goto (-68), 3) := by decide +kernel
theorem d_M_period_130 : decode c_M_period 130 = .ok (.iload 7, 2) := by decide +kernel
theorem d_M_period_132 : decode c_M_period 132 = .ok (.istore_n 3, 1) := by decide +kernel
theorem d_M_period_133 : decode c_M_period 133 = .ok (.iload_n 3, 1) := by decide +kernel
theorem d_M_period_134 : decode c_M_period 134 = .ok (.iload_n 2, 1) := by decide +kernel
theorem d_M_period_135 : decode c_M_period 135 = .ok (.ishr, 1) := by decide +kernel
theorem d_M_period_136 : decode c_M_period 136 = .ok (.iconst 1, 1) := by decide +kernel
theorem d_M_period_137 : decode c_M_period 137 = .ok (.iand, 1) := by decide +kernel
theorem d_M_period_138 : decode c_M_period 138 = .ok (.iconst 1, 1) := by decide +kernel
theorem d_M_period_139 : decode c_M_period 139 = .ok (.if_icmp .ne 14, 3) := by decide +kernel
theorem d_M_period_142 : decode c_M_period 142 = .ok (.lload 4, 2) := by decide +kernel
theorem d_M_period_144 : decode c_M_period 144 = .ok (.iload 6, 2) := by decide +kernel
theorem d_M_period_146 : decode c_M_period 146 = .ok (.i2l, 1) := by decide +kernel
theorem d_M_period_147 : decode c_M_period 147 = .ok (.invokestatic 55, 3) := by decide +kernel
theorem d_M_period_150 : decode c_M_period 150 = .ok (.goto 5, 3) := by decide +kernel
theorem d_M_period_153 : decode c_M_period 153 = .ok (.lload 4, 2) := by decide +kernel
theorem d_M_period_155 : decode c_M_period 155 = .ok (.lstore 4, 2) := by decide +kernel
theorem d_M_period_157 : decode c_M_period 157 = .ok (.iinc 6 1, 3) := by decide +kernel
theorem d_M_period_160 : decode c_M_period 160 = .ok (.goto (-114), 3) := by decide +kernel
theorem d_M_period_163 : decode c_M_period 163 = .ok (.lload 4, 2) := by decide +kernel
theorem d_M_period_165 : decode c_M_period 165 = .ok (.l2i, 1) := by decide +kernel
theorem d_M_period_166 : decode c_M_period 166 = .ok (.ireturn, 1) := by decide +kernel
theorem d_M_rank_0 : decode c_M_rank 0 = .ok (.aload_n 0, 1) := by decide +kernel
theorem d_M_rank_1 : decode c_M_rank 1 = .ok (.iload_n 1, 1) := by decide +kernel
theorem d_M_rank_2 : decode c_M_rank 2 = .ok (.invokevirtual 51, 3) := by decide +kernel
theorem d_M_rank_5 : decode c_M_rank 5 = .ok (.ifCond .ne 7, 3) := by decide +kernel
theorem d_M_rank_8 : decode c_M_rank 8 = .ok (.ldc2_w 96, 3) := by decide +kernel
theorem d_M_rank_11 : decode c_M_rank 11 = .ok (.lreturn, 1) := by decide +kernel
theorem d_M_rank_12 : decode c_M_rank 12 = .ok (.iload_n 2, 1) := by decide +kernel
theorem d_M_rank_13 : decode c_M_rank 13 = .ok (.invokestatic 98, 3) := by decide +kernel
theorem d_M_rank_16 : decode c_M_rank 16 = .ok (.ifCond .ne 7, 3) := by decide +kernel
theorem d_M_rank_19 : decode c_M_rank 19 = .ok (.ldc2_w 101, 3) := by decide +kernel
theorem d_M_rank_22 : decode c_M_rank 22 = .ok (.lreturn, 1) := by decide +kernel
theorem d_M_rank_23 : decode c_M_rank 23 = .ok (.aload_n 0, 1) := by decide +kernel
theorem d_M_rank_24 : decode c_M_rank 24 = .ok (.invokevirtual 76, 3) := by decide +kernel
theorem d_M_rank_27 : decode c_M_rank 27 = .ok (.aload_n 0, 1) := by decide +kernel
theorem d_M_rank_28 : decode c_M_rank 28 = .ok (.getfield 70, 3) := by decide +kernel
theorem d_M_rank_31 : decode c_M_rank 31 = .ok (.iconst 1, 1) := by decide +kernel
theorem d_M_rank_32 : decode c_M_rank 32 = .ok (.if_icmp .eq 7, 3) := by decide +kernel
theorem d_M_rank_35 : decode c_M_rank 35 = .ok (.ldc2_w 103, 3) := by decide +kernel
theorem d_M_rank_38 : decode c_M_rank 38 = .ok (.lreturn, 1) := by decide +kernel
theorem d_M_rank_39 : decode c_M_rank 39 = .ok (.aload_n 0, 1) := by decide +kernel
theorem d_M_rank_40 : decode c_M_rank 40 = .ok (.aload_n 0, 1) := by decide +kernel
theorem d_M_rank_41 : decode c_M_rank 41 = .ok (.getfield 32, 3) := by decide +kernel
theorem d_M_rank_44 : decode c_M_rank 44 = .ok (.iconst 0, 1) := by decide +kernel
theorem d_M_rank_45 : decode c_M_rank 45 = .ok (.iaload, 1) := by decide +kernel
theorem d_M_rank_46 : decode c_M_rank 46 = .ok (.invokevirtual 105, 3) := by decide +kernel
theorem d_M_rank_49 : decode c_M_rank 49 = .ok (.aload_n 0, 1) := by decide +kernel
theorem d_M_rank_50 : decode c_M_rank 50 = .ok (.getfield 38, 3) := by decide +kernel
theorem d_M_rank_53 : decode c_M_rank 53 = .ok (.iload_n 1, 1) := by decide +kernel
theorem d_M_rank_54 : decode c_M_rank 54 = .ok (.laload, 1) := by decide +kernel
theorem d_M_rank_55 : decode c_M_rank 55 = .ok (.aload_n 0, 1) := by decide +kernel
theorem d_M_rank_56 : decode c_M_rank 56 = .ok (.getfield 89, 3) := by decide +kernel
theorem d_M_rank_59 : decode c_M_rank 59 = .ok (.iload_n 2, 1) := by decide +kernel
theorem d_M_rank_60 : decode c_M_rank 60 = .ok (.invokestatic 109, 3) := by decide +kernel
theorem d_M_rank_63 : decode c_M_rank 63 = .ok (.lreturn, 1) := by decide +kernel
theorem d_M_isPart_0 : decode c_M_isPart 0 = .ok (.iload_n 0, 1) := by decide +kernel
theorem d_M_isPart_1 : decode c_M_isPart 1 = .ok (.ifCond .eq 8, 3) := by decide +kernel
theorem d_M_isPart_4 : decode c_M_isPart 4 = .ok (.iload_n 0, 1) := by decide +kernel
theorem d_M_isPart_5 : decode c_M_isPart 5 = .ok (.iconst 1, 1) := by decide +kernel
theorem d_M_isPart_6 : decode c_M_isPart 6 = .ok (.if_icmp .ne 7, 3) := by decide +kernel
theorem d_M_isPart_9 : decode c_M_isPart 9 = .ok (.iconst 1, 1) := by decide +kernel
theorem d_M_isPart_10 : decode c_M_isPart 10 = .ok (.goto 4, 3) := by decide +kernel
theorem d_M_isPart_13 : decode c_M_isPart 13 = .ok (.iconst 0, 1) := by decide +kernel
theorem d_M_isPart_14 : decode c_M_isPart 14 = .ok (.ireturn, 1) := by decide +kernel
theorem d_M_findShares_0 : decode c_M_findShares 0 = .ok (.aload_n 0, 1) := by decide +kernel
theorem d_M_findShares_1 : decode c_M_findShares 1 = .ok (.lconst 0, 1) := by decide +kernel
theorem d_M_findShares_2 : decode c_M_findShares 2 = .ok (.putfield 89, 3) := by decide +kernel
theorem d_M_findShares_5 : decode c_M_findShares 5 = .ok (.iconst 0, 1) := by decide +kernel
theorem d_M_findShares_6 : decode c_M_findShares 6 = .ok (.istore_n 2, 1) := by decide +kernel
theorem d_M_findShares_7 : decode c_M_findShares 7 = .ok (.iload_n 2, 1) := by decide +kernel
theorem d_M_findShares_8 : decode c_M_findShares 8 = .ok (.aload_n 0, 1) := by decide +kernel
theorem d_M_findShares_9 : decode c_M_findShares 9 = .ok (.getfield 48, 3) := by decide +kernel
theorem d_M_findShares_12 : decode c_M_findShares 12 = .ok (.if_icmp .ge 70, 3) := by decide +kernel
theorem d_M_findShares_15 : decode c_M_findShares 15 = .ok (.aload_n 0, 1) := by decide +kernel
theorem d_M_findShares_16 : decode c_M_findShares 16 = .ok (.getfield 38, 3) := by decide +kernel
theorem d_M_findShares_19 : decode c_M_findShares 19 = .ok (.iload_n 2, 1) := by decide +kernel
theorem d_M_findShares_20 : decode c_M_findShares 20 = .ok (.lconst 0, 1) := by decide +kernel
theorem d_M_findShares_21 : decode c_M_findShares 21 = .ok (.lastore, 1) := by decide +kernel
theorem d_M_findShares_22 : decode c_M_findShares 22 = .ok (.iload_n 1, 1) := by decide +kernel
theorem d_M_findShares_23 : decode c_M_findShares 23 = .ok (.iload_n 2, 1) := by decide +kernel
theorem d_M_findShares_24 : decode c_M_findShares 24 = .ok (.ishr, 1) := by decide +kernel
theorem d_M_findShares_25 : decode c_M_findShares 25 = .ok (.iconst 1, 1) := by decide +kernel
theorem d_M_findShares_26 : decode c_M_findShares 26 = .ok (.iand, 1) := by decide +kernel
theorem d_M_findShares_27 : decode c_M_findShares 27 = .ok (.iconst 1, 1) := by decide +kernel
theorem d_M_findShares_28 : decode c_M_findShares 28 = .ok (.if_icmp .ne 48, 3) := by decide +kernel
theorem d_M_findShares_31 : decode c_M_findShares 31 = .ok (.aload_n 0, 1) := by decide +kernel
theorem d_M_findShares_32 : decode c_M_findShares 32 = .ok (.iload_n 1, 1) := by decide +kernel
theorem d_M_findShares_33 : decode c_M_findShares 33 = .ok (.iconst 1, 1) := by decide +kernel
theorem d_M_findShares_34 : decode c_M_findShares 34 = .ok (.iload_n 2, 1) := by decide +kernel
theorem d_M_findShares_35 : decode c_M_findShares 35 = .ok (.ishl, 1) := by decide +kernel
theorem d_M_findShares_36 : decode c_M_findShares 36 = .ok (.iload_n 2, 1) := by decide +kernel
theorem d_M_findShares_37 : decode c_M_findShares 37 = .ok (.iconst 1, 1) := by decide +kernel
theorem d_M_findShares_38 : decode c_M_findShares 38 = .ok (.iload_n 2, 1) := by decide +kernel
theorem d_M_findShares_39 : decode c_M_findShares 39 = .ok (.ishl, 1) := by decide +kernel
theorem d_M_findShares_40 : decode c_M_findShares 40 = .ok (.invokevirtual 92, 3) := by decide +kernel
theorem d_M_findShares_43 : decode c_M_findShares 43 = .ok (.aload_n 0, 1) := by decide +kernel
theorem d_M_findShares_44 : decode c_M_findShares 44 = .ok (.getfield 38, 3) := by decide +kernel
theorem d_M_findShares_47 : decode c_M_findShares 47 = .ok (.iload_n 2, 1) := by decide +kernel
theorem d_M_findShares_48 : decode c_M_findShares 48 = .ok (.aload_n 0, 1) := by decide +kernel
theorem d_M_findShares_49 : decode c_M_findShares 49 = .ok (.getfield 79, 3) := by decide +kernel
theorem d_M_findShares_52 : decode c_M_findShares 52 = .ok (.aload_n 0, 1) := by decide +kernel
theorem d_M_findShares_53 : decode c_M_findShares 53 = .ok (.getfield 26, 3) := by decide +kernel
theorem d_M_findShares_56 : decode c_M_findShares 56 = .ok (.iload_n 2, 1) := by decide +kernel
theorem d_M_findShares_57 : decode c_M_findShares 57 = .ok (.iaload, 1) := by decide +kernel
theorem d_M_findShares_58 : decode c_M_findShares 58 = .ok (.i2l, 1) := by decide +kernel
theorem d_M_findShares_59 : decode c_M_findShares 59 = .ok (.lmul, 1) := by decide +kernel
theorem d_M_findShares_60 : decode c_M_findShares 60 = .ok (.lastore, 1) := by decide +kernel
theorem d_M_findShares_61 : decode c_M_findShares 61 = .ok (.aload_n 0, 1) := by decide +kernel
theorem d_M_findShares_62 : decode c_M_findShares 62 = .ok (.dup, 1) := by decide +kernel
theorem d_M_findShares_63 : decode c_M_findShares 63 = .ok (.getfield 89, 3) := by decide +kernel
theorem d_M_findShares_66 : decode c_M_findShares 66 = .ok (.aload_n 0, 1) := by decide +kernel
theorem d_M_findShares_67 : decode c_M_findShares 67 = .ok (.getfield 38, 3) := by decide +kernel
theorem d_M_findShares_70 : decode c_M_findShares 70 = .ok (.iload_n 2, 1) := by decide +kernel
theorem d_M_findShares_71 : decode c_M_findShares 71 = .ok (.laload, 1) := by decide +kernel
theorem d_M_findShares_72 : decode c_M_findShares 72 = .ok (.ladd, 1) := by decide +kernel
theorem d_M_findShares_73 : decode c_M_findShares 73 = .ok (.putfield 89, 3) := by decide +kernel
theorem d_M_findShares_76 : decode c_M_findShares 76 = .ok (.iinc 2 1, 3) := by decide +kernel
theorem d_M_findShares_79 : decode c_M_findShares 79 = .ok (.goto (-72), 3) := by decide +kernel
theorem d_M_findShares_82 : decode c_M_findShares 82 = .ok (.return_, 1) := by decide +kernel
theorem d_M_count_0 : decode c_M_count 0 = .ok (.aload_n 0, 1) := by decide +kernel
theorem d_M_count_1 : decode c_M_count 1 = .ok (.lconst 0, 1) := by decide +kernel
theorem d_M_count_2 : decode c_M_count 2 = .ok (.putfield 79, 3) := by decide +kernel
theorem d_M_count_5 : decode c_M_count 5 = .ok (.aload_n 0, 1) := by decide +kernel
theorem d_M_count_6 : decode c_M_count 6 = .ok (.lconst 0, 1) := by decide +kernel
theorem d_M_count_7 : decode c_M_count 7 = .ok (.putfield 83, 3) := by decide +kernel
theorem d_M_count_10 : decode c_M_count 10 = .ok (.iconst 1, 1) := by decide +kernel
theorem d_M_count_11 : decode c_M_count 11 = .ok (.istore 5, 2) := by decide +kernel
theorem d_M_count_13 : decode c_M_count 13 = .ok (.iconst 0, 1) := by decide +kernel
theorem d_M_count_14 : decode c_M_count 14 = .ok (.istore 6, 2) := by decide +kernel
theorem d_M_count_16 : decode c_M_count 16 = .ok (.iload 6, 2) := by decide +kernel
theorem d_M_count_18 : decode c_M_count 18 = .ok (.aload_n 0, 1) := by decide +kernel
theorem d_M_count_19 : decode c_M_count 19 = .ok (.getfield 48, 3) := by decide +kernel
theorem d_M_count_22 : decode c_M_count 22 = .ok (.if_icmp .ge 36, 3) := by decide +kernel
theorem d_M_count_25 : decode c_M_count 25 = .ok (.iload 5, 2) := by decide +kernel
theorem d_M_count_27 : decode c_M_count 27 = .ok (.iload_n 1, 1) := by decide +kernel
theorem d_M_count_28 : decode c_M_count 28 = .ok (.iload_n 2, 1) := by decide +kernel
theorem d_M_count_29 : decode c_M_count 29 = .ok (.iconst (-1), 1) := by decide +kernel
theorem d_M_count_30 : decode c_M_count 30 = .ok (.ixor, 1) := by decide +kernel
theorem d_M_count_31 : decode c_M_count 31 = .ok (.iand, 1) := by decide +kernel
theorem d_M_count_32 : decode c_M_count 32 = .ok (.iload 6, 2) := by decide +kernel
theorem d_M_count_34 : decode c_M_count 34 = .ok (.ishr, 1) := by decide +kernel
theorem d_M_count_35 : decode c_M_count 35 = .ok (.iconst 1, 1) := by decide +kernel
theorem d_M_count_36 : decode c_M_count 36 = .ok (.iand, 1) := by decide +kernel
theorem d_M_count_37 : decode c_M_count 37 = .ok (.iconst 1, 1) := by decide +kernel
theorem d_M_count_38 : decode c_M_count 38 = .ok (.if_icmp .ne 10, 3) := by decide +kernel
theorem d_M_count_41 : decode c_M_count 41 = .ok (.aload_n 0, 1) := by decide +kernel
theorem d_M_count_42 : decode c_M_count 42 = .ok (.getfield 48, 3) := by decide +kernel
theorem d_M_count_45 : decode c_M_count 45 = .ok (.goto 4, 3) := by decide +kernel
theorem d_M_count_48 : decode c_M_count 48 = .ok (.iconst 1, 1) := by decide +kernel
theorem d_M_count_49 : decode c_M_count 49 = .ok (.imul, 1) := by decide +kernel
theorem d_M_count_50 : decode c_M_count 50 = .ok (.istore 5, 2) := by decide +kernel
theorem d_M_count_52 : decode c_M_count 52 = .ok (.iinc 6 1, 3) := by decide +kernel
theorem d_M_count_55 : decode c_M_count 55 = .ok (.goto (-39), 3) := by decide +kernel
theorem d_M_count_58 : decode c_M_count 58 = .ok (.iconst 0, 1) := by decide +kernel
theorem d_M_count_59 : decode c_M_count 59 = .ok (.istore 6, 2) := by decide +kernel
theorem d_M_count_61 : decode c_M_count 61 = .ok (.iload 6, 2) := by decide +kernel
theorem d_M_count_63 : decode c_M_count 63 = .ok (.iload 5, 2) := by decide +kernel
theorem d_M_count_65 : decode c_M_count 65 = .ok (.if_icmp .ge 226, 3) := by decide +kernel
theorem d_M_count_68 : decode c_M_count 68 = .ok (.iload 6, 2) := by decide +kernel
theorem d_M_count_70 : decode c_M_count 70 = .ok (.istore 7, 2) := by decide +kernel
theorem d_M_count_72 : decode c_M_count 72 = .ok (.lconst 1, 1) := by decide +kernel
theorem d_M_count_73 : decode c_M_count 73 = .ok (.lstore 8, 2) := by decide +kernel
theorem d_M_count_75 : decode c_M_count 75 = .ok (.iconst 0, 1) := by decide +kernel
theorem d_M_count_76 : decode c_M_count 76 = .ok (.istore 10, 2) := by decide +kernel
theorem d_M_count_78 : decode c_M_count 78 = .ok (.iload 10, 2) := by decide +kernel
theorem d_M_count_80 : decode c_M_count 80 = .ok (.aload_n 0, 1) := by decide +kernel
theorem d_M_count_81 : decode c_M_count 81 = .ok (.getfield 48, 3) := by decide +kernel
theorem d_M_count_84 : decode c_M_count 84 = .ok (.if_icmp .ge 88, 3) := by decide +kernel
theorem d_M_count_87 : decode c_M_count 87 = .ok (.iload_n 1, 1) := by decide +kernel
theorem d_M_count_88 : decode c_M_count 88 = .ok (.iload_n 2, 1) := by decide +kernel
theorem d_M_count_89 : decode c_M_count 89 = .ok (.iconst (-1), 1) := by decide +kernel
theorem d_M_count_90 : decode c_M_count 90 = .ok (.ixor, 1) := by decide +kernel
theorem d_M_count_91 : decode c_M_count 91 = .ok (.iand, 1) := by decide +kernel
theorem d_M_count_92 : decode c_M_count 92 = .ok (.iload 10, 2) := by decide +kernel
theorem d_M_count_94 : decode c_M_count 94 = .ok (.ishr, 1) := by decide +kernel
theorem d_M_count_95 : decode c_M_count 95 = .ok (.iconst 1, 1) := by decide +kernel
theorem d_M_count_96 : decode c_M_count 96 = .ok (.iand, 1) := by decide +kernel
theorem d_M_count_97 : decode c_M_count 97 = .ok (.iconst 1, 1) := by decide +kernel
theorem d_M_count_98 : decode c_M_count 98 = .ok (.if_icmp .ne 68, 3) := by decide +kernel
theorem d_M_count_101 : decode c_M_count 101 = .ok (.aload_n 0, 1) := by decide +kernel
theorem d_M_count_102 : decode c_M_count 102 = .ok (.getfield 35, 3) := by decide +kernel
theorem d_M_count_105 : decode c_M_count 105 = .ok (.iload 10, 2) := by decide +kernel
theorem d_M_count_107 : decode c_M_count 107 = .ok (.iload 7, 2) := by decide +kernel
theorem d_M_count_109 : decode c_M_count 109 = .ok (.aload_n 0, 1) := by decide +kernel
theorem d_M_count_110 : decode c_M_count 110 = .ok (.getfield 48, 3) := by decide +kernel
theorem d_M_count_113 : decode c_M_count 113 = .ok (.irem, 1) := by decide +kernel
theorem d_M_count_114 : decode c_M_count 114 = .ok (.iastore, 1) := by decide +kernel
theorem d_M_count_115 : decode c_M_count 115 = .ok (.iload 7, 2) := by decide +kernel
theorem d_M_count_117 : decode c_M_count 117 = .ok (.aload_n 0, 1) := by decide +kernel
theorem d_M_count_118 : decode c_M_count 118 = .ok (.getfield 48, 3) := by decide +kernel
theorem d_M_count_121 : decode c_M_count 121 = .ok (.idiv, 1) := by decide +kernel
theorem d_M_count_122 : decode c_M_count 122 = .ok (.istore 7, 2) := by decide +kernel
theorem d_M_count_124 : decode c_M_count 124 = .ok (.lload 8, 2) := by decide +kernel
theorem d_M_count_126 : decode c_M_count 126 = .ok (.iload_n 1, 1) := by decide +kernel
theorem d_M_count_127 : decode c_M_count 127 = .ok (.aload_n 0, 1) := by decide +kernel
theorem d_M_count_128 : decode c_M_count 128 = .ok (.getfield 35, 3) := by decide +kernel
theorem d_M_count_131 : decode c_M_count 131 = .ok (.iload 10, 2) := by decide +kernel
theorem d_M_count_133 : decode c_M_count 133 = .ok (.iaload, 1) := by decide +kernel
theorem d_M_count_134 : decode c_M_count 134 = .ok (.ishr, 1) := by decide +kernel
theorem d_M_count_135 : decode c_M_count 135 = .ok (.iconst 1, 1) := by decide +kernel
theorem d_M_count_136 : decode c_M_count 136 = .ok (.iand, 1) := by decide +kernel
theorem d_M_count_137 : decode c_M_count 137 = .ok (.iconst 1, 1) := by decide +kernel
theorem d_M_count_138 : decode c_M_count 138 = .ok (.if_icmp .ne 24, 3) := by decide +kernel
theorem d_M_count_141 : decode c_M_count 141 = .ok (.aload_n 0, 1) := by decide +kernel
theorem d_M_count_142 : decode c_M_count 142 = .ok (.getfield 23, 3) := by decide +kernel
theorem d_M_count_145 : decode c_M_count 145 = .ok (.iconst 5, 1) := by decide +kernel
theorem d_M_count_146 : decode c_M_count 146 = .ok (.iload 10, 2) := by decide +kernel
theorem d_M_count_148 : decode c_M_count 148 = .ok (.imul, 1) := by decide +kernel
theorem d_M_count_149 : decode c_M_count 149 = .ok (.aload_n 0, 1) := by decide +kernel
theorem d_M_count_150 : decode c_M_count 150 = .ok (.getfield 35, 3) := by decide +kernel
theorem d_M_count_153 : decode c_M_count 153 = .ok (.iload 10, 2) := by decide +kernel
theorem d_M_count_155 : decode c_M_count 155 = .ok (.iaload, 1) := by decide +kernel
theorem d_M_count_156 : decode c_M_count 156 = .ok (.iadd, 1) := by decide +kernel
theorem d_M_count_157 : decode c_M_count 157 = .ok (.iaload, 1) := by decide +kernel
theorem d_M_count_158 : decode c_M_count 158 = .ok (.i2l, 1) := by decide +kernel
theorem d_M_count_159 : decode c_M_count 159 = .ok (.goto 4, 3) := by decide +kernel
theorem d_M_count_162 : decode c_M_count 162 = .ok (.lconst 0, 1) := by decide +kernel
theorem d_M_count_163 : decode c_M_count 163 = .ok (.lmul, 1) := by decide +kernel
theorem d_M_count_164 : decode c_M_count 164 = .ok (.lstore 8, 2) := by decide +kernel
theorem d_M_count_166 : decode c_M_count 166 = .ok (.iinc 10 1, 3) := by decide +kernel
theorem d_M_count_169 : decode c_M_count 169 = .ok (.goto (-91), 3) := by decide +kernel
theorem d_M_count_172 : decode c_M_count 172 = .ok (.lload 8, 2) := by decide +kernel
theorem d_M_count_174 : decode c_M_count 174 = .ok (.lconst 0, 1) := by decide +kernel
theorem d_M_count_175 : decode c_M_count 175 = .ok (.lcmp, 1) := by decide +kernel
theorem d_M_count_176 : decode c_M_count 176 = .ok (.ifCond .le 7, 3) := by decide +kernel
theorem d_M_count_179 : decode c_M_count 179 = .ok (.iconst 1, 1) := by decide +kernel
theorem d_M_count_180 : decode c_M_count 180 = .ok (.goto 4, 3) := by decide +kernel
theorem d_M_count_183 : decode c_M_count 183 = .ok (.iconst 0, 1) := by decide +kernel
theorem d_M_count_184 : decode c_M_count 184 = .ok (.istore 10, 2) := by decide +kernel
theorem d_M_count_186 : decode c_M_count 186 = .ok (.iconst 0, 1) := by decide +kernel
theorem d_M_count_187 : decode c_M_count 187 = .ok (.istore 11, 2) := by decide +kernel
theorem d_M_count_189 : decode c_M_count 189 = .ok (.iload 11, 2) := by decide +kernel
theorem d_M_count_191 : decode c_M_count 191 = .ok (.aload_n 0, 1) := by decide +kernel
theorem d_M_count_192 : decode c_M_count 192 = .ok (.getfield 48, 3) := by decide +kernel
theorem d_M_count_195 : decode c_M_count 195 = .ok (.if_icmp .ge 44, 3) := by decide +kernel
theorem d_M_count_198 : decode c_M_count 198 = .ok (.iload 10, 2) := by decide +kernel
theorem d_M_count_200 : decode c_M_count 200 = .ok (.ifCond .eq 39, 3) := by decide +kernel
theorem d_M_count_203 : decode c_M_count 203 = .ok (.iload_n 1, 1) := by decide +kernel
theorem d_M_count_204 : decode c_M_count 204 = .ok (.iload_n 2, 1) := by decide +kernel
theorem d_M_count_205 : decode c_M_count 205 = .ok (.iconst (-1), 1) := by decide +kernel
theorem d_M_count_206 : decode c_M_count 206 = .ok (.ixor, 1) := by decide +kernel
theorem d_M_count_207 : decode c_M_count 207 = .ok (.iand, 1) := by decide +kernel
theorem d_M_count_208 : decode c_M_count 208 = .ok (.iload 11, 2) := by decide +kernel
theorem d_M_count_210 : decode c_M_count 210 = .ok (.ishr, 1) := by decide +kernel
theorem d_M_count_211 : decode c_M_count 211 = .ok (.iconst 1, 1) := by decide +kernel
theorem d_M_count_212 : decode c_M_count 212 = .ok (.iand, 1) := by decide +kernel
theorem d_M_count_213 : decode c_M_count 213 = .ok (.ifCond .eq 13, 3) := by decide +kernel
theorem d_M_count_216 : decode c_M_count 216 = .ok (.aload_n 0, 1) := by decide +kernel
theorem d_M_count_217 : decode c_M_count 217 = .ok (.iload 11, 2) := by decide +kernel
theorem d_M_count_219 : decode c_M_count 219 = .ok (.iload_n 2, 1) := by decide +kernel
theorem d_M_count_220 : decode c_M_count 220 = .ok (.invokevirtual 86, 3) := by decide +kernel
theorem d_M_count_223 : decode c_M_count 223 = .ok (.ifCond .lt 7, 3) := by decide +kernel
theorem d_M_count_226 : decode c_M_count 226 = .ok (.iconst 1, 1) := by decide +kernel
theorem d_M_count_227 : decode c_M_count 227 = .ok (.goto 4, 3) := by decide +kernel
theorem d_M_count_230 : decode c_M_count 230 = .ok (.iconst 0, 1) := by decide +kernel
theorem d_M_count_231 : decode c_M_count 231 = .ok (.istore 10, 2) := by decide +kernel
theorem d_M_count_233 : decode c_M_count 233 = .ok (.iinc 11 1, 3) := by decide +kernel
theorem d_M_count_236 : decode c_M_count 236 = .ok (.goto (-47), 3) := by decide +kernel
theorem d_M_count_239 : decode c_M_count 239 = .ok (.iload 10, 2) := by decide +kernel
theorem d_M_count_241 : decode c_M_count 241 = .ok (.ifCond .eq 44, 3) := by decide +kernel
theorem d_M_count_244 : decode c_M_count 244 = .ok (.aload_n 0, 1) := by decide +kernel
theorem d_M_count_245 : decode c_M_count 245 = .ok (.dup, 1) := by decide +kernel
theorem d_M_count_246 : decode c_M_count 246 = .ok (.getfield 79, 3) := by decide +kernel
theorem d_M_count_249 : decode c_M_count 249 = .ok (.lload 8, 2) := by decide +kernel
theorem d_M_count_251 : decode c_M_count 251 = .ok (.ladd, 1) := by decide +kernel
theorem d_M_count_252 : decode c_M_count 252 = .ok (.putfield 79, 3) := by decide +kernel
theorem d_M_count_255 : decode c_M_count 255 = .ok (.aload_n 0, 1) := by decide +kernel
theorem d_M_count_256 : decode c_M_count 256 = .ok (.dup, 1) := by decide +kernel
theorem d_M_count_257 : decode c_M_count 257 = .ok (.getfield 83, 3) := by decide +kernel
theorem d_M_count_260 : decode c_M_count 260 = .ok (.iload 4, 2) := by decide +kernel
theorem d_M_count_262 : decode c_M_count 262 = .ok (.aload_n 0, 1) := by decide +kernel
theorem d_M_count_263 : decode c_M_count 263 = .ok (.iload_n 3, 1) := by decide +kernel
theorem d_M_count_264 : decode c_M_count 264 = .ok (.iload_n 2, 1) := by decide +kernel
theorem d_M_count_265 : decode c_M_count 265 = .ok (.invokevirtual 86, 3) := by decide +kernel
theorem d_M_count_268 : decode c_M_count 268 = .ok (.ishr, 1) := by decide +kernel
theorem d_M_count_269 : decode c_M_count 269 = .ok (.iconst 1, 1) := by decide +kernel
theorem d_M_count_270 : decode c_M_count 270 = .ok (.iand, 1) := by decide +kernel
theorem d_M_count_271 : decode c_M_count 271 = .ok (.iconst 1, 1) := by decide +kernel
theorem d_M_count_272 : decode c_M_count 272 = .ok (.if_icmp .ne 8, 3) := by decide +kernel
theorem d_M_count_275 : decode c_M_count 275 = .ok (.lload 8, 2) := by decide +kernel
theorem d_M_count_277 : decode c_M_count 277 = .ok (.goto 4, 3) := by decide +kernel
theorem d_M_count_280 : decode c_M_count 280 = .ok (.lconst 0, 1) := by decide +kernel
theorem d_M_count_281 : decode c_M_count 281 = .ok (.ladd, 1) := by decide +kernel
theorem d_M_count_282 : decode c_M_count 282 = .ok (.putfield 83, 3) := by decide +kernel
theorem d_M_count_285 : decode c_M_count 285 = .ok (.iinc 6 1, 3) := by decide +kernel
theorem d_M_count_288 : decode c_M_count 288 = .ok (.goto (-227), 3) := by decide +kernel
theorem d_M_count_291 : decode c_M_count 291 = .ok (.return_, 1) := by decide +kernel
theorem d_M_rootOf_0 : decode c_M_rootOf 0 = .ok (.iload_n 1, 1) := by decide +kernel
theorem d_M_rootOf_1 : decode c_M_rootOf 1 = .ok (.istore_n 3, 1) := by decide +kernel
theorem d_M_rootOf_2 : decode c_M_rootOf 2 = .ok (.iconst 0, 1) := by decide +kernel
theorem d_M_rootOf_3 : decode c_M_rootOf 3 = .ok (.istore 4, 2) := by decide +kernel
theorem d_M_rootOf_5 : decode c_M_rootOf 5 = .ok (.iload 4, 2) := by decide +kernel
theorem d_M_rootOf_7 : decode c_M_rootOf 7 = .ok (.bipush 6, 2) := by decide +kernel
theorem d_M_rootOf_9 : decode c_M_rootOf 9 = .ok (.if_icmp .ge 27, 3) := by decide +kernel
theorem d_M_rootOf_12 : decode c_M_rootOf 12 = .ok (.iload_n 2, 1) := by decide +kernel
theorem d_M_rootOf_13 : decode c_M_rootOf 13 = .ok (.iload_n 3, 1) := by decide +kernel
theorem d_M_rootOf_14 : decode c_M_rootOf 14 = .ok (.ishr, 1) := by decide +kernel
theorem d_M_rootOf_15 : decode c_M_rootOf 15 = .ok (.iconst 1, 1) := by decide +kernel
theorem d_M_rootOf_16 : decode c_M_rootOf 16 = .ok (.iand, 1) := by decide +kernel
theorem d_M_rootOf_17 : decode c_M_rootOf 17 = .ok (.iconst 1, 1) := by decide +kernel
theorem d_M_rootOf_18 : decode c_M_rootOf 18 = .ok (.if_icmp .ne 5, 3) := by decide +kernel
theorem d_M_rootOf_21 : decode c_M_rootOf 21 = .ok (.iload_n 3, 1) := by decide +kernel
theorem d_M_rootOf_22 : decode c_M_rootOf 22 = .ok (.ireturn, 1) := by decide +kernel
theorem d_M_rootOf_23 : decode c_M_rootOf 23 = .ok (.aload_n 0, 1) := by decide +kernel
theorem d_M_rootOf_24 : decode c_M_rootOf 24 = .ok (.getfield 35, 3) := by decide +kernel
theorem d_M_rootOf_27 : decode c_M_rootOf 27 = .ok (.iload_n 3, 1) := by decide +kernel
theorem d_M_rootOf_28 : decode c_M_rootOf 28 = .ok (.iaload, 1) := by decide +kernel
theorem d_M_rootOf_29 : decode c_M_rootOf 29 = .ok (.istore_n 3, 1) := by decide +kernel
theorem d_M_rootOf_30 : decode c_M_rootOf 30 = .ok (.iinc 4 1, 3) := by decide +kernel
theorem d_M_rootOf_33 : decode c_M_rootOf 33 = .ok (.goto (-28), 3) := by decide +kernel
theorem d_M_rootOf_36 : decode c_M_rootOf 36 = .ok (.iconst (-1), 1) := by decide +kernel
theorem d_M_rootOf_37 : decode c_M_rootOf 37 = .ok (.ireturn, 1) := by decide +kernel
theorem d_M_lowest_0 : decode c_M_lowest 0 = .ok (.lload_n 0, 1) := by decide +kernel
theorem d_M_lowest_1 : decode c_M_lowest 1 = .ok (.lload_n 2, 1) := by decide +kernel
theorem d_M_lowest_2 : decode c_M_lowest 2 = .ok (.invokestatic 55, 3) := by decide +kernel
theorem d_M_lowest_5 : decode c_M_lowest 5 = .ok (.lstore 5, 2) := by decide +kernel
theorem d_M_lowest_7 : decode c_M_lowest 7 = .ok (.iload 4, 2) := by decide +kernel
theorem d_M_lowest_9 : decode c_M_lowest 9 = .ok (.ifCond .ne 10, 3) := by decide +kernel
theorem d_M_lowest_12 : decode c_M_lowest 12 = .ok (.lload_n 0, 1) := by decide +kernel
theorem d_M_lowest_13 : decode c_M_lowest 13 = .ok (.lload 5, 2) := by decide +kernel
theorem d_M_lowest_15 : decode c_M_lowest 15 = .ok (.ldiv, 1) := by decide +kernel
theorem d_M_lowest_16 : decode c_M_lowest 16 = .ok (.goto 7, 3) := by decide +kernel
theorem d_M_lowest_19 : decode c_M_lowest 19 = .ok (.lload_n 2, 1) := by decide +kernel
theorem d_M_lowest_20 : decode c_M_lowest 20 = .ok (.lload 5, 2) := by decide +kernel
theorem d_M_lowest_22 : decode c_M_lowest 22 = .ok (.ldiv, 1) := by decide +kernel
theorem d_M_lowest_23 : decode c_M_lowest 23 = .ok (.lreturn, 1) := by decide +kernel
theorem d_M_place_0 : decode c_M_place 0 = .ok (.aload_n 0, 1) := by decide +kernel
theorem d_M_place_1 : decode c_M_place 1 = .ok (.iload_n 1, 1) := by decide +kernel
theorem d_M_place_2 : decode c_M_place 2 = .ok (.invokevirtual 51, 3) := by decide +kernel
theorem d_M_place_5 : decode c_M_place 5 = .ok (.ifCond .ne 5, 3) := by decide +kernel
theorem d_M_place_8 : decode c_M_place 8 = .ok (.iconst (-1), 1) := by decide +kernel
theorem d_M_place_9 : decode c_M_place 9 = .ok (.ireturn, 1) := by decide +kernel
theorem d_M_place_10 : decode c_M_place 10 = .ok (.aload_n 0, 1) := by decide +kernel
theorem d_M_place_11 : decode c_M_place 11 = .ok (.invokevirtual 76, 3) := by decide +kernel
theorem d_M_place_14 : decode c_M_place 14 = .ok (.aload_n 0, 1) := by decide +kernel
theorem d_M_place_15 : decode c_M_place 15 = .ok (.getfield 70, 3) := by decide +kernel
theorem d_M_place_18 : decode c_M_place 18 = .ok (.iconst 1, 1) := by decide +kernel
theorem d_M_place_19 : decode c_M_place 19 = .ok (.if_icmp .eq 6, 3) := by decide +kernel
theorem d_M_place_22 : decode c_M_place 22 = .ok (.bipush (-3), 2) := by decide +kernel
theorem d_M_place_24 : decode c_M_place 24 = .ok (.ireturn, 1) := by decide +kernel
theorem d_M_place_25 : decode c_M_place 25 = .ok (.aload_n 0, 1) := by decide +kernel
theorem d_M_place_26 : decode c_M_place 26 = .ok (.aload_n 0, 1) := by decide +kernel
theorem d_M_place_27 : decode c_M_place 27 = .ok (.getfield 32, 3) := by decide +kernel
theorem d_M_place_30 : decode c_M_place 30 = .ok (.iconst 0, 1) := by decide +kernel
theorem d_M_place_31 : decode c_M_place 31 = .ok (.iaload, 1) := by decide +kernel
theorem d_M_place_32 : decode c_M_place 32 = .ok (.invokevirtual 105, 3) := by decide +kernel
theorem d_M_place_35 : decode c_M_place 35 = .ok (.iconst 0, 1) := by decide +kernel
theorem d_M_place_36 : decode c_M_place 36 = .ok (.istore_n 2, 1) := by decide +kernel
theorem d_M_place_37 : decode c_M_place 37 = .ok (.iload_n 2, 1) := by decide +kernel
theorem d_M_place_38 : decode c_M_place 38 = .ok (.aload_n 0, 1) := by decide +kernel
theorem d_M_place_39 : decode c_M_place 39 = .ok (.getfield 48, 3) := by decide +kernel
theorem d_M_place_42 : decode c_M_place 42 = .ok (.if_icmp .ge 84, 3) := by decide +kernel
theorem d_M_place_45 : decode c_M_place 45 = .ok (.iconst 0, 1) := by decide +kernel
theorem d_M_place_46 : decode c_M_place 46 = .ok (.istore_n 3, 1) := by decide +kernel
theorem d_M_place_47 : decode c_M_place 47 = .ok (.iconst 0, 1) := by decide +kernel
theorem d_M_place_48 : decode c_M_place 48 = .ok (.istore 4, 2) := by decide +kernel
theorem d_M_place_50 : decode c_M_place 50 = .ok (.iload 4, 2) := by decide +kernel
theorem d_M_place_52 : decode c_M_place 52 = .ok (.aload_n 0, 1) := by decide +kernel
theorem d_M_place_53 : decode c_M_place 53 = .ok (.getfield 48, 3) := by decide +kernel
theorem d_M_place_56 : decode c_M_place 56 = .ok (.if_icmp .ge 57, 3) := by decide +kernel
theorem d_M_place_59 : decode c_M_place 59 = .ok (.iload_n 3, 1) := by decide +kernel
theorem d_M_place_60 : decode c_M_place 60 = .ok (.aload_n 0, 1) := by decide +kernel
theorem d_M_place_61 : decode c_M_place 61 = .ok (.getfield 38, 3) := by decide +kernel
theorem d_M_place_64 : decode c_M_place 64 = .ok (.iload 4, 2) := by decide +kernel
theorem d_M_place_66 : decode c_M_place 66 = .ok (.laload, 1) := by decide +kernel
theorem d_M_place_67 : decode c_M_place 67 = .ok (.aload_n 0, 1) := by decide +kernel
theorem d_M_place_68 : decode c_M_place 68 = .ok (.getfield 38, 3) := by decide +kernel
theorem d_M_place_71 : decode c_M_place 71 = .ok (.iload_n 2, 1) := by decide +kernel
theorem d_M_place_72 : decode c_M_place 72 = .ok (.laload, 1) := by decide +kernel
theorem d_M_place_73 : decode c_M_place 73 = .ok (.lcmp, 1) := by decide +kernel
theorem d_M_place_74 : decode c_M_place 74 = .ok (.ifCond .gt 26, 3) := by decide +kernel
theorem d_M_place_77 : decode c_M_place 77 = .ok (.aload_n 0, 1) := by decide +kernel
theorem d_M_place_78 : decode c_M_place 78 = .ok (.getfield 38, 3) := by decide +kernel
theorem d_M_place_81 : decode c_M_place 81 = .ok (.iload 4, 2) := by decide +kernel
theorem d_M_place_83 : decode c_M_place 83 = .ok (.laload, 1) := by decide +kernel
theorem d_M_place_84 : decode c_M_place 84 = .ok (.aload_n 0, 1) := by decide +kernel
theorem d_M_place_85 : decode c_M_place 85 = .ok (.getfield 38, 3) := by decide +kernel
theorem d_M_place_88 : decode c_M_place 88 = .ok (.iload_n 2, 1) := by decide +kernel
theorem d_M_place_89 : decode c_M_place 89 = .ok (.laload, 1) := by decide +kernel
theorem d_M_place_90 : decode c_M_place 90 = .ok (.lcmp, 1) := by decide +kernel
theorem d_M_place_91 : decode c_M_place 91 = .ok (.ifCond .ne 13, 3) := by decide +kernel
theorem d_M_place_94 : decode c_M_place 94 = .ok (.iload 4, 2) := by decide +kernel
theorem d_M_place_96 : decode c_M_place 96 = .ok (.iload_n 2, 1) := by decide +kernel
theorem d_M_place_97 : decode c_M_place 97 = .ok (.if_icmp .ge 7, 3) := by decide +kernel
theorem d_M_place_100 : decode c_M_place 100 = .ok (.iconst 1, 1) := by decide +kernel
theorem d_M_place_101 : decode c_M_place 101 = .ok (.goto 4, 3) := by decide +kernel
theorem d_M_place_104 : decode c_M_place 104 = .ok (.iconst 0, 1) := by decide +kernel
theorem d_M_place_105 : decode c_M_place 105 = .ok (.iadd, 1) := by decide +kernel
theorem d_M_place_106 : decode c_M_place 106 = .ok (.istore_n 3, 1) := by decide +kernel
theorem d_M_place_107 : decode c_M_place 107 = .ok (.iinc 4 1, 3) := by decide +kernel
theorem d_M_place_110 : decode c_M_place 110 = .ok (.goto (-60), 3) := by decide +kernel
theorem d_M_place_113 : decode c_M_place 113 = .ok (.iload_n 3, 1) := by decide +kernel
theorem d_M_place_114 : decode c_M_place 114 = .ok (.iload_n 1, 1) := by decide +kernel
theorem d_M_place_115 : decode c_M_place 115 = .ok (.if_icmp .ne 5, 3) := by decide +kernel
theorem d_M_place_118 : decode c_M_place 118 = .ok (.iload_n 2, 1) := by decide +kernel
theorem d_M_place_119 : decode c_M_place 119 = .ok (.ireturn, 1) := by decide +kernel
theorem d_M_place_120 : decode c_M_place 120 = .ok (.iinc 2 1, 3) := by decide +kernel
theorem d_M_place_123 : decode c_M_place 123 = .ok (.goto (-86), 3) := by decide +kernel
theorem d_M_place_126 : decode c_M_place 126 = .ok (.iconst (-1), 1) := by decide +kernel
theorem d_M_place_127 : decode c_M_place 127 = .ok (.ireturn, 1) := by decide +kernel
theorem d_M_reach_0 : decode c_M_reach 0 = .ok (.aload_n 0, 1) := by decide +kernel
theorem d_M_reach_1 : decode c_M_reach 1 = .ok (.iload_n 1, 1) := by decide +kernel
theorem d_M_reach_2 : decode c_M_reach 2 = .ok (.invokevirtual 51, 3) := by decide +kernel
theorem d_M_reach_5 : decode c_M_reach 5 = .ok (.ifCond .eq 11, 3) := by decide +kernel
theorem d_M_reach_8 : decode c_M_reach 8 = .ok (.aload_n 0, 1) := by decide +kernel
theorem d_M_reach_9 : decode c_M_reach 9 = .ok (.iload_n 2, 1) := by decide +kernel
theorem d_M_reach_10 : decode c_M_reach 10 = .ok (.invokevirtual 51, 3) := by decide +kernel
theorem d_M_reach_13 : decode c_M_reach 13 = .ok (.ifCond .ne 7, 3) := by decide +kernel
theorem d_M_reach_16 : decode c_M_reach 16 = .ok (.ldc2_w 96, 3) := by decide +kernel
theorem d_M_reach_19 : decode c_M_reach 19 = .ok (.lreturn, 1) := by decide +kernel
theorem d_M_reach_20 : decode c_M_reach 20 = .ok (.iload_n 3, 1) := by decide +kernel
theorem d_M_reach_21 : decode c_M_reach 21 = .ok (.invokestatic 98, 3) := by decide +kernel
theorem d_M_reach_24 : decode c_M_reach 24 = .ok (.ifCond .ne 7, 3) := by decide +kernel
theorem d_M_reach_27 : decode c_M_reach 27 = .ok (.ldc2_w 101, 3) := by decide +kernel
theorem d_M_reach_30 : decode c_M_reach 30 = .ok (.lreturn, 1) := by decide +kernel
theorem d_M_reach_31 : decode c_M_reach 31 = .ok (.aload_n 0, 1) := by decide +kernel
theorem d_M_reach_32 : decode c_M_reach 32 = .ok (.invokevirtual 59, 3) := by decide +kernel
theorem d_M_reach_35 : decode c_M_reach 35 = .ok (.iconst 1, 1) := by decide +kernel
theorem d_M_reach_36 : decode c_M_reach 36 = .ok (.iload_n 2, 1) := by decide +kernel
theorem d_M_reach_37 : decode c_M_reach 37 = .ok (.ishl, 1) := by decide +kernel
theorem d_M_reach_38 : decode c_M_reach 38 = .ok (.istore 4, 2) := by decide +kernel
theorem d_M_reach_40 : decode c_M_reach 40 = .ok (.iconst 0, 1) := by decide +kernel
theorem d_M_reach_41 : decode c_M_reach 41 = .ok (.istore 5, 2) := by decide +kernel
theorem d_M_reach_43 : decode c_M_reach 43 = .ok (.iload 5, 2) := by decide +kernel
theorem d_M_reach_45 : decode c_M_reach 45 = .ok (.aload_n 0, 1) := by decide +kernel
theorem d_M_reach_46 : decode c_M_reach 46 = .ok (.getfield 48, 3) := by decide +kernel
theorem d_M_reach_49 : decode c_M_reach 49 = .ok (.if_icmp .ge 32, 3) := by decide +kernel
theorem d_M_reach_52 : decode c_M_reach 52 = .ok (.iload 4, 2) := by decide +kernel
theorem d_M_reach_54 : decode c_M_reach 54 = .ok (.aload_n 0, 1) := by decide +kernel
theorem d_M_reach_55 : decode c_M_reach 55 = .ok (.iload 5, 2) := by decide +kernel
theorem d_M_reach_57 : decode c_M_reach 57 = .ok (.iload_n 2, 1) := by decide +kernel
theorem d_M_reach_58 : decode c_M_reach 58 = .ok (.invokevirtual 66, 3) := by decide +kernel
theorem d_M_reach_61 : decode c_M_reach 61 = .ok (.ifCond .eq 7, 3) := by decide +kernel
theorem d_M_reach_64 : decode c_M_reach 64 = .ok (.iconst 0, 1) := by decide +kernel
theorem d_M_reach_65 : decode c_M_reach 65 = .ok (.goto 7, 3) := by decide +kernel
theorem d_M_reach_68 : decode c_M_reach 68 = .ok (.iconst 1, 1) := by decide +kernel
theorem d_M_reach_69 : decode c_M_reach 69 = .ok (.iload 5, 2) := by decide +kernel
theorem d_M_reach_71 : decode c_M_reach 71 = .ok (.ishl, 1) := by decide +kernel
theorem d_M_reach_72 : decode c_M_reach 72 = .ok (.ior, 1) := by decide +kernel
theorem d_M_reach_73 : decode c_M_reach 73 = .ok (.istore 4, 2) := by decide +kernel
theorem d_M_reach_75 : decode c_M_reach 75 = .ok (.iinc 5 1, 3) := by decide +kernel
theorem d_M_reach_78 : decode c_M_reach 78 = .ok (.goto (-35), 3) := by decide +kernel
theorem d_M_reach_81 : decode c_M_reach 81 = .ok (.aload_n 0, 1) := by decide +kernel
theorem d_M_reach_82 : decode c_M_reach 82 = .ok (.aload_n 0, 1) := by decide +kernel
theorem d_M_reach_83 : decode c_M_reach 83 = .ok (.invokevirtual 113, 3) := by decide +kernel
theorem d_M_reach_86 : decode c_M_reach 86 = .ok (.iload 4, 2) := by decide +kernel
theorem d_M_reach_88 : decode c_M_reach 88 = .ok (.iload_n 1, 1) := by decide +kernel
theorem d_M_reach_89 : decode c_M_reach 89 = .ok (.iconst 1, 1) := by decide +kernel
theorem d_M_reach_90 : decode c_M_reach 90 = .ok (.iload_n 2, 1) := by decide +kernel
theorem d_M_reach_91 : decode c_M_reach 91 = .ok (.ishl, 1) := by decide +kernel
theorem d_M_reach_92 : decode c_M_reach 92 = .ok (.invokevirtual 92, 3) := by decide +kernel
theorem d_M_reach_95 : decode c_M_reach 95 = .ok (.aload_n 0, 1) := by decide +kernel
theorem d_M_reach_96 : decode c_M_reach 96 = .ok (.getfield 83, 3) := by decide +kernel
theorem d_M_reach_99 : decode c_M_reach 99 = .ok (.aload_n 0, 1) := by decide +kernel
theorem d_M_reach_100 : decode c_M_reach 100 = .ok (.getfield 79, 3) := by decide +kernel
theorem d_M_reach_103 : decode c_M_reach 103 = .ok (.iload_n 3, 1) := by decide +kernel
theorem d_M_reach_104 : decode c_M_reach 104 = .ok (.invokestatic 109, 3) := by decide +kernel
theorem d_M_reach_107 : decode c_M_reach 107 = .ok (.lreturn, 1) := by decide +kernel
theorem d_M_all_0 : decode c_M_all 0 = .ok (.iconst 1, 1) := by decide +kernel
theorem d_M_all_1 : decode c_M_all 1 = .ok (.aload_n 0, 1) := by decide +kernel
theorem d_M_all_2 : decode c_M_all 2 = .ok (.getfield 48, 3) := by decide +kernel
theorem d_M_all_5 : decode c_M_all 5 = .ok (.ishl, 1) := by decide +kernel
theorem d_M_all_6 : decode c_M_all 6 = .ok (.iconst 1, 1) := by decide +kernel
theorem d_M_all_7 : decode c_M_all 7 = .ok (.isub, 1) := by decide +kernel
theorem d_M_all_8 : decode c_M_all 8 = .ok (.ireturn, 1) := by decide +kernel
theorem d_M_hit_0 : decode c_M_hit 0 = .ok (.aload_n 0, 1) := by decide +kernel
theorem d_M_hit_1 : decode c_M_hit 1 = .ok (.iload_n 1, 1) := by decide +kernel
theorem d_M_hit_2 : decode c_M_hit 2 = .ok (.invokevirtual 51, 3) := by decide +kernel
theorem d_M_hit_5 : decode c_M_hit 5 = .ok (.ifCond .eq 11, 3) := by decide +kernel
theorem d_M_hit_8 : decode c_M_hit 8 = .ok (.aload_n 0, 1) := by decide +kernel
theorem d_M_hit_9 : decode c_M_hit 9 = .ok (.iload_n 2, 1) := by decide +kernel
theorem d_M_hit_10 : decode c_M_hit 10 = .ok (.invokevirtual 51, 3) := by decide +kernel
theorem d_M_hit_13 : decode c_M_hit 13 = .ok (.ifCond .ne 7, 3) := by decide +kernel
theorem d_M_hit_16 : decode c_M_hit 16 = .ok (.ldc2_w 96, 3) := by decide +kernel
theorem d_M_hit_19 : decode c_M_hit 19 = .ok (.lreturn, 1) := by decide +kernel
theorem d_M_hit_20 : decode c_M_hit 20 = .ok (.iload_n 3, 1) := by decide +kernel
theorem d_M_hit_21 : decode c_M_hit 21 = .ok (.invokestatic 98, 3) := by decide +kernel
theorem d_M_hit_24 : decode c_M_hit 24 = .ok (.ifCond .ne 7, 3) := by decide +kernel
theorem d_M_hit_27 : decode c_M_hit 27 = .ok (.ldc2_w 101, 3) := by decide +kernel
theorem d_M_hit_30 : decode c_M_hit 30 = .ok (.lreturn, 1) := by decide +kernel
theorem d_M_hit_31 : decode c_M_hit 31 = .ok (.aload_n 0, 1) := by decide +kernel
theorem d_M_hit_32 : decode c_M_hit 32 = .ok (.invokevirtual 59, 3) := by decide +kernel
theorem d_M_hit_35 : decode c_M_hit 35 = .ok (.aload_n 0, 1) := by decide +kernel
theorem d_M_hit_36 : decode c_M_hit 36 = .ok (.iload_n 1, 1) := by decide +kernel
theorem d_M_hit_37 : decode c_M_hit 37 = .ok (.iload_n 2, 1) := by decide +kernel
theorem d_M_hit_38 : decode c_M_hit 38 = .ok (.invokevirtual 62, 3) := by decide +kernel
theorem d_M_hit_41 : decode c_M_hit 41 = .ok (.istore 4, 2) := by decide +kernel
theorem d_M_hit_43 : decode c_M_hit 43 = .ok (.iconst 1, 1) := by decide +kernel
theorem d_M_hit_44 : decode c_M_hit 44 = .ok (.istore 5, 2) := by decide +kernel
theorem d_M_hit_46 : decode c_M_hit 46 = .ok (.iconst 0, 1) := by decide +kernel
theorem d_M_hit_47 : decode c_M_hit 47 = .ok (.istore 6, 2) := by decide +kernel
theorem d_M_hit_49 : decode c_M_hit 49 = .ok (.iload 6, 2) := by decide +kernel
theorem d_M_hit_51 : decode c_M_hit 51 = .ok (.aload_n 0, 1) := by decide +kernel
theorem d_M_hit_52 : decode c_M_hit 52 = .ok (.getfield 48, 3) := by decide +kernel
theorem d_M_hit_55 : decode c_M_hit 55 = .ok (.if_icmp .ge 41, 3) := by decide +kernel
theorem d_M_hit_58 : decode c_M_hit 58 = .ok (.iload 5, 2) := by decide +kernel
theorem d_M_hit_60 : decode c_M_hit 60 = .ok (.ifCond .eq 27, 3) := by decide +kernel
theorem d_M_hit_63 : decode c_M_hit 63 = .ok (.iload 4, 2) := by decide +kernel
theorem d_M_hit_65 : decode c_M_hit 65 = .ok (.iload 6, 2) := by decide +kernel
theorem d_M_hit_67 : decode c_M_hit 67 = .ok (.ishr, 1) := by decide +kernel
theorem d_M_hit_68 : decode c_M_hit 68 = .ok (.iconst 1, 1) := by decide +kernel
theorem d_M_hit_69 : decode c_M_hit 69 = .ok (.iand, 1) := by decide +kernel
theorem d_M_hit_70 : decode c_M_hit 70 = .ok (.ifCond .eq 13, 3) := by decide +kernel
theorem d_M_hit_73 : decode c_M_hit 73 = .ok (.aload_n 0, 1) := by decide +kernel
theorem d_M_hit_74 : decode c_M_hit 74 = .ok (.iload 6, 2) := by decide +kernel
theorem d_M_hit_76 : decode c_M_hit 76 = .ok (.iload_n 2, 1) := by decide +kernel
theorem d_M_hit_77 : decode c_M_hit 77 = .ok (.invokevirtual 66, 3) := by decide +kernel
theorem d_M_hit_80 : decode c_M_hit 80 = .ok (.ifCond .eq 7, 3) := by decide +kernel
theorem d_M_hit_83 : decode c_M_hit 83 = .ok (.iconst 1, 1) := by decide +kernel
theorem d_M_hit_84 : decode c_M_hit 84 = .ok (.goto 4, 3) := by decide +kernel
theorem d_M_hit_87 : decode c_M_hit 87 = .ok (.iconst 0, 1) := by decide +kernel
theorem d_M_hit_88 : decode c_M_hit 88 = .ok (.istore 5, 2) := by decide +kernel
theorem d_M_hit_90 : decode c_M_hit 90 = .ok (.iinc 6 1, 3) := by decide +kernel
theorem d_M_hit_93 : decode c_M_hit 93 = .ok (.goto (-44), 3) := by decide +kernel
theorem d_M_hit_96 : decode c_M_hit 96 = .ok (.iload 5, 2) := by decide +kernel
theorem d_M_hit_98 : decode c_M_hit 98 = .ok (.ifCond .ne 7, 3) := by decide +kernel
theorem d_M_hit_101 : decode c_M_hit 101 = .ok (.ldc2_w 103, 3) := by decide +kernel
theorem d_M_hit_104 : decode c_M_hit 104 = .ok (.lreturn, 1) := by decide +kernel
theorem d_M_hit_105 : decode c_M_hit 105 = .ok (.iload_n 1, 1) := by decide +kernel
theorem d_M_hit_106 : decode c_M_hit 106 = .ok (.iload_n 2, 1) := by decide +kernel
theorem d_M_hit_107 : decode c_M_hit 107 = .ok (.if_icmp .ne 6, 3) := by decide +kernel
theorem d_M_hit_110 : decode c_M_hit 110 = .ok (.iload_n 3, 1) := by decide +kernel
theorem d_M_hit_111 : decode c_M_hit 111 = .ok (.i2l, 1) := by decide +kernel
theorem d_M_hit_112 : decode c_M_hit 112 = .ok (.lreturn, 1) := by decide +kernel
theorem d_M_hit_113 : decode c_M_hit 113 = .ok (.lconst 0, 1) := by decide +kernel
theorem d_M_hit_114 : decode c_M_hit 114 = .ok (.lstore 6, 2) := by decide +kernel
theorem d_M_hit_116 : decode c_M_hit 116 = .ok (.iconst 0, 1) := by decide +kernel
theorem d_M_hit_117 : decode c_M_hit 117 = .ok (.istore 8, 2) := by decide +kernel
theorem d_M_hit_119 : decode c_M_hit 119 = .ok (.iload 8, 2) := by decide +kernel
theorem d_M_hit_121 : decode c_M_hit 121 = .ok (.aload_n 0, 1) := by decide +kernel
theorem d_M_hit_122 : decode c_M_hit 122 = .ok (.getfield 48, 3) := by decide +kernel
theorem d_M_hit_125 : decode c_M_hit 125 = .ok (.if_icmp .ge 63, 3) := by decide +kernel
theorem d_M_hit_128 : decode c_M_hit 128 = .ok (.iload 4, 2) := by decide +kernel
theorem d_M_hit_130 : decode c_M_hit 130 = .ok (.iload 8, 2) := by decide +kernel
theorem d_M_hit_132 : decode c_M_hit 132 = .ok (.ishr, 1) := by decide +kernel
theorem d_M_hit_133 : decode c_M_hit 133 = .ok (.iconst 1, 1) := by decide +kernel
theorem d_M_hit_134 : decode c_M_hit 134 = .ok (.iand, 1) := by decide +kernel
theorem d_M_hit_135 : decode c_M_hit 135 = .ok (.iconst 1, 1) := by decide +kernel
theorem d_M_hit_136 : decode c_M_hit 136 = .ok (.if_icmp .ne 46, 3) := by decide +kernel
theorem d_M_hit_139 : decode c_M_hit 139 = .ok (.iload 8, 2) := by decide +kernel
theorem d_M_hit_141 : decode c_M_hit 141 = .ok (.iload_n 2, 1) := by decide +kernel
theorem d_M_hit_142 : decode c_M_hit 142 = .ok (.if_icmp .eq 40, 3) := by decide +kernel
theorem d_M_hit_145 : decode c_M_hit 145 = .ok (.aload_n 0, 1) := by decide +kernel
theorem d_M_hit_146 : decode c_M_hit 146 = .ok (.iload 4, 2) := by decide +kernel
theorem d_M_hit_148 : decode c_M_hit 148 = .ok (.iconst 1, 1) := by decide +kernel
theorem d_M_hit_149 : decode c_M_hit 149 = .ok (.iload_n 2, 1) := by decide +kernel
theorem d_M_hit_150 : decode c_M_hit 150 = .ok (.ishl, 1) := by decide +kernel
theorem d_M_hit_151 : decode c_M_hit 151 = .ok (.iconst 1, 1) := by decide +kernel
theorem d_M_hit_152 : decode c_M_hit 152 = .ok (.iload 8, 2) := by decide +kernel
theorem d_M_hit_154 : decode c_M_hit 154 = .ok (.ishl, 1) := by decide +kernel
theorem d_M_hit_155 : decode c_M_hit 155 = .ok (.ior, 1) := by decide +kernel
theorem d_M_hit_156 : decode c_M_hit 156 = .ok (.iload_n 1, 1) := by decide +kernel
theorem d_M_hit_157 : decode c_M_hit 157 = .ok (.iconst 1, 1) := by decide +kernel
theorem d_M_hit_158 : decode c_M_hit 158 = .ok (.iload 8, 2) := by decide +kernel
theorem d_M_hit_160 : decode c_M_hit 160 = .ok (.ishl, 1) := by decide +kernel
theorem d_M_hit_161 : decode c_M_hit 161 = .ok (.invokevirtual 92, 3) := by decide +kernel
theorem d_M_hit_164 : decode c_M_hit 164 = .ok (.lload 6, 2) := by decide +kernel
theorem d_M_hit_166 : decode c_M_hit 166 = .ok (.aload_n 0, 1) := by decide +kernel
theorem d_M_hit_167 : decode c_M_hit 167 = .ok (.getfield 83, 3) := by decide +kernel
theorem d_M_hit_170 : decode c_M_hit 170 = .ok (.aload_n 0, 1) := by decide +kernel
theorem d_M_hit_171 : decode c_M_hit 171 = .ok (.getfield 26, 3) := by decide +kernel
theorem d_M_hit_174 : decode c_M_hit 174 = .ok (.iload 8, 2) := by decide +kernel
theorem d_M_hit_176 : decode c_M_hit 176 = .ok (.iaload, 1) := by decide +kernel
theorem d_M_hit_177 : decode c_M_hit 177 = .ok (.i2l, 1) := by decide +kernel
theorem d_M_hit_178 : decode c_M_hit 178 = .ok (.lmul, 1) := by decide +kernel
theorem d_M_hit_179 : decode c_M_hit 179 = .ok (.ladd, 1) := by decide +kernel
theorem d_M_hit_180 : decode c_M_hit 180 = .ok (.lstore 6, 2) := by decide +kernel
theorem d_M_hit_182 : decode c_M_hit 182 = .ok (.iinc 8 1, 3) := by decide +kernel
theorem d_M_hit_185 : decode c_M_hit 185 = .ok (.goto (-66), 3) := by decide +kernel
theorem d_M_hit_188 : decode c_M_hit 188 = .ok (.aload_n 0, 1) := by decide +kernel
theorem d_M_hit_189 : decode c_M_hit 189 = .ok (.iload 4, 2) := by decide +kernel
theorem d_M_hit_191 : decode c_M_hit 191 = .ok (.iconst 1, 1) := by decide +kernel
theorem d_M_hit_192 : decode c_M_hit 192 = .ok (.iload_n 2, 1) := by decide +kernel
theorem d_M_hit_193 : decode c_M_hit 193 = .ok (.ishl, 1) := by decide +kernel
theorem d_M_hit_194 : decode c_M_hit 194 = .ok (.iload_n 1, 1) := by decide +kernel
theorem d_M_hit_195 : decode c_M_hit 195 = .ok (.iconst 1, 1) := by decide +kernel
theorem d_M_hit_196 : decode c_M_hit 196 = .ok (.iload_n 2, 1) := by decide +kernel
theorem d_M_hit_197 : decode c_M_hit 197 = .ok (.ishl, 1) := by decide +kernel
theorem d_M_hit_198 : decode c_M_hit 198 = .ok (.invokevirtual 92, 3) := by decide +kernel
theorem d_M_hit_201 : decode c_M_hit 201 = .ok (.lload 6, 2) := by decide +kernel
theorem d_M_hit_203 : decode c_M_hit 203 = .ok (.aload_n 0, 1) := by decide +kernel
theorem d_M_hit_204 : decode c_M_hit 204 = .ok (.getfield 79, 3) := by decide +kernel
theorem d_M_hit_207 : decode c_M_hit 207 = .ok (.iload_n 3, 1) := by decide +kernel
theorem d_M_hit_208 : decode c_M_hit 208 = .ok (.invokestatic 109, 3) := by decide +kernel
theorem d_M_hit_211 : decode c_M_hit 211 = .ok (.lreturn, 1) := by decide +kernel
theorem d_M_back_0 : decode c_M_back 0 = .ok (.aload_n 0, 1) := by decide +kernel
theorem d_M_back_1 : decode c_M_back 1 = .ok (.iload_n 1, 1) := by decide +kernel
theorem d_M_back_2 : decode c_M_back 2 = .ok (.invokevirtual 51, 3) := by decide +kernel
theorem d_M_back_5 : decode c_M_back 5 = .ok (.ifCond .ne 7, 3) := by decide +kernel
theorem d_M_back_8 : decode c_M_back 8 = .ok (.ldc2_w 96, 3) := by decide +kernel
theorem d_M_back_11 : decode c_M_back 11 = .ok (.lreturn, 1) := by decide +kernel
theorem d_M_back_12 : decode c_M_back 12 = .ok (.iload_n 2, 1) := by decide +kernel
theorem d_M_back_13 : decode c_M_back 13 = .ok (.invokestatic 98, 3) := by decide +kernel
theorem d_M_back_16 : decode c_M_back 16 = .ok (.ifCond .ne 7, 3) := by decide +kernel
theorem d_M_back_19 : decode c_M_back 19 = .ok (.ldc2_w 101, 3) := by decide +kernel
theorem d_M_back_22 : decode c_M_back 22 = .ok (.lreturn, 1) := by decide +kernel
theorem d_M_back_23 : decode c_M_back 23 = .ok (.aload_n 0, 1) := by decide +kernel
theorem d_M_back_24 : decode c_M_back 24 = .ok (.invokevirtual 76, 3) := by decide +kernel
theorem d_M_back_27 : decode c_M_back 27 = .ok (.aload_n 0, 1) := by decide +kernel
theorem d_M_back_28 : decode c_M_back 28 = .ok (.getfield 29, 3) := by decide +kernel
theorem d_M_back_31 : decode c_M_back 31 = .ok (.iload_n 1, 1) := by decide +kernel
theorem d_M_back_32 : decode c_M_back 32 = .ok (.iaload, 1) := by decide +kernel
theorem d_M_back_33 : decode c_M_back 33 = .ok (.ifCond .ge 7, 3) := by decide +kernel
theorem d_M_back_36 : decode c_M_back 36 = .ok (.ldc2_w 103, 3) := by decide +kernel
theorem d_M_back_39 : decode c_M_back 39 = .ok (.lreturn, 1) := by decide +kernel
theorem d_M_back_40 : decode c_M_back 40 = .ok (.aload_n 0, 1) := by decide +kernel
theorem d_M_back_41 : decode c_M_back 41 = .ok (.aload_n 0, 1) := by decide +kernel
theorem d_M_back_42 : decode c_M_back 42 = .ok (.getfield 32, 3) := by decide +kernel
theorem d_M_back_45 : decode c_M_back 45 = .ok (.aload_n 0, 1) := by decide +kernel
theorem d_M_back_46 : decode c_M_back 46 = .ok (.getfield 29, 3) := by decide +kernel
theorem d_M_back_49 : decode c_M_back 49 = .ok (.iload_n 1, 1) := by decide +kernel
theorem d_M_back_50 : decode c_M_back 50 = .ok (.iaload, 1) := by decide +kernel
theorem d_M_back_51 : decode c_M_back 51 = .ok (.iaload, 1) := by decide +kernel
theorem d_M_back_52 : decode c_M_back 52 = .ok (.invokevirtual 105, 3) := by decide +kernel
theorem d_M_back_55 : decode c_M_back 55 = .ok (.aload_n 0, 1) := by decide +kernel
theorem d_M_back_56 : decode c_M_back 56 = .ok (.getfield 89, 3) := by decide +kernel
theorem d_M_back_59 : decode c_M_back 59 = .ok (.aload_n 0, 1) := by decide +kernel
theorem d_M_back_60 : decode c_M_back 60 = .ok (.getfield 38, 3) := by decide +kernel
theorem d_M_back_63 : decode c_M_back 63 = .ok (.iload_n 1, 1) := by decide +kernel
theorem d_M_back_64 : decode c_M_back 64 = .ok (.laload, 1) := by decide +kernel
theorem d_M_back_65 : decode c_M_back 65 = .ok (.iload_n 2, 1) := by decide +kernel
theorem d_M_back_66 : decode c_M_back 66 = .ok (.invokestatic 109, 3) := by decide +kernel
theorem d_M_back_69 : decode c_M_back 69 = .ok (.lreturn, 1) := by decide +kernel
theorem d_M_end_0 : decode c_M_end 0 = .ok (.aload_n 0, 1) := by decide +kernel
theorem d_M_end_1 : decode c_M_end 1 = .ok (.invokevirtual 76, 3) := by decide +kernel
theorem d_M_end_4 : decode c_M_end 4 = .ok (.aload_n 0, 1) := by decide +kernel
theorem d_M_end_5 : decode c_M_end 5 = .ok (.iload_n 1, 1) := by decide +kernel
theorem d_M_end_6 : decode c_M_end 6 = .ok (.invokevirtual 51, 3) := by decide +kernel
theorem d_M_end_9 : decode c_M_end 9 = .ok (.ifCond .eq 15, 3) := by decide +kernel
theorem d_M_end_12 : decode c_M_end 12 = .ok (.iload_n 2, 1) := by decide +kernel
theorem d_M_end_13 : decode c_M_end 13 = .ok (.ifCond .lt 11, 3) := by decide +kernel
theorem d_M_end_16 : decode c_M_end 16 = .ok (.iload_n 2, 1) := by decide +kernel
theorem d_M_end_17 : decode c_M_end 17 = .ok (.aload_n 0, 1) := by decide +kernel
theorem d_M_end_18 : decode c_M_end 18 = .ok (.getfield 70, 3) := by decide +kernel
theorem d_M_end_21 : decode c_M_end 21 = .ok (.if_icmp .lt 7, 3) := by decide +kernel
theorem d_M_end_24 : decode c_M_end 24 = .ok (.ldc2_w 96, 3) := by decide +kernel
theorem d_M_end_27 : decode c_M_end 27 = .ok (.lreturn, 1) := by decide +kernel
theorem d_M_end_28 : decode c_M_end 28 = .ok (.iload_n 3, 1) := by decide +kernel
theorem d_M_end_29 : decode c_M_end 29 = .ok (.invokestatic 98, 3) := by decide +kernel
theorem d_M_end_32 : decode c_M_end 32 = .ok (.ifCond .ne 7, 3) := by decide +kernel
theorem d_M_end_35 : decode c_M_end 35 = .ok (.ldc2_w 101, 3) := by decide +kernel
theorem d_M_end_38 : decode c_M_end 38 = .ok (.lreturn, 1) := by decide +kernel
theorem d_M_end_39 : decode c_M_end 39 = .ok (.iconst 0, 1) := by decide +kernel
theorem d_M_end_40 : decode c_M_end 40 = .ok (.istore 4, 2) := by decide +kernel
theorem d_M_end_42 : decode c_M_end 42 = .ok (.iconst 0, 1) := by decide +kernel
theorem d_M_end_43 : decode c_M_end 43 = .ok (.istore 5, 2) := by decide +kernel
theorem d_M_end_45 : decode c_M_end 45 = .ok (.iload 5, 2) := by decide +kernel
theorem d_M_end_47 : decode c_M_end 47 = .ok (.aload_n 0, 1) := by decide +kernel
theorem d_M_end_48 : decode c_M_end 48 = .ok (.getfield 70, 3) := by decide +kernel
theorem d_M_end_51 : decode c_M_end 51 = .ok (.if_icmp .ge 21, 3) := by decide +kernel
theorem d_M_end_54 : decode c_M_end 54 = .ok (.iload 4, 2) := by decide +kernel
theorem d_M_end_56 : decode c_M_end 56 = .ok (.aload_n 0, 1) := by decide +kernel
theorem d_M_end_57 : decode c_M_end 57 = .ok (.getfield 32, 3) := by decide +kernel
theorem d_M_end_60 : decode c_M_end 60 = .ok (.iload 5, 2) := by decide +kernel
theorem d_M_end_62 : decode c_M_end 62 = .ok (.iaload, 1) := by decide +kernel
theorem d_M_end_63 : decode c_M_end 63 = .ok (.ior, 1) := by decide +kernel
theorem d_M_end_64 : decode c_M_end 64 = .ok (.istore 4, 2) := by decide +kernel
theorem d_M_end_66 : decode c_M_end 66 = .ok (.iinc 5 1, 3) := by decide +kernel
theorem d_M_end_69 : decode c_M_end 69 = .ok (.goto (-24), 3) := by decide +kernel
theorem d_M_end_72 : decode c_M_end 72 = .ok (.aload_n 0, 1) := by decide +kernel
theorem d_M_end_73 : decode c_M_end 73 = .ok (.aload_n 0, 1) := by decide +kernel
theorem d_M_end_74 : decode c_M_end 74 = .ok (.invokevirtual 113, 3) := by decide +kernel
theorem d_M_end_77 : decode c_M_end 77 = .ok (.iload 4, 2) := by decide +kernel
theorem d_M_end_79 : decode c_M_end 79 = .ok (.iload_n 1, 1) := by decide +kernel
theorem d_M_end_80 : decode c_M_end 80 = .ok (.aload_n 0, 1) := by decide +kernel
theorem d_M_end_81 : decode c_M_end 81 = .ok (.getfield 32, 3) := by decide +kernel
theorem d_M_end_84 : decode c_M_end 84 = .ok (.iload_n 2, 1) := by decide +kernel
theorem d_M_end_85 : decode c_M_end 85 = .ok (.iaload, 1) := by decide +kernel
theorem d_M_end_86 : decode c_M_end 86 = .ok (.invokevirtual 92, 3) := by decide +kernel
theorem d_M_end_89 : decode c_M_end 89 = .ok (.aload_n 0, 1) := by decide +kernel
theorem d_M_end_90 : decode c_M_end 90 = .ok (.getfield 83, 3) := by decide +kernel
theorem d_M_end_93 : decode c_M_end 93 = .ok (.aload_n 0, 1) := by decide +kernel
theorem d_M_end_94 : decode c_M_end 94 = .ok (.getfield 79, 3) := by decide +kernel
theorem d_M_end_97 : decode c_M_end 97 = .ok (.iload_n 3, 1) := by decide +kernel
theorem d_M_end_98 : decode c_M_end 98 = .ok (.invokestatic 109, 3) := by decide +kernel
theorem d_M_end_101 : decode c_M_end 101 = .ok (.lreturn, 1) := by decide +kernel
theorem d_M_after_0 : decode c_M_after 0 = .ok (.aload_n 0, 1) := by decide +kernel
theorem d_M_after_1 : decode c_M_after 1 = .ok (.iload_n 1, 1) := by decide +kernel
theorem d_M_after_2 : decode c_M_after 2 = .ok (.invokevirtual 51, 3) := by decide +kernel
theorem d_M_after_5 : decode c_M_after 5 = .ok (.ifCond .eq 11, 3) := by decide +kernel
theorem d_M_after_8 : decode c_M_after 8 = .ok (.aload_n 0, 1) := by decide +kernel
theorem d_M_after_9 : decode c_M_after 9 = .ok (.iload_n 2, 1) := by decide +kernel
theorem d_M_after_10 : decode c_M_after 10 = .ok (.invokevirtual 51, 3) := by decide +kernel
theorem d_M_after_13 : decode c_M_after 13 = .ok (.ifCond .ne 7, 3) := by decide +kernel
theorem d_M_after_16 : decode c_M_after 16 = .ok (.ldc2_w 96, 3) := by decide +kernel
theorem d_M_after_19 : decode c_M_after 19 = .ok (.lreturn, 1) := by decide +kernel
theorem d_M_after_20 : decode c_M_after 20 = .ok (.iload_n 3, 1) := by decide +kernel
theorem d_M_after_21 : decode c_M_after 21 = .ok (.ifCond .lt 16, 3) := by decide +kernel
theorem d_M_after_24 : decode c_M_after 24 = .ok (.iload_n 3, 1) := by decide +kernel
theorem d_M_after_25 : decode c_M_after 25 = .ok (.iconst 3, 1) := by decide +kernel
theorem d_M_after_26 : decode c_M_after 26 = .ok (.if_icmp .gt 11, 3) := by decide +kernel
theorem d_M_after_29 : decode c_M_after 29 = .ok (.iload 4, 2) := by decide +kernel
theorem d_M_after_31 : decode c_M_after 31 = .ok (.invokestatic 98, 3) := by decide +kernel
theorem d_M_after_34 : decode c_M_after 34 = .ok (.ifCond .ne 7, 3) := by decide +kernel
theorem d_M_after_37 : decode c_M_after 37 = .ok (.ldc2_w 101, 3) := by decide +kernel
theorem d_M_after_40 : decode c_M_after 40 = .ok (.lreturn, 1) := by decide +kernel
theorem d_M_after_41 : decode c_M_after 41 = .ok (.aload_n 0, 1) := by decide +kernel
theorem d_M_after_42 : decode c_M_after 42 = .ok (.invokevirtual 59, 3) := by decide +kernel
theorem d_M_after_45 : decode c_M_after 45 = .ok (.lconst 1, 1) := by decide +kernel
theorem d_M_after_46 : decode c_M_after 46 = .ok (.lstore 5, 2) := by decide +kernel
theorem d_M_after_48 : decode c_M_after 48 = .ok (.iconst 0, 1) := by decide +kernel
theorem d_M_after_49 : decode c_M_after 49 = .ok (.istore 7, 2) := by decide +kernel
theorem d_M_after_51 : decode c_M_after 51 = .ok (.iload 7, 2) := by decide +kernel
theorem d_M_after_53 : decode c_M_after 53 = .ok (.aload_n 0, 1) := by decide +kernel
theorem d_M_after_54 : decode c_M_after 54 = .ok (.getfield 48, 3) := by decide +kernel
theorem d_M_after_57 : decode c_M_after 57 = .ok (.if_icmp .ge 54, 3) := by decide +kernel
theorem d_M_after_60 : decode c_M_after 60 = .ok (.lload 5, 2) := by decide +kernel
theorem d_M_after_62 : decode c_M_after 62 = .ok (.lload 5, 2) := by decide +kernel
theorem d_M_after_64 : decode c_M_after 64 = .ok (.aload_n 0, 1) := by decide +kernel
theorem d_M_after_65 : decode c_M_after 65 = .ok (.getfield 26, 3) := by decide +kernel
theorem d_M_after_68 : decode c_M_after 68 = .ok (.iload 7, 2) := by decide +kernel
theorem d_M_after_70 : decode c_M_after 70 = .ok (.iaload, 1) := by decide +kernel
theorem d_M_after_71 : decode c_M_after 71 = .ok (.i2l, 1) := by decide +kernel
theorem d_M_after_72 : decode c_M_after 72 = .ok (.invokestatic 55, 3) := by decide +kernel
theorem d_M_after_75 : decode c_M_after 75 = .ok (.ldiv, 1) := by decide +kernel
theorem d_M_after_76 : decode c_M_after 76 = .ok (.aload_n 0, 1) := by decide +kernel
theorem d_M_after_77 : decode c_M_after 77 = .ok (.getfield 26, 3) := by decide +kernel
theorem d_M_after_80 : decode c_M_after 80 = .ok (.iload 7, 2) := by decide +kernel
theorem d_M_after_82 : decode c_M_after 82 = .ok (.iaload, 1) := by decide +kernel
theorem d_M_after_83 : decode c_M_after 83 = .ok (.i2l, 1) := by decide +kernel
theorem d_M_after_84 : decode c_M_after 84 = .ok (.lmul, 1) := by decide +kernel
theorem d_M_after_85 : decode c_M_after 85 = .ok (.lstore 5, 2) := by decide +kernel
theorem d_M_after_87 : decode c_M_after 87 = .ok (.aload_n 0, 1) := by decide +kernel
theorem d_M_after_88 : decode c_M_after 88 = .ok (.getfield 42, 3) := by decide +kernel
theorem d_M_after_91 : decode c_M_after 91 = .ok (.iload 7, 2) := by decide +kernel
theorem d_M_after_93 : decode c_M_after 93 = .ok (.iload 7, 2) := by decide +kernel
theorem d_M_after_95 : decode c_M_after 95 = .ok (.iload_n 1, 1) := by decide +kernel
theorem d_M_after_96 : decode c_M_after 96 = .ok (.if_icmp .ne 7, 3) := by decide +kernel
theorem d_M_after_99 : decode c_M_after 99 = .ok (.lconst 1, 1) := by decide +kernel
theorem d_M_after_100 : decode c_M_after 100 = .ok (.goto 4, 3) := by decide +kernel
theorem d_M_after_103 : decode c_M_after 103 = .ok (.lconst 0, 1) := by decide +kernel
theorem d_M_after_104 : decode c_M_after 104 = .ok (.lastore, 1) := by decide +kernel
theorem d_M_after_105 : decode c_M_after 105 = .ok (.iinc 7 1, 3) := by decide +kernel
theorem d_M_after_108 : decode c_M_after 108 = .ok (.goto (-57), 3) := by decide +kernel
theorem d_M_after_111 : decode c_M_after 111 = .ok (.lconst 1, 1) := by decide +kernel
theorem d_M_after_112 : decode c_M_after 112 = .ok (.lstore 7, 2) := by decide +kernel
theorem d_M_after_114 : decode c_M_after 114 = .ok (.iconst 0, 1) := by decide +kernel
theorem d_M_after_115 : decode c_M_after 115 = .ok (.istore 9, 2) := by decide +kernel
theorem d_M_after_117 : decode c_M_after 117 = .ok (.iload 9, 2) := by decide +kernel
theorem d_M_after_119 : decode c_M_after 119 = .ok (.iload_n 3, 1) := by decide +kernel
theorem d_M_after_120 : decode c_M_after 120 = .ok (.if_icmp .ge 135, 3) := by decide +kernel
theorem d_M_after_123 : decode c_M_after 123 = .ok (.lload 7, 2) := by decide +kernel
theorem d_M_after_125 : decode c_M_after 125 = .ok (.lload 5, 2) := by decide +kernel
theorem d_M_after_127 : decode c_M_after 127 = .ok (.lmul, 1) := by decide +kernel
theorem d_M_after_128 : decode c_M_after 128 = .ok (.lstore 7, 2) := by decide +kernel
theorem d_M_after_130 : decode c_M_after 130 = .ok (.iconst 0, 1) := by decide +kernel
theorem d_M_after_131 : decode c_M_after 131 = .ok (.istore 10, 2) := by decide +kernel
theorem d_M_after_133 : decode c_M_after 133 = .ok (.iload 10, 2) := by decide +kernel
theorem d_M_after_135 : decode c_M_after 135 = .ok (.aload_n 0, 1) := by decide +kernel
theorem d_M_after_136 : decode c_M_after 136 = .ok (.getfield 48, 3) := by decide +kernel
theorem d_M_after_139 : decode c_M_after 139 = .ok (.if_icmp .ge 78, 3) := by decide +kernel
theorem d_M_after_142 : decode c_M_after 142 = .ok (.aload_n 0, 1) := by decide +kernel
theorem d_M_after_143 : decode c_M_after 143 = .ok (.getfield 45, 3) := by decide +kernel
theorem d_M_after_146 : decode c_M_after 146 = .ok (.iload 10, 2) := by decide +kernel
theorem d_M_after_148 : decode c_M_after 148 = .ok (.lconst 0, 1) := by decide +kernel
theorem d_M_after_149 : decode c_M_after 149 = .ok (.lastore, 1) := by decide +kernel
theorem d_M_after_150 : decode c_M_after 150 = .ok (.iconst 0, 1) := by decide +kernel
theorem d_M_after_151 : decode c_M_after 151 = .ok (.istore 11, 2) := by decide +kernel
theorem d_M_after_153 : decode c_M_after 153 = .ok (.iload 11, 2) := by decide +kernel
theorem d_M_after_155 : decode c_M_after 155 = .ok (.aload_n 0, 1) := by decide +kernel
theorem d_M_after_156 : decode c_M_after 156 = .ok (.getfield 48, 3) := by decide +kernel
theorem d_M_after_159 : decode c_M_after 159 = .ok (.if_icmp .ge 52, 3) := by decide +kernel
theorem d_M_after_162 : decode c_M_after 162 = .ok (.aload_n 0, 1) := by decide +kernel
theorem d_M_after_163 : decode c_M_after 163 = .ok (.getfield 45, 3) := by decide +kernel
theorem d_M_after_166 : decode c_M_after 166 = .ok (.iload 10, 2) := by decide +kernel
theorem d_M_after_168 : decode c_M_after 168 = .ok (.dup2, 1) := by decide +kernel
theorem d_M_after_169 : decode c_M_after 169 = .ok (.laload, 1) := by decide +kernel
theorem d_M_after_170 : decode c_M_after 170 = .ok (.aload_n 0, 1) := by decide +kernel
theorem d_M_after_171 : decode c_M_after 171 = .ok (.getfield 42, 3) := by decide +kernel
theorem d_M_after_174 : decode c_M_after 174 = .ok (.iload 11, 2) := by decide +kernel
theorem d_M_after_176 : decode c_M_after 176 = .ok (.laload, 1) := by decide +kernel
theorem d_M_after_177 : decode c_M_after 177 = .ok (.lload 5, 2) := by decide +kernel
theorem d_M_after_179 : decode c_M_after 179 = .ok (.aload_n 0, 1) := by decide +kernel
theorem d_M_after_180 : decode c_M_after 180 = .ok (.getfield 26, 3) := by decide +kernel
theorem d_M_after_183 : decode c_M_after 183 = .ok (.iload 11, 2) := by decide +kernel
theorem d_M_after_185 : decode c_M_after 185 = .ok (.iaload, 1) := by decide +kernel
theorem d_M_after_186 : decode c_M_after 186 = .ok (.i2l, 1) := by decide +kernel
theorem d_M_after_187 : decode c_M_after 187 = .ok (.ldiv, 1) := by decide +kernel
theorem d_M_after_188 : decode c_M_after 188 = .ok (.lmul, 1) := by decide +kernel
theorem d_M_after_189 : decode c_M_after 189 = .ok (.aload_n 0, 1) := by decide +kernel
theorem d_M_after_190 : decode c_M_after 190 = .ok (.getfield 23, 3) := by decide +kernel
theorem d_M_after_193 : decode c_M_after 193 = .ok (.iconst 5, 1) := by decide +kernel
theorem d_M_after_194 : decode c_M_after 194 = .ok (.iload 11, 2) := by decide +kernel
theorem d_M_after_196 : decode c_M_after 196 = .ok (.imul, 1) := by decide +kernel
theorem d_M_after_197 : decode c_M_after 197 = .ok (.iload 10, 2) := by decide +kernel
theorem d_M_after_199 : decode c_M_after 199 = .ok (.iadd, 1) := by decide +kernel
theorem d_M_after_200 : decode c_M_after 200 = .ok (.iaload, 1) := by decide +kernel
theorem d_M_after_201 : decode c_M_after 201 = .ok (.i2l, 1) := by decide +kernel
theorem d_M_after_202 : decode c_M_after 202 = .ok (.lmul, 1) := by decide +kernel
theorem d_M_after_203 : decode c_M_after 203 = .ok (.ladd, 1) := by decide +kernel
theorem d_M_after_204 : decode c_M_after 204 = .ok (.lastore, 1) := by decide +kernel
theorem d_M_after_205 : decode c_M_after 205 = .ok (.iinc 11 1, 3) := by decide +kernel
theorem d_M_after_208 : decode c_M_after 208 = .ok (.goto (-55), 3) := by decide +kernel
theorem d_M_after_211 : decode c_M_after 211 = .ok (.iinc 10 1, 3) := by decide +kernel
theorem d_M_after_214 : decode c_M_after 214 = .ok (.goto (-81), 3) := by decide +kernel
theorem d_M_after_217 : decode c_M_after 217 = .ok (.iconst 0, 1) := by decide +kernel
theorem d_M_after_218 : decode c_M_after 218 = .ok (.istore 10, 2) := by decide +kernel
theorem d_M_after_220 : decode c_M_after 220 = .ok (.iload 10, 2) := by decide +kernel
theorem d_M_after_222 : decode c_M_after 222 = .ok (.aload_n 0, 1) := by decide +kernel
theorem d_M_after_223 : decode c_M_after 223 = .ok (.getfield 48, 3) := by decide +kernel
theorem d_M_after_226 : decode c_M_after 226 = .ok (.if_icmp .ge 23, 3) := by decide +kernel
theorem d_M_after_229 : decode c_M_after 229 = .ok (.aload_n 0, 1) := by decide +kernel
theorem d_M_after_230 : decode c_M_after 230 = .ok (.getfield 42, 3) := by decide +kernel
theorem d_M_after_233 : decode c_M_after 233 = .ok (.iload 10, 2) := by decide +kernel
theorem d_M_after_235 : decode c_M_after 235 = .ok (.aload_n 0, 1) := by decide +kernel
theorem d_M_after_236 : decode c_M_after 236 = .ok (.getfield 45, 3) := by decide +kernel
theorem d_M_after_239 : decode c_M_after 239 = .ok (.iload 10, 2) := by decide +kernel
theorem d_M_after_241 : decode c_M_after 241 = .ok (.laload, 1) := by decide +kernel
theorem d_M_after_242 : decode c_M_after 242 = .ok (.lastore, 1) := by decide +kernel
theorem d_M_after_243 : decode c_M_after 243 = .ok (.iinc 10 1, 3) := by decide +kernel
theorem d_M_after_246 : decode c_M_after 246 = .ok (.goto (-26), 3) := by decide +kernel
theorem d_M_after_249 : decode c_M_after 249 = .ok (.iinc 9 1, 3) := by decide +kernel
theorem d_M_after_252 : decode c_M_after 252 = .ok (.goto (-135), 3) := by decide +kernel
theorem d_M_after_255 : decode c_M_after 255 = .ok (.aload_n 0, 1) := by decide +kernel
theorem d_M_after_256 : decode c_M_after 256 = .ok (.getfield 42, 3) := by decide +kernel
theorem d_M_after_259 : decode c_M_after 259 = .ok (.iload_n 2, 1) := by decide +kernel
theorem d_M_after_260 : decode c_M_after 260 = .ok (.laload, 1) := by decide +kernel
theorem d_M_after_261 : decode c_M_after 261 = .ok (.lload 7, 2) := by decide +kernel
theorem d_M_after_263 : decode c_M_after 263 = .ok (.iload 4, 2) := by decide +kernel
theorem d_M_after_265 : decode c_M_after 265 = .ok (.invokestatic 109, 3) := by decide +kernel
theorem d_M_after_268 : decode c_M_after 268 = .ok (.lreturn, 1) := by decide +kernel
theorem d_M_walks_0 : decode c_M_walks 0 = .ok (.aload_n 0, 1) := by decide +kernel
theorem d_M_walks_1 : decode c_M_walks 1 = .ok (.iload_n 1, 1) := by decide +kernel
theorem d_M_walks_2 : decode c_M_walks 2 = .ok (.invokevirtual 51, 3) := by decide +kernel
theorem d_M_walks_5 : decode c_M_walks 5 = .ok (.ifCond .eq 11, 3) := by decide +kernel
theorem d_M_walks_8 : decode c_M_walks 8 = .ok (.aload_n 0, 1) := by decide +kernel
theorem d_M_walks_9 : decode c_M_walks 9 = .ok (.iload_n 2, 1) := by decide +kernel
theorem d_M_walks_10 : decode c_M_walks 10 = .ok (.invokevirtual 51, 3) := by decide +kernel
theorem d_M_walks_13 : decode c_M_walks 13 = .ok (.ifCond .ne 7, 3) := by decide +kernel
theorem d_M_walks_16 : decode c_M_walks 16 = .ok (.ldc2_w 96, 3) := by decide +kernel
theorem d_M_walks_19 : decode c_M_walks 19 = .ok (.lreturn, 1) := by decide +kernel
theorem d_M_walks_20 : decode c_M_walks 20 = .ok (.iload_n 3, 1) := by decide +kernel
theorem d_M_walks_21 : decode c_M_walks 21 = .ok (.ifCond .lt 9, 3) := by decide +kernel
theorem d_M_walks_24 : decode c_M_walks 24 = .ok (.iload_n 3, 1) := by decide +kernel
theorem d_M_walks_25 : decode c_M_walks 25 = .ok (.bipush 12, 2) := by decide +kernel
theorem d_M_walks_27 : decode c_M_walks 27 = .ok (.if_icmp .le 7, 3) := by decide +kernel
theorem d_M_walks_30 : decode c_M_walks 30 = .ok (.ldc2_w 101, 3) := by decide +kernel
theorem d_M_walks_33 : decode c_M_walks 33 = .ok (.lreturn, 1) := by decide +kernel
theorem d_M_walks_34 : decode c_M_walks 34 = .ok (.iconst 0, 1) := by decide +kernel
theorem d_M_walks_35 : decode c_M_walks 35 = .ok (.istore 4, 2) := by decide +kernel
theorem d_M_walks_37 : decode c_M_walks 37 = .ok (.iload 4, 2) := by decide +kernel
theorem d_M_walks_39 : decode c_M_walks 39 = .ok (.aload_n 0, 1) := by decide +kernel
theorem d_M_walks_40 : decode c_M_walks 40 = .ok (.getfield 48, 3) := by decide +kernel
theorem d_M_walks_43 : decode c_M_walks 43 = .ok (.if_icmp .ge 27, 3) := by decide +kernel
theorem d_M_walks_46 : decode c_M_walks 46 = .ok (.aload_n 0, 1) := by decide +kernel
theorem d_M_walks_47 : decode c_M_walks 47 = .ok (.getfield 42, 3) := by decide +kernel
theorem d_M_walks_50 : decode c_M_walks 50 = .ok (.iload 4, 2) := by decide +kernel
theorem d_M_walks_52 : decode c_M_walks 52 = .ok (.iload 4, 2) := by decide +kernel
theorem d_M_walks_54 : decode c_M_walks 54 = .ok (.iload_n 1, 1) := by decide +kernel
theorem d_M_walks_55 : decode c_M_walks 55 = .ok (.if_icmp .ne 7, 3) := by decide +kernel
theorem d_M_walks_58 : decode c_M_walks 58 = .ok (.lconst 1, 1) := by decide +kernel
theorem d_M_walks_59 : decode c_M_walks 59 = .ok (.goto 4, 3) := by decide +kernel
theorem d_M_walks_62 : decode c_M_walks 62 = .ok (.lconst 0, 1) := by decide +kernel
theorem d_M_walks_63 : decode c_M_walks 63 = .ok (.lastore, 1) := by decide +kernel
theorem d_M_walks_64 : decode c_M_walks 64 = .ok (.iinc 4 1, 3) := by decide +kernel
theorem d_M_walks_67 : decode c_M_walks 67 = .ok (.goto (-30), 3) := by decide +kernel
theorem d_M_walks_70 : decode c_M_walks 70 = .ok (.iconst 0, 1) := by decide +kernel
theorem d_M_walks_71 : decode c_M_walks 71 = .ok (.istore 4, 2) := by decide +kernel
theorem d_M_walks_73 : decode c_M_walks 73 = .ok (.iload 4, 2) := by decide +kernel
theorem d_M_walks_75 : decode c_M_walks 75 = .ok (.iload_n 3, 1) := by decide +kernel
theorem d_M_walks_76 : decode c_M_walks 76 = .ok (.if_icmp .ge 116, 3) := by decide +kernel
theorem d_M_walks_79 : decode c_M_walks 79 = .ok (.iconst 0, 1) := by decide +kernel
theorem d_M_walks_80 : decode c_M_walks 80 = .ok (.istore 5, 2) := by decide +kernel
theorem d_M_walks_82 : decode c_M_walks 82 = .ok (.iload 5, 2) := by decide +kernel
theorem d_M_walks_84 : decode c_M_walks 84 = .ok (.aload_n 0, 1) := by decide +kernel
theorem d_M_walks_85 : decode c_M_walks 85 = .ok (.getfield 48, 3) := by decide +kernel
theorem d_M_walks_88 : decode c_M_walks 88 = .ok (.if_icmp .ge 66, 3) := by decide +kernel
theorem d_M_walks_91 : decode c_M_walks 91 = .ok (.aload_n 0, 1) := by decide +kernel
theorem d_M_walks_92 : decode c_M_walks 92 = .ok (.getfield 45, 3) := by decide +kernel
theorem d_M_walks_95 : decode c_M_walks 95 = .ok (.iload 5, 2) := by decide +kernel
theorem d_M_walks_97 : decode c_M_walks 97 = .ok (.lconst 0, 1) := by decide +kernel
theorem d_M_walks_98 : decode c_M_walks 98 = .ok (.lastore, 1) := by decide +kernel
theorem d_M_walks_99 : decode c_M_walks 99 = .ok (.iconst 0, 1) := by decide +kernel
theorem d_M_walks_100 : decode c_M_walks 100 = .ok (.istore 6, 2) := by decide +kernel
theorem d_M_walks_102 : decode c_M_walks 102 = .ok (.iload 6, 2) := by decide +kernel
theorem d_M_walks_104 : decode c_M_walks 104 = .ok (.aload_n 0, 1) := by decide +kernel
theorem d_M_walks_105 : decode c_M_walks 105 = .ok (.getfield 48, 3) := by decide +kernel
theorem d_M_walks_108 : decode c_M_walks 108 = .ok (.if_icmp .ge 40, 3) := by decide +kernel
theorem d_M_walks_111 : decode c_M_walks 111 = .ok (.aload_n 0, 1) := by decide +kernel
theorem d_M_walks_112 : decode c_M_walks 112 = .ok (.getfield 45, 3) := by decide +kernel
theorem d_M_walks_115 : decode c_M_walks 115 = .ok (.iload 5, 2) := by decide +kernel
theorem d_M_walks_117 : decode c_M_walks 117 = .ok (.dup2, 1) := by decide +kernel
theorem d_M_walks_118 : decode c_M_walks 118 = .ok (.laload, 1) := by decide +kernel
theorem d_M_walks_119 : decode c_M_walks 119 = .ok (.aload_n 0, 1) := by decide +kernel
theorem d_M_walks_120 : decode c_M_walks 120 = .ok (.getfield 42, 3) := by decide +kernel
theorem d_M_walks_123 : decode c_M_walks 123 = .ok (.iload 6, 2) := by decide +kernel
theorem d_M_walks_125 : decode c_M_walks 125 = .ok (.laload, 1) := by decide +kernel
theorem d_M_walks_126 : decode c_M_walks 126 = .ok (.aload_n 0, 1) := by decide +kernel
theorem d_M_walks_127 : decode c_M_walks 127 = .ok (.getfield 7, 3) := by decide +kernel
theorem d_M_walks_130 : decode c_M_walks 130 = .ok (.iconst 5, 1) := by decide +kernel
theorem d_M_walks_131 : decode c_M_walks 131 = .ok (.iload 6, 2) := by decide +kernel
theorem d_M_walks_133 : decode c_M_walks 133 = .ok (.imul, 1) := by decide +kernel
theorem d_M_walks_134 : decode c_M_walks 134 = .ok (.iload 5, 2) := by decide +kernel
theorem d_M_walks_136 : decode c_M_walks 136 = .ok (.iadd, 1) := by decide +kernel
theorem d_M_walks_137 : decode c_M_walks 137 = .ok (.iaload, 1) := by decide +kernel
theorem d_M_walks_138 : decode c_M_walks 138 = .ok (.i2l, 1) := by decide +kernel
theorem d_M_walks_139 : decode c_M_walks 139 = .ok (.lmul, 1) := by decide +kernel
theorem d_M_walks_140 : decode c_M_walks 140 = .ok (.ladd, 1) := by decide +kernel
theorem d_M_walks_141 : decode c_M_walks 141 = .ok (.lastore, 1) := by decide +kernel
theorem d_M_walks_142 : decode c_M_walks 142 = .ok (.iinc 6 1, 3) := by decide +kernel
theorem d_M_walks_145 : decode c_M_walks 145 = .ok (.goto (-43), 3) := by decide +kernel
theorem d_M_walks_148 : decode c_M_walks 148 = .ok (.iinc 5 1, 3) := by decide +kernel
theorem d_M_walks_151 : decode c_M_walks 151 = .ok (.goto (-69), 3) := by decide +kernel
theorem d_M_walks_154 : decode c_M_walks 154 = .ok (.iconst 0, 1) := by decide +kernel
theorem d_M_walks_155 : decode c_M_walks 155 = .ok (.istore 5, 2) := by decide +kernel
theorem d_M_walks_157 : decode c_M_walks 157 = .ok (.iload 5, 2) := by decide +kernel
theorem d_M_walks_159 : decode c_M_walks 159 = .ok (.aload_n 0, 1) := by decide +kernel
theorem d_M_walks_160 : decode c_M_walks 160 = .ok (.getfield 48, 3) := by decide +kernel
theorem d_M_walks_163 : decode c_M_walks 163 = .ok (.if_icmp .ge 23, 3) := by decide +kernel
theorem d_M_walks_166 : decode c_M_walks 166 = .ok (.aload_n 0, 1) := by decide +kernel
theorem d_M_walks_167 : decode c_M_walks 167 = .ok (.getfield 42, 3) := by decide +kernel
theorem d_M_walks_170 : decode c_M_walks 170 = .ok (.iload 5, 2) := by decide +kernel
theorem d_M_walks_172 : decode c_M_walks 172 = .ok (.aload_n 0, 1) := by decide +kernel
theorem d_M_walks_173 : decode c_M_walks 173 = .ok (.getfield 45, 3) := by decide +kernel
theorem d_M_walks_176 : decode c_M_walks 176 = .ok (.iload 5, 2) := by decide +kernel
theorem d_M_walks_178 : decode c_M_walks 178 = .ok (.laload, 1) := by decide +kernel
theorem d_M_walks_179 : decode c_M_walks 179 = .ok (.lastore, 1) := by decide +kernel
theorem d_M_walks_180 : decode c_M_walks 180 = .ok (.iinc 5 1, 3) := by decide +kernel
theorem d_M_walks_183 : decode c_M_walks 183 = .ok (.goto (-26), 3) := by decide +kernel
theorem d_M_walks_186 : decode c_M_walks 186 = .ok (.iinc 4 1, 3) := by decide +kernel
theorem d_M_walks_189 : decode c_M_walks 189 = .ok (.goto (-116), 3) := by decide +kernel
theorem d_M_walks_192 : decode c_M_walks 192 = .ok (.aload_n 0, 1) := by decide +kernel
theorem d_M_walks_193 : decode c_M_walks 193 = .ok (.getfield 42, 3) := by decide +kernel
theorem d_M_walks_196 : decode c_M_walks 196 = .ok (.iload_n 2, 1) := by decide +kernel
theorem d_M_walks_197 : decode c_M_walks 197 = .ok (.laload, 1) := by decide +kernel
theorem d_M_walks_198 : decode c_M_walks 198 = .ok (.lreturn, 1) := by decide +kernel
theorem d_M_drawn_0 : decode c_M_drawn 0 = .ok (.aload_n 0, 1) := by decide +kernel
theorem d_M_drawn_1 : decode c_M_drawn 1 = .ok (.iload_n 1, 1) := by decide +kernel
theorem d_M_drawn_2 : decode c_M_drawn 2 = .ok (.invokevirtual 51, 3) := by decide +kernel
theorem d_M_drawn_5 : decode c_M_drawn 5 = .ok (.ifCond .ne 5, 3) := by decide +kernel
theorem d_M_drawn_8 : decode c_M_drawn 8 = .ok (.iconst (-1), 1) := by decide +kernel
theorem d_M_drawn_9 : decode c_M_drawn 9 = .ok (.ireturn, 1) := by decide +kernel
theorem d_M_drawn_10 : decode c_M_drawn 10 = .ok (.iload_n 3, 1) := by decide +kernel
theorem d_M_drawn_11 : decode c_M_drawn 11 = .ok (.ifCond .lt 10, 3) := by decide +kernel
theorem d_M_drawn_14 : decode c_M_drawn 14 = .ok (.iload_n 3, 1) := by decide +kernel
theorem d_M_drawn_15 : decode c_M_drawn 15 = .ok (.sipush 200, 3) := by decide +kernel
theorem d_M_drawn_18 : decode c_M_drawn 18 = .ok (.if_icmp .le 6, 3) := by decide +kernel
theorem d_M_drawn_21 : decode c_M_drawn 21 = .ok (.bipush (-2), 2) := by decide +kernel
theorem d_M_drawn_23 : decode c_M_drawn 23 = .ok (.ireturn, 1) := by decide +kernel
theorem d_M_drawn_24 : decode c_M_drawn 24 = .ok (.aload_n 0, 1) := by decide +kernel
theorem d_M_drawn_25 : decode c_M_drawn 25 = .ok (.invokevirtual 59, 3) := by decide +kernel
theorem d_M_drawn_28 : decode c_M_drawn 28 = .ok (.iload_n 2, 1) := by decide +kernel
theorem d_M_drawn_29 : decode c_M_drawn 29 = .ok (.istore 4, 2) := by decide +kernel
theorem d_M_drawn_31 : decode c_M_drawn 31 = .ok (.iload_n 1, 1) := by decide +kernel
theorem d_M_drawn_32 : decode c_M_drawn 32 = .ok (.istore 5, 2) := by decide +kernel
theorem d_M_drawn_34 : decode c_M_drawn 34 = .ok (.iconst 0, 1) := by decide +kernel
theorem d_M_drawn_35 : decode c_M_drawn 35 = .ok (.istore 6, 2) := by decide +kernel
theorem d_M_drawn_37 : decode c_M_drawn 37 = .ok (.iload 6, 2) := by decide +kernel
theorem d_M_drawn_39 : decode c_M_drawn 39 = .ok (.iload_n 3, 1) := by decide +kernel
theorem d_M_drawn_40 : decode c_M_drawn 40 = .ok (.if_icmp .ge 80, 3) := by decide +kernel
theorem d_M_drawn_43 : decode c_M_drawn 43 = .ok (.iload 4, 2) := by decide +kernel
theorem d_M_drawn_45 : decode c_M_drawn 45 = .ok (.ldc 117, 2) := by decide +kernel
theorem d_M_drawn_47 : decode c_M_drawn 47 = .ok (.imul, 1) := by decide +kernel
theorem d_M_drawn_48 : decode c_M_drawn 48 = .ok (.ldc 118, 2) := by decide +kernel
theorem d_M_drawn_50 : decode c_M_drawn 50 = .ok (.iadd, 1) := by decide +kernel
theorem d_M_drawn_51 : decode c_M_drawn 51 = .ok (.istore 4, 2) := by decide +kernel
theorem d_M_drawn_53 : decode c_M_drawn 53 = .ok (.iload 4, 2) := by decide +kernel
theorem d_M_drawn_55 : decode c_M_drawn 55 = .ok (.iconst 1, 1) := by decide +kernel
theorem d_M_drawn_56 : decode c_M_drawn 56 = .ok (.iushr, 1) := by decide +kernel
theorem d_M_drawn_57 : decode c_M_drawn 57 = .ok (.aload_n 0, 1) := by decide +kernel
theorem d_M_drawn_58 : decode c_M_drawn 58 = .ok (.getfield 26, 3) := by decide +kernel
theorem d_M_drawn_61 : decode c_M_drawn 61 = .ok (.iload 5, 2) := by decide +kernel
theorem d_M_drawn_63 : decode c_M_drawn 63 = .ok (.iaload, 1) := by decide +kernel
theorem d_M_drawn_64 : decode c_M_drawn 64 = .ok (.irem, 1) := by decide +kernel
theorem d_M_drawn_65 : decode c_M_drawn 65 = .ok (.istore 7, 2) := by decide +kernel
theorem d_M_drawn_67 : decode c_M_drawn 67 = .ok (.iconst 0, 1) := by decide +kernel
theorem d_M_drawn_68 : decode c_M_drawn 68 = .ok (.istore 8, 2) := by decide +kernel
theorem d_M_drawn_70 : decode c_M_drawn 70 = .ok (.iload 7, 2) := by decide +kernel
theorem d_M_drawn_72 : decode c_M_drawn 72 = .ok (.aload_n 0, 1) := by decide +kernel
theorem d_M_drawn_73 : decode c_M_drawn 73 = .ok (.getfield 23, 3) := by decide +kernel
theorem d_M_drawn_76 : decode c_M_drawn 76 = .ok (.iconst 5, 1) := by decide +kernel
theorem d_M_drawn_77 : decode c_M_drawn 77 = .ok (.iload 5, 2) := by decide +kernel
theorem d_M_drawn_79 : decode c_M_drawn 79 = .ok (.imul, 1) := by decide +kernel
theorem d_M_drawn_80 : decode c_M_drawn 80 = .ok (.iload 8, 2) := by decide +kernel
theorem d_M_drawn_82 : decode c_M_drawn 82 = .ok (.iadd, 1) := by decide +kernel
theorem d_M_drawn_83 : decode c_M_drawn 83 = .ok (.iaload, 1) := by decide +kernel
theorem d_M_drawn_84 : decode c_M_drawn 84 = .ok (.if_icmp .lt 26, 3) := by decide +kernel
theorem d_M_drawn_87 : decode c_M_drawn 87 = .ok (.iload 7, 2) := by decide +kernel
theorem d_M_drawn_89 : decode c_M_drawn 89 = .ok (.aload_n 0, 1) := by decide +kernel
theorem d_M_drawn_90 : decode c_M_drawn 90 = .ok (.getfield 23, 3) := by decide +kernel
theorem d_M_drawn_93 : decode c_M_drawn 93 = .ok (.iconst 5, 1) := by decide +kernel
theorem d_M_drawn_94 : decode c_M_drawn 94 = .ok (.iload 5, 2) := by decide +kernel
theorem d_M_drawn_96 : decode c_M_drawn 96 = .ok (.imul, 1) := by decide +kernel
theorem d_M_drawn_97 : decode c_M_drawn 97 = .ok (.iload 8, 2) := by decide +kernel
theorem d_M_drawn_99 : decode c_M_drawn 99 = .ok (.iadd, 1) := by decide +kernel
theorem d_M_drawn_100 : decode c_M_drawn 100 = .ok (.iaload, 1) := by decide +kernel
theorem d_M_drawn_101 : decode c_M_drawn 101 = .ok (.isub, 1) := by decide +kernel
theorem d_M_drawn_102 : decode c_M_drawn 102 = .ok (.istore 7, 2) := by decide +kernel
theorem d_M_drawn_104 : decode c_M_drawn 104 = .ok (.iinc 8 1, 3) := by decide +kernel
theorem d_M_drawn_107 : decode c_M_drawn 107 = .ok (.goto (-37), 3) := by decide +kernel
theorem d_M_drawn_110 : decode c_M_drawn 110 = .ok (.iload 8, 2) := by decide +kernel
theorem d_M_drawn_112 : decode c_M_drawn 112 = .ok (.istore 5, 2) := by decide +kernel
theorem d_M_drawn_114 : decode c_M_drawn 114 = .ok (.iinc 6 1, 3) := by decide +kernel
theorem d_M_drawn_117 : decode c_M_drawn 117 = .ok (.goto (-80), 3) := by decide +kernel
theorem d_M_drawn_120 : decode c_M_drawn 120 = .ok (.iload 5, 2) := by decide +kernel
theorem d_M_drawn_122 : decode c_M_drawn 122 = .ok (.ireturn, 1) := by decide +kernel
end
section
-- decode rows
theorem d_L_law_0 : decode c_L_law 0 = .ok (.new 7, 3) := by decide +kernel
theorem d_L_law_3 : decode c_L_law 3 = .ok (.dup, 1) := by decide +kernel
theorem d_L_law_4 : decode c_L_law 4 = .ok (.invokespecial 9, 3) := by decide +kernel
theorem d_L_law_7 : decode c_L_law 7 = .ok (.astore_n 1, 1) := by decide +kernel
theorem d_L_law_8 : decode c_L_law 8 = .ok (.new 10, 3) := by decide +kernel
theorem d_L_law_11 : decode c_L_law 11 = .ok (.dup, 1) := by decide +kernel
theorem d_L_law_12 : decode c_L_law 12 = .ok (.invokespecial 12, 3) := by decide +kernel
theorem d_L_law_15 : decode c_L_law 15 = .ok (.astore_n 2, 1) := by decide +kernel
theorem d_L_law_16 : decode c_L_law 16 = .ok (.iconst 0, 1) := by decide +kernel
theorem d_L_law_17 : decode c_L_law 17 = .ok (.istore_n 3, 1) := by decide +kernel
theorem d_L_law_18 : decode c_L_law 18 = .ok (.iload_n 3, 1) := by decide +kernel
theorem d_L_law_19 : decode c_L_law 19 = .ok (.aload_n 0, 1) := by decide +kernel
theorem d_L_law_20 : decode c_L_law 20 = .ok (.arraylength, 1) := by decide +kernel
theorem d_L_law_21 : decode c_L_law 21 = .ok (.iconst 5, 1) := by decide +kernel
theorem d_L_law_22 : decode c_L_law 22 = .ok (.isub, 1) := by decide +kernel
theorem d_L_law_23 : decode c_L_law 23 = .ok (.if_icmp .gt 721, 3) := by decide +kernel
theorem d_L_law_26 : decode c_L_law 26 = .ok (.aload_n 0, 1) := by decide +kernel
theorem d_L_law_27 : decode c_L_law 27 = .ok (.iload_n 3, 1) := by decide +kernel
theorem d_L_law_28 : decode c_L_law 28 = .ok (.iaload, 1) := by decide +kernel
theorem d_L_law_29 : decode c_L_law 29 = .ok (.bipush 31, 2) := by decide +kernel
theorem d_L_law_31 : decode c_L_law 31 = .ok (.iand, 1) := by decide +kernel
theorem d_L_law_32 : decode c_L_law 32 = .ok (.tableswitch 706 0 18 #[92, 105, 148, 181, 214, 227, 260, 283, 296, 319, 342, 376, 399, 443, 487, 521, 565, 619, 663], 92) := by decide +kernel
theorem d_L_law_124 : decode c_L_law 124 = .ok (.aload_n 1, 1) := by decide +kernel
theorem d_L_law_125 : decode c_L_law 125 = .ok (.invokevirtual 13, 3) := by decide +kernel
theorem d_L_law_128 : decode c_L_law 128 = .ok (.aload_n 2, 1) := by decide +kernel
theorem d_L_law_129 : decode c_L_law 129 = .ok (.invokevirtual 17, 3) := by decide +kernel
theorem d_L_law_132 : decode c_L_law 132 = .ok (.if_icmp .eq 606, 3) := by decide +kernel
theorem d_L_law_135 : decode c_L_law 135 = .ok (.iconst 0, 1) := by decide +kernel
theorem d_L_law_136 : decode c_L_law 136 = .ok (.ireturn, 1) := by decide +kernel
theorem d_L_law_137 : decode c_L_law 137 = .ok (.aload_n 1, 1) := by decide +kernel
theorem d_L_law_138 : decode c_L_law 138 = .ok (.aload_n 0, 1) := by decide +kernel
theorem d_L_law_139 : decode c_L_law 139 = .ok (.iload_n 3, 1) := by decide +kernel
theorem d_L_law_140 : decode c_L_law 140 = .ok (.iconst 1, 1) := by decide +kernel
theorem d_L_law_141 : decode c_L_law 141 = .ok (.iadd, 1) := by decide +kernel
theorem d_L_law_142 : decode c_L_law 142 = .ok (.iaload, 1) := by decide +kernel
theorem d_L_law_143 : decode c_L_law 143 = .ok (.aload_n 0, 1) := by decide +kernel
theorem d_L_law_144 : decode c_L_law 144 = .ok (.iload_n 3, 1) := by decide +kernel
theorem d_L_law_145 : decode c_L_law 145 = .ok (.iconst 2, 1) := by decide +kernel
theorem d_L_law_146 : decode c_L_law 146 = .ok (.iadd, 1) := by decide +kernel
theorem d_L_law_147 : decode c_L_law 147 = .ok (.iaload, 1) := by decide +kernel
theorem d_L_law_148 : decode c_L_law 148 = .ok (.aload_n 0, 1) := by decide +kernel
theorem d_L_law_149 : decode c_L_law 149 = .ok (.iload_n 3, 1) := by decide +kernel
theorem d_L_law_150 : decode c_L_law 150 = .ok (.iconst 3, 1) := by decide +kernel
theorem d_L_law_151 : decode c_L_law 151 = .ok (.iadd, 1) := by decide +kernel
theorem d_L_law_152 : decode c_L_law 152 = .ok (.iaload, 1) := by decide +kernel
theorem d_L_law_153 : decode c_L_law 153 = .ok (.invokevirtual 18, 3) := by decide +kernel
theorem d_L_law_156 : decode c_L_law 156 = .ok (.aload_n 2, 1) := by decide +kernel
theorem d_L_law_157 : decode c_L_law 157 = .ok (.aload_n 0, 1) := by decide +kernel
theorem d_L_law_158 : decode c_L_law 158 = .ok (.iload_n 3, 1) := by decide +kernel
theorem d_L_law_159 : decode c_L_law 159 = .ok (.iconst 1, 1) := by decide +kernel
theorem d_L_law_160 : decode c_L_law 160 = .ok (.iadd, 1) := by decide +kernel
theorem d_L_law_161 : decode c_L_law 161 = .ok (.iaload, 1) := by decide +kernel
theorem d_L_law_162 : decode c_L_law 162 = .ok (.aload_n 0, 1) := by decide +kernel
theorem d_L_law_163 : decode c_L_law 163 = .ok (.iload_n 3, 1) := by decide +kernel
theorem d_L_law_164 : decode c_L_law 164 = .ok (.iconst 2, 1) := by decide +kernel
theorem d_L_law_165 : decode c_L_law 165 = .ok (.iadd, 1) := by decide +kernel
theorem d_L_law_166 : decode c_L_law 166 = .ok (.iaload, 1) := by decide +kernel
theorem d_L_law_167 : decode c_L_law 167 = .ok (.aload_n 0, 1) := by decide +kernel
theorem d_L_law_168 : decode c_L_law 168 = .ok (.iload_n 3, 1) := by decide +kernel
theorem d_L_law_169 : decode c_L_law 169 = .ok (.iconst 3, 1) := by decide +kernel
theorem d_L_law_170 : decode c_L_law 170 = .ok (.iadd, 1) := by decide +kernel
theorem d_L_law_171 : decode c_L_law 171 = .ok (.iaload, 1) := by decide +kernel
theorem d_L_law_172 : decode c_L_law 172 = .ok (.invokevirtual 22, 3) := by decide +kernel
theorem d_L_law_175 : decode c_L_law 175 = .ok (.if_icmp .eq 563, 3) := by decide +kernel
theorem d_L_law_178 : decode c_L_law 178 = .ok (.iconst 0, 1) := by decide +kernel
theorem d_L_law_179 : decode c_L_law 179 = .ok (.ireturn, 1) := by decide +kernel
theorem d_L_law_180 : decode c_L_law 180 = .ok (.aload_n 1, 1) := by decide +kernel
theorem d_L_law_181 : decode c_L_law 181 = .ok (.aload_n 0, 1) := by decide +kernel
theorem d_L_law_182 : decode c_L_law 182 = .ok (.iload_n 3, 1) := by decide +kernel
theorem d_L_law_183 : decode c_L_law 183 = .ok (.iconst 1, 1) := by decide +kernel
theorem d_L_law_184 : decode c_L_law 184 = .ok (.iadd, 1) := by decide +kernel
theorem d_L_law_185 : decode c_L_law 185 = .ok (.iaload, 1) := by decide +kernel
theorem d_L_law_186 : decode c_L_law 186 = .ok (.aload_n 0, 1) := by decide +kernel
theorem d_L_law_187 : decode c_L_law 187 = .ok (.iload_n 3, 1) := by decide +kernel
theorem d_L_law_188 : decode c_L_law 188 = .ok (.iconst 2, 1) := by decide +kernel
theorem d_L_law_189 : decode c_L_law 189 = .ok (.iadd, 1) := by decide +kernel
theorem d_L_law_190 : decode c_L_law 190 = .ok (.iaload, 1) := by decide +kernel
theorem d_L_law_191 : decode c_L_law 191 = .ok (.invokevirtual 23, 3) := by decide +kernel
theorem d_L_law_194 : decode c_L_law 194 = .ok (.aload_n 2, 1) := by decide +kernel
theorem d_L_law_195 : decode c_L_law 195 = .ok (.aload_n 0, 1) := by decide +kernel
theorem d_L_law_196 : decode c_L_law 196 = .ok (.iload_n 3, 1) := by decide +kernel
theorem d_L_law_197 : decode c_L_law 197 = .ok (.iconst 1, 1) := by decide +kernel
theorem d_L_law_198 : decode c_L_law 198 = .ok (.iadd, 1) := by decide +kernel
theorem d_L_law_199 : decode c_L_law 199 = .ok (.iaload, 1) := by decide +kernel
theorem d_L_law_200 : decode c_L_law 200 = .ok (.aload_n 0, 1) := by decide +kernel
theorem d_L_law_201 : decode c_L_law 201 = .ok (.iload_n 3, 1) := by decide +kernel
theorem d_L_law_202 : decode c_L_law 202 = .ok (.iconst 2, 1) := by decide +kernel
theorem d_L_law_203 : decode c_L_law 203 = .ok (.iadd, 1) := by decide +kernel
theorem d_L_law_204 : decode c_L_law 204 = .ok (.iaload, 1) := by decide +kernel
theorem d_L_law_205 : decode c_L_law 205 = .ok (.invokevirtual 27, 3) := by decide +kernel
theorem d_L_law_208 : decode c_L_law 208 = .ok (.if_icmp .eq 530, 3) := by decide +kernel
theorem d_L_law_211 : decode c_L_law 211 = .ok (.iconst 0, 1) := by decide +kernel
theorem d_L_law_212 : decode c_L_law 212 = .ok (.ireturn, 1) := by decide +kernel
theorem d_L_law_213 : decode c_L_law 213 = .ok (.aload_n 1, 1) := by decide +kernel
theorem d_L_law_214 : decode c_L_law 214 = .ok (.aload_n 0, 1) := by decide +kernel
theorem d_L_law_215 : decode c_L_law 215 = .ok (.iload_n 3, 1) := by decide +kernel
theorem d_L_law_216 : decode c_L_law 216 = .ok (.iconst 1, 1) := by decide +kernel
theorem d_L_law_217 : decode c_L_law 217 = .ok (.iadd, 1) := by decide +kernel
theorem d_L_law_218 : decode c_L_law 218 = .ok (.iaload, 1) := by decide +kernel
theorem d_L_law_219 : decode c_L_law 219 = .ok (.aload_n 0, 1) := by decide +kernel
theorem d_L_law_220 : decode c_L_law 220 = .ok (.iload_n 3, 1) := by decide +kernel
theorem d_L_law_221 : decode c_L_law 221 = .ok (.iconst 2, 1) := by decide +kernel
theorem d_L_law_222 : decode c_L_law 222 = .ok (.iadd, 1) := by decide +kernel
theorem d_L_law_223 : decode c_L_law 223 = .ok (.iaload, 1) := by decide +kernel
theorem d_L_law_224 : decode c_L_law 224 = .ok (.invokevirtual 28, 3) := by decide +kernel
theorem d_L_law_227 : decode c_L_law 227 = .ok (.aload_n 2, 1) := by decide +kernel
theorem d_L_law_228 : decode c_L_law 228 = .ok (.aload_n 0, 1) := by decide +kernel
theorem d_L_law_229 : decode c_L_law 229 = .ok (.iload_n 3, 1) := by decide +kernel
theorem d_L_law_230 : decode c_L_law 230 = .ok (.iconst 1, 1) := by decide +kernel
theorem d_L_law_231 : decode c_L_law 231 = .ok (.iadd, 1) := by decide +kernel
theorem d_L_law_232 : decode c_L_law 232 = .ok (.iaload, 1) := by decide +kernel
theorem d_L_law_233 : decode c_L_law 233 = .ok (.aload_n 0, 1) := by decide +kernel
theorem d_L_law_234 : decode c_L_law 234 = .ok (.iload_n 3, 1) := by decide +kernel
theorem d_L_law_235 : decode c_L_law 235 = .ok (.iconst 2, 1) := by decide +kernel
theorem d_L_law_236 : decode c_L_law 236 = .ok (.iadd, 1) := by decide +kernel
theorem d_L_law_237 : decode c_L_law 237 = .ok (.iaload, 1) := by decide +kernel
theorem d_L_law_238 : decode c_L_law 238 = .ok (.invokevirtual 31, 3) := by decide +kernel
theorem d_L_law_241 : decode c_L_law 241 = .ok (.if_icmp .eq 497, 3) := by decide +kernel
theorem d_L_law_244 : decode c_L_law 244 = .ok (.iconst 0, 1) := by decide +kernel
theorem d_L_law_245 : decode c_L_law 245 = .ok (.ireturn, 1) := by decide +kernel
theorem d_L_law_246 : decode c_L_law 246 = .ok (.aload_n 1, 1) := by decide +kernel
theorem d_L_law_247 : decode c_L_law 247 = .ok (.invokevirtual 32, 3) := by decide +kernel
theorem d_L_law_250 : decode c_L_law 250 = .ok (.aload_n 2, 1) := by decide +kernel
theorem d_L_law_251 : decode c_L_law 251 = .ok (.invokevirtual 35, 3) := by decide +kernel
theorem d_L_law_254 : decode c_L_law 254 = .ok (.if_icmp .eq 484, 3) := by decide +kernel
theorem d_L_law_257 : decode c_L_law 257 = .ok (.iconst 0, 1) := by decide +kernel
theorem d_L_law_258 : decode c_L_law 258 = .ok (.ireturn, 1) := by decide +kernel
theorem d_L_law_259 : decode c_L_law 259 = .ok (.aload_n 1, 1) := by decide +kernel
theorem d_L_law_260 : decode c_L_law 260 = .ok (.aload_n 0, 1) := by decide +kernel
theorem d_L_law_261 : decode c_L_law 261 = .ok (.iload_n 3, 1) := by decide +kernel
theorem d_L_law_262 : decode c_L_law 262 = .ok (.iconst 1, 1) := by decide +kernel
theorem d_L_law_263 : decode c_L_law 263 = .ok (.iadd, 1) := by decide +kernel
theorem d_L_law_264 : decode c_L_law 264 = .ok (.iaload, 1) := by decide +kernel
theorem d_L_law_265 : decode c_L_law 265 = .ok (.aload_n 0, 1) := by decide +kernel
theorem d_L_law_266 : decode c_L_law 266 = .ok (.iload_n 3, 1) := by decide +kernel
theorem d_L_law_267 : decode c_L_law 267 = .ok (.iconst 2, 1) := by decide +kernel
theorem d_L_law_268 : decode c_L_law 268 = .ok (.iadd, 1) := by decide +kernel
theorem d_L_law_269 : decode c_L_law 269 = .ok (.iaload, 1) := by decide +kernel
theorem d_L_law_270 : decode c_L_law 270 = .ok (.invokevirtual 36, 3) := by decide +kernel
theorem d_L_law_273 : decode c_L_law 273 = .ok (.aload_n 2, 1) := by decide +kernel
theorem d_L_law_274 : decode c_L_law 274 = .ok (.aload_n 0, 1) := by decide +kernel
theorem d_L_law_275 : decode c_L_law 275 = .ok (.iload_n 3, 1) := by decide +kernel
theorem d_L_law_276 : decode c_L_law 276 = .ok (.iconst 1, 1) := by decide +kernel
theorem d_L_law_277 : decode c_L_law 277 = .ok (.iadd, 1) := by decide +kernel
theorem d_L_law_278 : decode c_L_law 278 = .ok (.iaload, 1) := by decide +kernel
theorem d_L_law_279 : decode c_L_law 279 = .ok (.aload_n 0, 1) := by decide +kernel
theorem d_L_law_280 : decode c_L_law 280 = .ok (.iload_n 3, 1) := by decide +kernel
theorem d_L_law_281 : decode c_L_law 281 = .ok (.iconst 2, 1) := by decide +kernel
theorem d_L_law_282 : decode c_L_law 282 = .ok (.iadd, 1) := by decide +kernel
theorem d_L_law_283 : decode c_L_law 283 = .ok (.iaload, 1) := by decide +kernel
theorem d_L_law_284 : decode c_L_law 284 = .ok (.invokevirtual 39, 3) := by decide +kernel
theorem d_L_law_287 : decode c_L_law 287 = .ok (.if_icmp .eq 451, 3) := by decide +kernel
theorem d_L_law_290 : decode c_L_law 290 = .ok (.iconst 0, 1) := by decide +kernel
theorem d_L_law_291 : decode c_L_law 291 = .ok (.ireturn, 1) := by decide +kernel
theorem d_L_law_292 : decode c_L_law 292 = .ok (.aload_n 1, 1) := by decide +kernel
theorem d_L_law_293 : decode c_L_law 293 = .ok (.aload_n 0, 1) := by decide +kernel
theorem d_L_law_294 : decode c_L_law 294 = .ok (.iload_n 3, 1) := by decide +kernel
theorem d_L_law_295 : decode c_L_law 295 = .ok (.iconst 1, 1) := by decide +kernel
theorem d_L_law_296 : decode c_L_law 296 = .ok (.iadd, 1) := by decide +kernel
theorem d_L_law_297 : decode c_L_law 297 = .ok (.iaload, 1) := by decide +kernel
theorem d_L_law_298 : decode c_L_law 298 = .ok (.invokevirtual 40, 3) := by decide +kernel
theorem d_L_law_301 : decode c_L_law 301 = .ok (.aload_n 2, 1) := by decide +kernel
theorem d_L_law_302 : decode c_L_law 302 = .ok (.aload_n 0, 1) := by decide +kernel
theorem d_L_law_303 : decode c_L_law 303 = .ok (.iload_n 3, 1) := by decide +kernel
theorem d_L_law_304 : decode c_L_law 304 = .ok (.iconst 1, 1) := by decide +kernel
theorem d_L_law_305 : decode c_L_law 305 = .ok (.iadd, 1) := by decide +kernel
theorem d_L_law_306 : decode c_L_law 306 = .ok (.iaload, 1) := by decide +kernel
theorem d_L_law_307 : decode c_L_law 307 = .ok (.invokevirtual 44, 3) := by decide +kernel
theorem d_L_law_310 : decode c_L_law 310 = .ok (.if_icmp .eq 428, 3) := by decide +kernel
theorem d_L_law_313 : decode c_L_law 313 = .ok (.iconst 0, 1) := by decide +kernel
theorem d_L_law_314 : decode c_L_law 314 = .ok (.ireturn, 1) := by decide +kernel
theorem d_L_law_315 : decode c_L_law 315 = .ok (.aload_n 1, 1) := by decide +kernel
theorem d_L_law_316 : decode c_L_law 316 = .ok (.invokevirtual 45, 3) := by decide +kernel
theorem d_L_law_319 : decode c_L_law 319 = .ok (.aload_n 2, 1) := by decide +kernel
theorem d_L_law_320 : decode c_L_law 320 = .ok (.invokevirtual 48, 3) := by decide +kernel
theorem d_L_law_323 : decode c_L_law 323 = .ok (.if_icmp .eq 415, 3) := by decide +kernel
theorem d_L_law_326 : decode c_L_law 326 = .ok (.iconst 0, 1) := by decide +kernel
theorem d_L_law_327 : decode c_L_law 327 = .ok (.ireturn, 1) := by decide +kernel
theorem d_L_law_328 : decode c_L_law 328 = .ok (.aload_n 1, 1) := by decide +kernel
theorem d_L_law_329 : decode c_L_law 329 = .ok (.aload_n 0, 1) := by decide +kernel
theorem d_L_law_330 : decode c_L_law 330 = .ok (.iload_n 3, 1) := by decide +kernel
theorem d_L_law_331 : decode c_L_law 331 = .ok (.iconst 1, 1) := by decide +kernel
theorem d_L_law_332 : decode c_L_law 332 = .ok (.iadd, 1) := by decide +kernel
theorem d_L_law_333 : decode c_L_law 333 = .ok (.iaload, 1) := by decide +kernel
theorem d_L_law_334 : decode c_L_law 334 = .ok (.invokevirtual 49, 3) := by decide +kernel
theorem d_L_law_337 : decode c_L_law 337 = .ok (.aload_n 2, 1) := by decide +kernel
theorem d_L_law_338 : decode c_L_law 338 = .ok (.aload_n 0, 1) := by decide +kernel
theorem d_L_law_339 : decode c_L_law 339 = .ok (.iload_n 3, 1) := by decide +kernel
theorem d_L_law_340 : decode c_L_law 340 = .ok (.iconst 1, 1) := by decide +kernel
theorem d_L_law_341 : decode c_L_law 341 = .ok (.iadd, 1) := by decide +kernel
theorem d_L_law_342 : decode c_L_law 342 = .ok (.iaload, 1) := by decide +kernel
theorem d_L_law_343 : decode c_L_law 343 = .ok (.invokevirtual 52, 3) := by decide +kernel
theorem d_L_law_346 : decode c_L_law 346 = .ok (.if_icmp .eq 392, 3) := by decide +kernel
theorem d_L_law_349 : decode c_L_law 349 = .ok (.iconst 0, 1) := by decide +kernel
theorem d_L_law_350 : decode c_L_law 350 = .ok (.ireturn, 1) := by decide +kernel
theorem d_L_law_351 : decode c_L_law 351 = .ok (.aload_n 1, 1) := by decide +kernel
theorem d_L_law_352 : decode c_L_law 352 = .ok (.aload_n 0, 1) := by decide +kernel
theorem d_L_law_353 : decode c_L_law 353 = .ok (.iload_n 3, 1) := by decide +kernel
theorem d_L_law_354 : decode c_L_law 354 = .ok (.iconst 1, 1) := by decide +kernel
theorem d_L_law_355 : decode c_L_law 355 = .ok (.iadd, 1) := by decide +kernel
theorem d_L_law_356 : decode c_L_law 356 = .ok (.iaload, 1) := by decide +kernel
theorem d_L_law_357 : decode c_L_law 357 = .ok (.invokevirtual 53, 3) := by decide +kernel
theorem d_L_law_360 : decode c_L_law 360 = .ok (.aload_n 2, 1) := by decide +kernel
theorem d_L_law_361 : decode c_L_law 361 = .ok (.aload_n 0, 1) := by decide +kernel
theorem d_L_law_362 : decode c_L_law 362 = .ok (.iload_n 3, 1) := by decide +kernel
theorem d_L_law_363 : decode c_L_law 363 = .ok (.iconst 1, 1) := by decide +kernel
theorem d_L_law_364 : decode c_L_law 364 = .ok (.iadd, 1) := by decide +kernel
theorem d_L_law_365 : decode c_L_law 365 = .ok (.iaload, 1) := by decide +kernel
theorem d_L_law_366 : decode c_L_law 366 = .ok (.invokevirtual 56, 3) := by decide +kernel
theorem d_L_law_369 : decode c_L_law 369 = .ok (.if_icmp .eq 369, 3) := by decide +kernel
theorem d_L_law_372 : decode c_L_law 372 = .ok (.iconst 0, 1) := by decide +kernel
theorem d_L_law_373 : decode c_L_law 373 = .ok (.ireturn, 1) := by decide +kernel
theorem d_L_law_374 : decode c_L_law 374 = .ok (.aload_n 1, 1) := by decide +kernel
theorem d_L_law_375 : decode c_L_law 375 = .ok (.aload_n 0, 1) := by decide +kernel
theorem d_L_law_376 : decode c_L_law 376 = .ok (.iload_n 3, 1) := by decide +kernel
theorem d_L_law_377 : decode c_L_law 377 = .ok (.iconst 1, 1) := by decide +kernel
theorem d_L_law_378 : decode c_L_law 378 = .ok (.iadd, 1) := by decide +kernel
theorem d_L_law_379 : decode c_L_law 379 = .ok (.iaload, 1) := by decide +kernel
theorem d_L_law_380 : decode c_L_law 380 = .ok (.aload_n 0, 1) := by decide +kernel
theorem d_L_law_381 : decode c_L_law 381 = .ok (.iload_n 3, 1) := by decide +kernel
theorem d_L_law_382 : decode c_L_law 382 = .ok (.iconst 2, 1) := by decide +kernel
theorem d_L_law_383 : decode c_L_law 383 = .ok (.iadd, 1) := by decide +kernel
theorem d_L_law_384 : decode c_L_law 384 = .ok (.iaload, 1) := by decide +kernel
theorem d_L_law_385 : decode c_L_law 385 = .ok (.invokevirtual 57, 3) := by decide +kernel
theorem d_L_law_388 : decode c_L_law 388 = .ok (.aload_n 2, 1) := by decide +kernel
theorem d_L_law_389 : decode c_L_law 389 = .ok (.aload_n 0, 1) := by decide +kernel
theorem d_L_law_390 : decode c_L_law 390 = .ok (.iload_n 3, 1) := by decide +kernel
theorem d_L_law_391 : decode c_L_law 391 = .ok (.iconst 1, 1) := by decide +kernel
theorem d_L_law_392 : decode c_L_law 392 = .ok (.iadd, 1) := by decide +kernel
theorem d_L_law_393 : decode c_L_law 393 = .ok (.iaload, 1) := by decide +kernel
theorem d_L_law_394 : decode c_L_law 394 = .ok (.aload_n 0, 1) := by decide +kernel
theorem d_L_law_395 : decode c_L_law 395 = .ok (.iload_n 3, 1) := by decide +kernel
theorem d_L_law_396 : decode c_L_law 396 = .ok (.iconst 2, 1) := by decide +kernel
theorem d_L_law_397 : decode c_L_law 397 = .ok (.iadd, 1) := by decide +kernel
theorem d_L_law_398 : decode c_L_law 398 = .ok (.iaload, 1) := by decide +kernel
theorem d_L_law_399 : decode c_L_law 399 = .ok (.invokevirtual 61, 3) := by decide +kernel
theorem d_L_law_402 : decode c_L_law 402 = .ok (.lcmp, 1) := by decide +kernel
theorem d_L_law_403 : decode c_L_law 403 = .ok (.ifCond .eq 335, 3) := by decide +kernel
theorem d_L_law_406 : decode c_L_law 406 = .ok (.iconst 0, 1) := by decide +kernel
theorem d_L_law_407 : decode c_L_law 407 = .ok (.ireturn, 1) := by decide +kernel
theorem d_L_law_408 : decode c_L_law 408 = .ok (.aload_n 1, 1) := by decide +kernel
theorem d_L_law_409 : decode c_L_law 409 = .ok (.aload_n 0, 1) := by decide +kernel
theorem d_L_law_410 : decode c_L_law 410 = .ok (.iload_n 3, 1) := by decide +kernel
theorem d_L_law_411 : decode c_L_law 411 = .ok (.iconst 1, 1) := by decide +kernel
theorem d_L_law_412 : decode c_L_law 412 = .ok (.iadd, 1) := by decide +kernel
theorem d_L_law_413 : decode c_L_law 413 = .ok (.iaload, 1) := by decide +kernel
theorem d_L_law_414 : decode c_L_law 414 = .ok (.invokevirtual 62, 3) := by decide +kernel
theorem d_L_law_417 : decode c_L_law 417 = .ok (.aload_n 2, 1) := by decide +kernel
theorem d_L_law_418 : decode c_L_law 418 = .ok (.aload_n 0, 1) := by decide +kernel
theorem d_L_law_419 : decode c_L_law 419 = .ok (.iload_n 3, 1) := by decide +kernel
theorem d_L_law_420 : decode c_L_law 420 = .ok (.iconst 1, 1) := by decide +kernel
theorem d_L_law_421 : decode c_L_law 421 = .ok (.iadd, 1) := by decide +kernel
theorem d_L_law_422 : decode c_L_law 422 = .ok (.iaload, 1) := by decide +kernel
theorem d_L_law_423 : decode c_L_law 423 = .ok (.invokevirtual 65, 3) := by decide +kernel
theorem d_L_law_426 : decode c_L_law 426 = .ok (.if_icmp .eq 312, 3) := by decide +kernel
theorem d_L_law_429 : decode c_L_law 429 = .ok (.iconst 0, 1) := by decide +kernel
theorem d_L_law_430 : decode c_L_law 430 = .ok (.ireturn, 1) := by decide +kernel
theorem d_L_law_431 : decode c_L_law 431 = .ok (.aload_n 1, 1) := by decide +kernel
theorem d_L_law_432 : decode c_L_law 432 = .ok (.aload_n 0, 1) := by decide +kernel
theorem d_L_law_433 : decode c_L_law 433 = .ok (.iload_n 3, 1) := by decide +kernel
theorem d_L_law_434 : decode c_L_law 434 = .ok (.iconst 1, 1) := by decide +kernel
theorem d_L_law_435 : decode c_L_law 435 = .ok (.iadd, 1) := by decide +kernel
theorem d_L_law_436 : decode c_L_law 436 = .ok (.iaload, 1) := by decide +kernel
theorem d_L_law_437 : decode c_L_law 437 = .ok (.aload_n 0, 1) := by decide +kernel
theorem d_L_law_438 : decode c_L_law 438 = .ok (.iload_n 3, 1) := by decide +kernel
theorem d_L_law_439 : decode c_L_law 439 = .ok (.iconst 2, 1) := by decide +kernel
theorem d_L_law_440 : decode c_L_law 440 = .ok (.iadd, 1) := by decide +kernel
theorem d_L_law_441 : decode c_L_law 441 = .ok (.iaload, 1) := by decide +kernel
theorem d_L_law_442 : decode c_L_law 442 = .ok (.aload_n 0, 1) := by decide +kernel
theorem d_L_law_443 : decode c_L_law 443 = .ok (.iload_n 3, 1) := by decide +kernel
theorem d_L_law_444 : decode c_L_law 444 = .ok (.iconst 3, 1) := by decide +kernel
theorem d_L_law_445 : decode c_L_law 445 = .ok (.iadd, 1) := by decide +kernel
theorem d_L_law_446 : decode c_L_law 446 = .ok (.iaload, 1) := by decide +kernel
theorem d_L_law_447 : decode c_L_law 447 = .ok (.invokevirtual 66, 3) := by decide +kernel
theorem d_L_law_450 : decode c_L_law 450 = .ok (.aload_n 2, 1) := by decide +kernel
theorem d_L_law_451 : decode c_L_law 451 = .ok (.aload_n 0, 1) := by decide +kernel
theorem d_L_law_452 : decode c_L_law 452 = .ok (.iload_n 3, 1) := by decide +kernel
theorem d_L_law_453 : decode c_L_law 453 = .ok (.iconst 1, 1) := by decide +kernel
theorem d_L_law_454 : decode c_L_law 454 = .ok (.iadd, 1) := by decide +kernel
theorem d_L_law_455 : decode c_L_law 455 = .ok (.iaload, 1) := by decide +kernel
theorem d_L_law_456 : decode c_L_law 456 = .ok (.aload_n 0, 1) := by decide +kernel
theorem d_L_law_457 : decode c_L_law 457 = .ok (.iload_n 3, 1) := by decide +kernel
theorem d_L_law_458 : decode c_L_law 458 = .ok (.iconst 2, 1) := by decide +kernel
theorem d_L_law_459 : decode c_L_law 459 = .ok (.iadd, 1) := by decide +kernel
theorem d_L_law_460 : decode c_L_law 460 = .ok (.iaload, 1) := by decide +kernel
theorem d_L_law_461 : decode c_L_law 461 = .ok (.aload_n 0, 1) := by decide +kernel
theorem d_L_law_462 : decode c_L_law 462 = .ok (.iload_n 3, 1) := by decide +kernel
theorem d_L_law_463 : decode c_L_law 463 = .ok (.iconst 3, 1) := by decide +kernel
theorem d_L_law_464 : decode c_L_law 464 = .ok (.iadd, 1) := by decide +kernel
theorem d_L_law_465 : decode c_L_law 465 = .ok (.iaload, 1) := by decide +kernel
theorem d_L_law_466 : decode c_L_law 466 = .ok (.invokevirtual 70, 3) := by decide +kernel
theorem d_L_law_469 : decode c_L_law 469 = .ok (.lcmp, 1) := by decide +kernel
theorem d_L_law_470 : decode c_L_law 470 = .ok (.ifCond .eq 268, 3) := by decide +kernel
theorem d_L_law_473 : decode c_L_law 473 = .ok (.iconst 0, 1) := by decide +kernel
theorem d_L_law_474 : decode c_L_law 474 = .ok (.ireturn, 1) := by decide +kernel
theorem d_L_law_475 : decode c_L_law 475 = .ok (.aload_n 1, 1) := by decide +kernel
theorem d_L_law_476 : decode c_L_law 476 = .ok (.aload_n 0, 1) := by decide +kernel
theorem d_L_law_477 : decode c_L_law 477 = .ok (.iload_n 3, 1) := by decide +kernel
theorem d_L_law_478 : decode c_L_law 478 = .ok (.iconst 1, 1) := by decide +kernel
theorem d_L_law_479 : decode c_L_law 479 = .ok (.iadd, 1) := by decide +kernel
theorem d_L_law_480 : decode c_L_law 480 = .ok (.iaload, 1) := by decide +kernel
theorem d_L_law_481 : decode c_L_law 481 = .ok (.aload_n 0, 1) := by decide +kernel
theorem d_L_law_482 : decode c_L_law 482 = .ok (.iload_n 3, 1) := by decide +kernel
theorem d_L_law_483 : decode c_L_law 483 = .ok (.iconst 2, 1) := by decide +kernel
theorem d_L_law_484 : decode c_L_law 484 = .ok (.iadd, 1) := by decide +kernel
theorem d_L_law_485 : decode c_L_law 485 = .ok (.iaload, 1) := by decide +kernel
theorem d_L_law_486 : decode c_L_law 486 = .ok (.aload_n 0, 1) := by decide +kernel
theorem d_L_law_487 : decode c_L_law 487 = .ok (.iload_n 3, 1) := by decide +kernel
theorem d_L_law_488 : decode c_L_law 488 = .ok (.iconst 3, 1) := by decide +kernel
theorem d_L_law_489 : decode c_L_law 489 = .ok (.iadd, 1) := by decide +kernel
theorem d_L_law_490 : decode c_L_law 490 = .ok (.iaload, 1) := by decide +kernel
theorem d_L_law_491 : decode c_L_law 491 = .ok (.invokevirtual 71, 3) := by decide +kernel
theorem d_L_law_494 : decode c_L_law 494 = .ok (.aload_n 2, 1) := by decide +kernel
theorem d_L_law_495 : decode c_L_law 495 = .ok (.aload_n 0, 1) := by decide +kernel
theorem d_L_law_496 : decode c_L_law 496 = .ok (.iload_n 3, 1) := by decide +kernel
theorem d_L_law_497 : decode c_L_law 497 = .ok (.iconst 1, 1) := by decide +kernel
theorem d_L_law_498 : decode c_L_law 498 = .ok (.iadd, 1) := by decide +kernel
theorem d_L_law_499 : decode c_L_law 499 = .ok (.iaload, 1) := by decide +kernel
theorem d_L_law_500 : decode c_L_law 500 = .ok (.aload_n 0, 1) := by decide +kernel
theorem d_L_law_501 : decode c_L_law 501 = .ok (.iload_n 3, 1) := by decide +kernel
theorem d_L_law_502 : decode c_L_law 502 = .ok (.iconst 2, 1) := by decide +kernel
theorem d_L_law_503 : decode c_L_law 503 = .ok (.iadd, 1) := by decide +kernel
theorem d_L_law_504 : decode c_L_law 504 = .ok (.iaload, 1) := by decide +kernel
theorem d_L_law_505 : decode c_L_law 505 = .ok (.aload_n 0, 1) := by decide +kernel
theorem d_L_law_506 : decode c_L_law 506 = .ok (.iload_n 3, 1) := by decide +kernel
theorem d_L_law_507 : decode c_L_law 507 = .ok (.iconst 3, 1) := by decide +kernel
theorem d_L_law_508 : decode c_L_law 508 = .ok (.iadd, 1) := by decide +kernel
theorem d_L_law_509 : decode c_L_law 509 = .ok (.iaload, 1) := by decide +kernel
theorem d_L_law_510 : decode c_L_law 510 = .ok (.invokevirtual 74, 3) := by decide +kernel
theorem d_L_law_513 : decode c_L_law 513 = .ok (.lcmp, 1) := by decide +kernel
theorem d_L_law_514 : decode c_L_law 514 = .ok (.ifCond .eq 224, 3) := by decide +kernel
theorem d_L_law_517 : decode c_L_law 517 = .ok (.iconst 0, 1) := by decide +kernel
theorem d_L_law_518 : decode c_L_law 518 = .ok (.ireturn, 1) := by decide +kernel
theorem d_L_law_519 : decode c_L_law 519 = .ok (.aload_n 1, 1) := by decide +kernel
theorem d_L_law_520 : decode c_L_law 520 = .ok (.aload_n 0, 1) := by decide +kernel
theorem d_L_law_521 : decode c_L_law 521 = .ok (.iload_n 3, 1) := by decide +kernel
theorem d_L_law_522 : decode c_L_law 522 = .ok (.iconst 1, 1) := by decide +kernel
theorem d_L_law_523 : decode c_L_law 523 = .ok (.iadd, 1) := by decide +kernel
theorem d_L_law_524 : decode c_L_law 524 = .ok (.iaload, 1) := by decide +kernel
theorem d_L_law_525 : decode c_L_law 525 = .ok (.aload_n 0, 1) := by decide +kernel
theorem d_L_law_526 : decode c_L_law 526 = .ok (.iload_n 3, 1) := by decide +kernel
theorem d_L_law_527 : decode c_L_law 527 = .ok (.iconst 2, 1) := by decide +kernel
theorem d_L_law_528 : decode c_L_law 528 = .ok (.iadd, 1) := by decide +kernel
theorem d_L_law_529 : decode c_L_law 529 = .ok (.iaload, 1) := by decide +kernel
theorem d_L_law_530 : decode c_L_law 530 = .ok (.invokevirtual 75, 3) := by decide +kernel
theorem d_L_law_533 : decode c_L_law 533 = .ok (.aload_n 2, 1) := by decide +kernel
theorem d_L_law_534 : decode c_L_law 534 = .ok (.aload_n 0, 1) := by decide +kernel
theorem d_L_law_535 : decode c_L_law 535 = .ok (.iload_n 3, 1) := by decide +kernel
theorem d_L_law_536 : decode c_L_law 536 = .ok (.iconst 1, 1) := by decide +kernel
theorem d_L_law_537 : decode c_L_law 537 = .ok (.iadd, 1) := by decide +kernel
theorem d_L_law_538 : decode c_L_law 538 = .ok (.iaload, 1) := by decide +kernel
theorem d_L_law_539 : decode c_L_law 539 = .ok (.aload_n 0, 1) := by decide +kernel
theorem d_L_law_540 : decode c_L_law 540 = .ok (.iload_n 3, 1) := by decide +kernel
theorem d_L_law_541 : decode c_L_law 541 = .ok (.iconst 2, 1) := by decide +kernel
theorem d_L_law_542 : decode c_L_law 542 = .ok (.iadd, 1) := by decide +kernel
theorem d_L_law_543 : decode c_L_law 543 = .ok (.iaload, 1) := by decide +kernel
theorem d_L_law_544 : decode c_L_law 544 = .ok (.invokevirtual 78, 3) := by decide +kernel
theorem d_L_law_547 : decode c_L_law 547 = .ok (.lcmp, 1) := by decide +kernel
theorem d_L_law_548 : decode c_L_law 548 = .ok (.ifCond .eq 190, 3) := by decide +kernel
theorem d_L_law_551 : decode c_L_law 551 = .ok (.iconst 0, 1) := by decide +kernel
theorem d_L_law_552 : decode c_L_law 552 = .ok (.ireturn, 1) := by decide +kernel
theorem d_L_law_553 : decode c_L_law 553 = .ok (.aload_n 1, 1) := by decide +kernel
theorem d_L_law_554 : decode c_L_law 554 = .ok (.aload_n 0, 1) := by decide +kernel
theorem d_L_law_555 : decode c_L_law 555 = .ok (.iload_n 3, 1) := by decide +kernel
theorem d_L_law_556 : decode c_L_law 556 = .ok (.iconst 1, 1) := by decide +kernel
theorem d_L_law_557 : decode c_L_law 557 = .ok (.iadd, 1) := by decide +kernel
theorem d_L_law_558 : decode c_L_law 558 = .ok (.iaload, 1) := by decide +kernel
theorem d_L_law_559 : decode c_L_law 559 = .ok (.aload_n 0, 1) := by decide +kernel
theorem d_L_law_560 : decode c_L_law 560 = .ok (.iload_n 3, 1) := by decide +kernel
theorem d_L_law_561 : decode c_L_law 561 = .ok (.iconst 2, 1) := by decide +kernel
theorem d_L_law_562 : decode c_L_law 562 = .ok (.iadd, 1) := by decide +kernel
theorem d_L_law_563 : decode c_L_law 563 = .ok (.iaload, 1) := by decide +kernel
theorem d_L_law_564 : decode c_L_law 564 = .ok (.aload_n 0, 1) := by decide +kernel
theorem d_L_law_565 : decode c_L_law 565 = .ok (.iload_n 3, 1) := by decide +kernel
theorem d_L_law_566 : decode c_L_law 566 = .ok (.iconst 3, 1) := by decide +kernel
theorem d_L_law_567 : decode c_L_law 567 = .ok (.iadd, 1) := by decide +kernel
theorem d_L_law_568 : decode c_L_law 568 = .ok (.iaload, 1) := by decide +kernel
theorem d_L_law_569 : decode c_L_law 569 = .ok (.invokevirtual 79, 3) := by decide +kernel
theorem d_L_law_572 : decode c_L_law 572 = .ok (.aload_n 2, 1) := by decide +kernel
theorem d_L_law_573 : decode c_L_law 573 = .ok (.aload_n 0, 1) := by decide +kernel
theorem d_L_law_574 : decode c_L_law 574 = .ok (.iload_n 3, 1) := by decide +kernel
theorem d_L_law_575 : decode c_L_law 575 = .ok (.iconst 1, 1) := by decide +kernel
theorem d_L_law_576 : decode c_L_law 576 = .ok (.iadd, 1) := by decide +kernel
theorem d_L_law_577 : decode c_L_law 577 = .ok (.iaload, 1) := by decide +kernel
theorem d_L_law_578 : decode c_L_law 578 = .ok (.aload_n 0, 1) := by decide +kernel
theorem d_L_law_579 : decode c_L_law 579 = .ok (.iload_n 3, 1) := by decide +kernel
theorem d_L_law_580 : decode c_L_law 580 = .ok (.iconst 2, 1) := by decide +kernel
theorem d_L_law_581 : decode c_L_law 581 = .ok (.iadd, 1) := by decide +kernel
theorem d_L_law_582 : decode c_L_law 582 = .ok (.iaload, 1) := by decide +kernel
theorem d_L_law_583 : decode c_L_law 583 = .ok (.aload_n 0, 1) := by decide +kernel
theorem d_L_law_584 : decode c_L_law 584 = .ok (.iload_n 3, 1) := by decide +kernel
theorem d_L_law_585 : decode c_L_law 585 = .ok (.iconst 3, 1) := by decide +kernel
theorem d_L_law_586 : decode c_L_law 586 = .ok (.iadd, 1) := by decide +kernel
theorem d_L_law_587 : decode c_L_law 587 = .ok (.iaload, 1) := by decide +kernel
theorem d_L_law_588 : decode c_L_law 588 = .ok (.invokevirtual 82, 3) := by decide +kernel
theorem d_L_law_591 : decode c_L_law 591 = .ok (.lcmp, 1) := by decide +kernel
theorem d_L_law_592 : decode c_L_law 592 = .ok (.ifCond .eq 146, 3) := by decide +kernel
theorem d_L_law_595 : decode c_L_law 595 = .ok (.iconst 0, 1) := by decide +kernel
theorem d_L_law_596 : decode c_L_law 596 = .ok (.ireturn, 1) := by decide +kernel
theorem d_L_law_597 : decode c_L_law 597 = .ok (.aload_n 1, 1) := by decide +kernel
theorem d_L_law_598 : decode c_L_law 598 = .ok (.aload_n 0, 1) := by decide +kernel
theorem d_L_law_599 : decode c_L_law 599 = .ok (.iload_n 3, 1) := by decide +kernel
theorem d_L_law_600 : decode c_L_law 600 = .ok (.iconst 1, 1) := by decide +kernel
theorem d_L_law_601 : decode c_L_law 601 = .ok (.iadd, 1) := by decide +kernel
theorem d_L_law_602 : decode c_L_law 602 = .ok (.iaload, 1) := by decide +kernel
theorem d_L_law_603 : decode c_L_law 603 = .ok (.aload_n 0, 1) := by decide +kernel
theorem d_L_law_604 : decode c_L_law 604 = .ok (.iload_n 3, 1) := by decide +kernel
theorem d_L_law_605 : decode c_L_law 605 = .ok (.iconst 2, 1) := by decide +kernel
theorem d_L_law_606 : decode c_L_law 606 = .ok (.iadd, 1) := by decide +kernel
theorem d_L_law_607 : decode c_L_law 607 = .ok (.iaload, 1) := by decide +kernel
theorem d_L_law_608 : decode c_L_law 608 = .ok (.aload_n 0, 1) := by decide +kernel
theorem d_L_law_609 : decode c_L_law 609 = .ok (.iload_n 3, 1) := by decide +kernel
theorem d_L_law_610 : decode c_L_law 610 = .ok (.iconst 3, 1) := by decide +kernel
theorem d_L_law_611 : decode c_L_law 611 = .ok (.iadd, 1) := by decide +kernel
theorem d_L_law_612 : decode c_L_law 612 = .ok (.iaload, 1) := by decide +kernel
theorem d_L_law_613 : decode c_L_law 613 = .ok (.aload_n 0, 1) := by decide +kernel
theorem d_L_law_614 : decode c_L_law 614 = .ok (.iload_n 3, 1) := by decide +kernel
theorem d_L_law_615 : decode c_L_law 615 = .ok (.iconst 4, 1) := by decide +kernel
theorem d_L_law_616 : decode c_L_law 616 = .ok (.iadd, 1) := by decide +kernel
theorem d_L_law_617 : decode c_L_law 617 = .ok (.iaload, 1) := by decide +kernel
theorem d_L_law_618 : decode c_L_law 618 = .ok (.invokevirtual 83, 3) := by decide +kernel
theorem d_L_law_621 : decode c_L_law 621 = .ok (.aload_n 2, 1) := by decide +kernel
theorem d_L_law_622 : decode c_L_law 622 = .ok (.aload_n 0, 1) := by decide +kernel
theorem d_L_law_623 : decode c_L_law 623 = .ok (.iload_n 3, 1) := by decide +kernel
theorem d_L_law_624 : decode c_L_law 624 = .ok (.iconst 1, 1) := by decide +kernel
theorem d_L_law_625 : decode c_L_law 625 = .ok (.iadd, 1) := by decide +kernel
theorem d_L_law_626 : decode c_L_law 626 = .ok (.iaload, 1) := by decide +kernel
theorem d_L_law_627 : decode c_L_law 627 = .ok (.aload_n 0, 1) := by decide +kernel
theorem d_L_law_628 : decode c_L_law 628 = .ok (.iload_n 3, 1) := by decide +kernel
theorem d_L_law_629 : decode c_L_law 629 = .ok (.iconst 2, 1) := by decide +kernel
theorem d_L_law_630 : decode c_L_law 630 = .ok (.iadd, 1) := by decide +kernel
theorem d_L_law_631 : decode c_L_law 631 = .ok (.iaload, 1) := by decide +kernel
theorem d_L_law_632 : decode c_L_law 632 = .ok (.aload_n 0, 1) := by decide +kernel
theorem d_L_law_633 : decode c_L_law 633 = .ok (.iload_n 3, 1) := by decide +kernel
theorem d_L_law_634 : decode c_L_law 634 = .ok (.iconst 3, 1) := by decide +kernel
theorem d_L_law_635 : decode c_L_law 635 = .ok (.iadd, 1) := by decide +kernel
theorem d_L_law_636 : decode c_L_law 636 = .ok (.iaload, 1) := by decide +kernel
theorem d_L_law_637 : decode c_L_law 637 = .ok (.aload_n 0, 1) := by decide +kernel
theorem d_L_law_638 : decode c_L_law 638 = .ok (.iload_n 3, 1) := by decide +kernel
theorem d_L_law_639 : decode c_L_law 639 = .ok (.iconst 4, 1) := by decide +kernel
theorem d_L_law_640 : decode c_L_law 640 = .ok (.iadd, 1) := by decide +kernel
theorem d_L_law_641 : decode c_L_law 641 = .ok (.iaload, 1) := by decide +kernel
theorem d_L_law_642 : decode c_L_law 642 = .ok (.invokevirtual 87, 3) := by decide +kernel
theorem d_L_law_645 : decode c_L_law 645 = .ok (.lcmp, 1) := by decide +kernel
theorem d_L_law_646 : decode c_L_law 646 = .ok (.ifCond .eq 92, 3) := by decide +kernel
theorem d_L_law_649 : decode c_L_law 649 = .ok (.iconst 0, 1) := by decide +kernel
theorem d_L_law_650 : decode c_L_law 650 = .ok (.ireturn, 1) := by decide +kernel
theorem d_L_law_651 : decode c_L_law 651 = .ok (.aload_n 1, 1) := by decide +kernel
theorem d_L_law_652 : decode c_L_law 652 = .ok (.aload_n 0, 1) := by decide +kernel
theorem d_L_law_653 : decode c_L_law 653 = .ok (.iload_n 3, 1) := by decide +kernel
theorem d_L_law_654 : decode c_L_law 654 = .ok (.iconst 1, 1) := by decide +kernel
theorem d_L_law_655 : decode c_L_law 655 = .ok (.iadd, 1) := by decide +kernel
theorem d_L_law_656 : decode c_L_law 656 = .ok (.iaload, 1) := by decide +kernel
theorem d_L_law_657 : decode c_L_law 657 = .ok (.aload_n 0, 1) := by decide +kernel
theorem d_L_law_658 : decode c_L_law 658 = .ok (.iload_n 3, 1) := by decide +kernel
theorem d_L_law_659 : decode c_L_law 659 = .ok (.iconst 2, 1) := by decide +kernel
theorem d_L_law_660 : decode c_L_law 660 = .ok (.iadd, 1) := by decide +kernel
theorem d_L_law_661 : decode c_L_law 661 = .ok (.iaload, 1) := by decide +kernel
theorem d_L_law_662 : decode c_L_law 662 = .ok (.aload_n 0, 1) := by decide +kernel
theorem d_L_law_663 : decode c_L_law 663 = .ok (.iload_n 3, 1) := by decide +kernel
theorem d_L_law_664 : decode c_L_law 664 = .ok (.iconst 3, 1) := by decide +kernel
theorem d_L_law_665 : decode c_L_law 665 = .ok (.iadd, 1) := by decide +kernel
theorem d_L_law_666 : decode c_L_law 666 = .ok (.iaload, 1) := by decide +kernel
theorem d_L_law_667 : decode c_L_law 667 = .ok (.invokevirtual 88, 3) := by decide +kernel
theorem d_L_law_670 : decode c_L_law 670 = .ok (.aload_n 2, 1) := by decide +kernel
theorem d_L_law_671 : decode c_L_law 671 = .ok (.aload_n 0, 1) := by decide +kernel
theorem d_L_law_672 : decode c_L_law 672 = .ok (.iload_n 3, 1) := by decide +kernel
theorem d_L_law_673 : decode c_L_law 673 = .ok (.iconst 1, 1) := by decide +kernel
theorem d_L_law_674 : decode c_L_law 674 = .ok (.iadd, 1) := by decide +kernel
theorem d_L_law_675 : decode c_L_law 675 = .ok (.iaload, 1) := by decide +kernel
theorem d_L_law_676 : decode c_L_law 676 = .ok (.aload_n 0, 1) := by decide +kernel
theorem d_L_law_677 : decode c_L_law 677 = .ok (.iload_n 3, 1) := by decide +kernel
theorem d_L_law_678 : decode c_L_law 678 = .ok (.iconst 2, 1) := by decide +kernel
theorem d_L_law_679 : decode c_L_law 679 = .ok (.iadd, 1) := by decide +kernel
theorem d_L_law_680 : decode c_L_law 680 = .ok (.iaload, 1) := by decide +kernel
theorem d_L_law_681 : decode c_L_law 681 = .ok (.aload_n 0, 1) := by decide +kernel
theorem d_L_law_682 : decode c_L_law 682 = .ok (.iload_n 3, 1) := by decide +kernel
theorem d_L_law_683 : decode c_L_law 683 = .ok (.iconst 3, 1) := by decide +kernel
theorem d_L_law_684 : decode c_L_law 684 = .ok (.iadd, 1) := by decide +kernel
theorem d_L_law_685 : decode c_L_law 685 = .ok (.iaload, 1) := by decide +kernel
theorem d_L_law_686 : decode c_L_law 686 = .ok (.invokevirtual 91, 3) := by decide +kernel
theorem d_L_law_689 : decode c_L_law 689 = .ok (.lcmp, 1) := by decide +kernel
theorem d_L_law_690 : decode c_L_law 690 = .ok (.ifCond .eq 48, 3) := by decide +kernel
theorem d_L_law_693 : decode c_L_law 693 = .ok (.iconst 0, 1) := by decide +kernel
theorem d_L_law_694 : decode c_L_law 694 = .ok (.ireturn, 1) := by decide +kernel
theorem d_L_law_695 : decode c_L_law 695 = .ok (.aload_n 1, 1) := by decide +kernel
theorem d_L_law_696 : decode c_L_law 696 = .ok (.aload_n 0, 1) := by decide +kernel
theorem d_L_law_697 : decode c_L_law 697 = .ok (.iload_n 3, 1) := by decide +kernel
theorem d_L_law_698 : decode c_L_law 698 = .ok (.iconst 1, 1) := by decide +kernel
theorem d_L_law_699 : decode c_L_law 699 = .ok (.iadd, 1) := by decide +kernel
theorem d_L_law_700 : decode c_L_law 700 = .ok (.iaload, 1) := by decide +kernel
theorem d_L_law_701 : decode c_L_law 701 = .ok (.aload_n 0, 1) := by decide +kernel
theorem d_L_law_702 : decode c_L_law 702 = .ok (.iload_n 3, 1) := by decide +kernel
theorem d_L_law_703 : decode c_L_law 703 = .ok (.iconst 2, 1) := by decide +kernel
theorem d_L_law_704 : decode c_L_law 704 = .ok (.iadd, 1) := by decide +kernel
theorem d_L_law_705 : decode c_L_law 705 = .ok (.iaload, 1) := by decide +kernel
theorem d_L_law_706 : decode c_L_law 706 = .ok (.aload_n 0, 1) := by decide +kernel
theorem d_L_law_707 : decode c_L_law 707 = .ok (.iload_n 3, 1) := by decide +kernel
theorem d_L_law_708 : decode c_L_law 708 = .ok (.iconst 3, 1) := by decide +kernel
theorem d_L_law_709 : decode c_L_law 709 = .ok (.iadd, 1) := by decide +kernel
theorem d_L_law_710 : decode c_L_law 710 = .ok (.iaload, 1) := by decide +kernel
theorem d_L_law_711 : decode c_L_law 711 = .ok (.invokevirtual 92, 3) := by decide +kernel
theorem d_L_law_714 : decode c_L_law 714 = .ok (.aload_n 2, 1) := by decide +kernel
theorem d_L_law_715 : decode c_L_law 715 = .ok (.aload_n 0, 1) := by decide +kernel
theorem d_L_law_716 : decode c_L_law 716 = .ok (.iload_n 3, 1) := by decide +kernel
theorem d_L_law_717 : decode c_L_law 717 = .ok (.iconst 1, 1) := by decide +kernel
theorem d_L_law_718 : decode c_L_law 718 = .ok (.iadd, 1) := by decide +kernel
theorem d_L_law_719 : decode c_L_law 719 = .ok (.iaload, 1) := by decide +kernel
theorem d_L_law_720 : decode c_L_law 720 = .ok (.aload_n 0, 1) := by decide +kernel
theorem d_L_law_721 : decode c_L_law 721 = .ok (.iload_n 3, 1) := by decide +kernel
theorem d_L_law_722 : decode c_L_law 722 = .ok (.iconst 2, 1) := by decide +kernel
theorem d_L_law_723 : decode c_L_law 723 = .ok (.iadd, 1) := by decide +kernel
theorem d_L_law_724 : decode c_L_law 724 = .ok (.iaload, 1) := by decide +kernel
theorem d_L_law_725 : decode c_L_law 725 = .ok (.aload_n 0, 1) := by decide +kernel
theorem d_L_law_726 : decode c_L_law 726 = .ok (.iload_n 3, 1) := by decide +kernel
theorem d_L_law_727 : decode c_L_law 727 = .ok (.iconst 3, 1) := by decide +kernel
theorem d_L_law_728 : decode c_L_law 728 = .ok (.iadd, 1) := by decide +kernel
theorem d_L_law_729 : decode c_L_law 729 = .ok (.iaload, 1) := by decide +kernel
theorem d_L_law_730 : decode c_L_law 730 = .ok (.invokevirtual 95, 3) := by decide +kernel
theorem d_L_law_733 : decode c_L_law 733 = .ok (.if_icmp .eq 5, 3) := by decide +kernel
theorem d_L_law_736 : decode c_L_law 736 = .ok (.iconst 0, 1) := by decide +kernel
theorem d_L_law_737 : decode c_L_law 737 = .ok (.ireturn, 1) := by decide +kernel
theorem d_L_law_738 : decode c_L_law 738 = .ok (.iinc 3 5, 3) := by decide +kernel
theorem d_L_law_741 : decode c_L_law 741 = .ok (.goto (-723), 3) := by decide +kernel
theorem d_L_law_744 : decode c_L_law 744 = .ok (.iconst 1, 1) := by decide +kernel
theorem d_L_law_745 : decode c_L_law 745 = .ok (.ireturn, 1) := by decide +kernel
end
section
-- arrays of the world in canonical words; sums; longs out of Int
abbrev cI (g : aw_G) : ClassId := (g.2.2.getD 0 (0, .int)).1
abbrev cJ (g : aw_G) : ClassId := (g.2.2.getD 1 (0, .int)).1
abbrev cII (g : aw_G) : ClassId := (g.2.2.getD 2 (0, .int)).1
abbrev cJJ (g : aw_G) : ClassId := (g.2.2.getD 3 (0, .int)).1
def aw_T (g : aw_G) : Prop := g.2.2 = [(cI g, .int), (cJ g, .long), (cII g, .array .int), (cJJ g, .array .long)]
theorem aw_T0 {g : aw_G} (h : aw_T g) : g.2.2[0]? = some (cI g, .int) := by
  have e := congrArg (fun l : List (ClassId × FieldType) => l[0]?) h
  exact e
theorem aw_T1 {g : aw_G} (h : aw_T g) : g.2.2[1]? = some (cJ g, .long) := by
  have e := congrArg (fun l : List (ClassId × FieldType) => l[1]?) h
  exact e
theorem aw_T2 {g : aw_G} (h : aw_T g) : g.2.2[2]? = some (cII g, .array .int) := by
  have e := congrArg (fun l : List (ClassId × FieldType) => l[2]?) h
  exact e
theorem aw_T3 {g : aw_G} (h : aw_T g) : g.2.2[3]? = some (cJJ g, .array .long) := by
  have e := congrArg (fun l : List (ClassId × FieldType) => l[3]?) h
  exact e
abbrev aI (g : aw_G) (n : Nat) (f : Nat → Nat) : va_E := .inl (cI g, n, .inl (fun j => nI (f j)))
abbrev aR (g : aw_G) (n : Nat) (f : Nat → Int32) : va_E := .inl (cI g, n, .inl f)
abbrev aL (g : aw_G) (n : Nat) (f : Nat → Int) : va_E := .inl (cJ g, n, .inr (.inl (fun j => lI (f j))))
abbrev aGI (g : aw_G) (r : Nat → Nat) : va_E := aw_grid (cII g) 5 r
abbrev aGL (g : aw_G) (r : Nat → Nat) : va_E := aw_grid (cJJ g) 5 r
theorem fup_nI (f : Nat → Nat) (k x : Nat) : fup (fun j => nI (f j)) k (nI x) = fun j => nI (fup f k x j) := by
  funext j
  unfold fup
  split <;> rfl
theorem fup_lI (f : Nat → Int) (k : Nat) (x : Int) : fup (fun j => lI (f j)) k (lI x) = fun j => lI (fup f k x j) := by
  funext j
  unfold fup
  split <;> rfl
theorem lI_add (a b : Int) : lI a + lI b = lI (a + b) := (Int64.ofInt_add a b).symm
theorem lI_mul (a b : Int) : lI a * lI b = lI (a * b) := (Int64.ofInt_mul a b).symm
theorem lI_sub (a b : Int) : lI a - lI b = lI (a - b) := (Int64.ofInt_sub a b).symm
theorem lI_neg (a : Int) : -lI a = lI (-a) := (Int64.ofInt_neg a).symm
theorem lI_N (n : Nat) : lI (n : Int) = lN n := by
  unfold lI lN
  exact Int64.ofInt_eq_ofNat
theorem nI_lI {n : Nat} (h : n < 2 ^ 31) : (nI n).toInt64 = lI n := by rw [nI_l h, lI_N]
/-- sums of the first n -/
def sN (f : Nat → Nat) : Nat → Nat
  | 0 => 0
  | k + 1 => sN f k + f k
def sZ (f : Nat → Int) : Nat → Int
  | 0 => 0
  | k + 1 => sZ f k + f k
theorem sN_congr {f h : Nat → Nat} : ∀ {n : Nat}, (∀ i, i < n → f i = h i) → sN f n = sN h n
  | 0, _ => rfl
  | n + 1, e => by rw [sN, sN, sN_congr (fun i hi => e i (by omega)), e n (by omega)]
theorem sZ_congr {f h : Nat → Int} : ∀ {n : Nat}, (∀ i, i < n → f i = h i) → sZ f n = sZ h n
  | 0, _ => rfl
  | n + 1, e => by rw [sZ, sZ, sZ_congr (fun i hi => e i (by omega)), e n (by omega)]
theorem sN_le {f : Nat → Nat} {b : Nat} : ∀ {n : Nat}, (∀ i, i < n → f i ≤ b) → sN f n ≤ n * b
  | 0, _ => by rw [sN]; omega
  | n + 1, e => by
    have h1 := sN_le (n := n) (fun i hi => e i (by omega))
    have h2 := e n (by omega)
    rw [sN, Nat.add_mul]
    omega
theorem sN_mem {f : Nat → Nat} : ∀ {n i : Nat}, i < n → f i ≤ sN f n
  | 0, i, h => absurd h (Nat.not_lt_zero i)
  | n + 1, i, h => by
    rw [sN]
    by_cases e : i = n
    · subst e; omega
    · have := sN_mem (f := f) (n := n) (i := i) (by omega)
      omega
theorem sN_pos {f : Nat → Nat} : ∀ {n : Nat}, 0 < sN f n → ∃ i, i < n ∧ 0 < f i
  | 0, h => by rw [sN] at h; omega
  | n + 1, h => by
    rw [sN] at h
    by_cases e : 0 < f n
    · exact ⟨n, by omega, e⟩
    · obtain ⟨i, hi, hp⟩ := sN_pos (f := f) (n := n) (by omega)
      exact ⟨i, by omega, hp⟩
section AWB
variable {g : aw_G} {y : MethodName} {cc : ByteArray} {nL : Nat} {ret : Option FieldType} {R : Room} {E : (Nat → Prop) → State → Array Value → Prop} {F : List Frame → Array Value → State → (Nat → Prop) → State → Prop} {kc ks pc : Nat} {lv : List (Nat × Value)} {st : List Value} {ws : va_W}
theorem aw_ialdA {a n q0 j : Nat} {f : Nat → Nat} (hd : decode cc pc = .ok (.iaload, 1)) (he : ws[q0]? = some (a, aI g n f)) (hg : aw_T g) (hj : j < n) (hn : n < 2 ^ 31) (k : AW g y cc nL ret R E F kc ks (pc + 1) lv (.int (nI (f j)) :: st) ws) : AW g y cc nL ret R E F kc ks pc lv (.int (nI j) :: .ref a :: st) ws :=
  aw_ialdN hd he (aw_T0 hg) hj hn k
theorem aw_iastA {a n q0 j x : Nat} {f : Nat → Nat} (hd : decode cc pc = .ok (.iastore, 1)) (he : ws[q0]? = some (a, aI g n f)) (hg : aw_T g) (hj : j < n) (hn : n < 2 ^ 31) (k : ∀ ws' : va_W, ws'[q0]? = some (a, aI g n (fup f j x)) → (∀ j, j ≠ q0 → ws'[j]? = ws[j]?) → ws'.length = ws.length → AW g y cc nL ret R E F kc ks (pc + 1) lv st ws') : AW g y cc nL ret R E F kc ks pc lv (.int (nI x) :: .int (nI j) :: .ref a :: st) ws :=
  aw_iastN hd he (aw_T0 hg) hj hn (fun ws' e1 e2 e3 => k ws' (by rw [e1, fup_nI]) e2 e3)
theorem aw_ialdR {a n q0 j : Nat} {f : Nat → Int32} (hd : decode cc pc = .ok (.iaload, 1)) (he : ws[q0]? = some (a, aR g n f)) (hg : aw_T g) (hj : j < n) (hn : n < 2 ^ 31) (k : AW g y cc nL ret R E F kc ks (pc + 1) lv (.int (f j) :: st) ws) : AW g y cc nL ret R E F kc ks pc lv (.int (nI j) :: .ref a :: st) ws :=
  aw_ialdN hd he (aw_T0 hg) hj hn k
theorem aw_iastR {a n q0 j : Nat} {x : Int32} {f : Nat → Int32} (hd : decode cc pc = .ok (.iastore, 1)) (he : ws[q0]? = some (a, aR g n f)) (hg : aw_T g) (hj : j < n) (hn : n < 2 ^ 31) (k : ∀ ws' : va_W, ws'[q0]? = some (a, aR g n (fup f j x)) → (∀ j, j ≠ q0 → ws'[j]? = ws[j]?) → ws'.length = ws.length → AW g y cc nL ret R E F kc ks (pc + 1) lv st ws') : AW g y cc nL ret R E F kc ks pc lv (.int x :: .int (nI j) :: .ref a :: st) ws :=
  aw_iastN hd he (aw_T0 hg) hj hn k
theorem aw_laldA {a n q0 j : Nat} {f : Nat → Int} (hd : decode cc pc = .ok (.laload, 1)) (he : ws[q0]? = some (a, aL g n f)) (hg : aw_T g) (hj : j < n) (hn : n < 2 ^ 31) (k : AW g y cc nL ret R E F kc ks (pc + 1) lv (.long (lI (f j)) :: st) ws) : AW g y cc nL ret R E F kc ks pc lv (.int (nI j) :: .ref a :: st) ws :=
  aw_laldN hd he (aw_T1 hg) hj hn k
theorem aw_lastA {a n q0 j : Nat} {x : Int} {f : Nat → Int} (hd : decode cc pc = .ok (.lastore, 1)) (he : ws[q0]? = some (a, aL g n f)) (hg : aw_T g) (hj : j < n) (hn : n < 2 ^ 31) (k : ∀ ws' : va_W, ws'[q0]? = some (a, aL g n (fup f j x)) → (∀ j, j ≠ q0 → ws'[j]? = ws[j]?) → ws'.length = ws.length → AW g y cc nL ret R E F kc ks (pc + 1) lv st ws') : AW g y cc nL ret R E F kc ks pc lv (.long (lI x) :: .int (nI j) :: .ref a :: st) ws :=
  aw_lastN hd he (aw_T1 hg) hj hn (fun ws' e1 e2 e3 => k ws' (by rw [e1, fup_lI]) e2 e3)
theorem aw_aaldI {a q0 j : Nat} {r : Nat → Nat} (hd : decode cc pc = .ok (.aaload, 1)) (he : ws[q0]? = some (a, aGI g r)) (hg : aw_T g) (hj : j < 5) (k : AW g y cc nL ret R E F kc ks (pc + 1) lv (.ref (r j) :: st) ws) : AW g y cc nL ret R E F kc ks pc lv (.int (nI j) :: .ref a :: st) ws :=
  aw_aaldN hd he (aw_T2 hg) hj (by decide) (if_pos hj) k
theorem aw_aaldL {a q0 j : Nat} {r : Nat → Nat} (hd : decode cc pc = .ok (.aaload, 1)) (he : ws[q0]? = some (a, aGL g r)) (hg : aw_T g) (hj : j < 5) (k : AW g y cc nL ret R E F kc ks (pc + 1) lv (.ref (r j) :: st) ws) : AW g y cc nL ret R E F kc ks pc lv (.int (nI j) :: .ref a :: st) ws :=
  aw_aaldN hd he (aw_T3 hg) hj (by decide) (if_pos hj) k
end AWB
/-- a method that only reads -/
def aw_R (v0 : Value) (ws : va_W) : Option Value → va_W → Prop := fun v ws' => v = some v0 ∧ ws = ws'
end
section
-- rows in canonical words: ints out of Nat, longs out of Int
section AWC
variable {g : aw_G} {y : MethodName} {cc : ByteArray} {nL : Nat} {ret : Option FieldType} {R : Room} {E : (Nat → Prop) → State → Array Value → Prop} {F : List Frame → Array Value → State → (Nat → Prop) → State → Prop} {kc ks pc : Nat} {lv : List (Nat × Value)} {st : List Value} {ws : va_W}
theorem aw_iaddN {a b : Nat} (hd : decode cc pc = .ok (.iadd, 1)) (k : AW g y cc nL ret R E F kc ks (pc + 1) lv (.int (nI (a + b)) :: st) ws) : AW g y cc nL ret R E F kc ks pc lv (.int (nI b) :: .int (nI a) :: st) ws := aw_iadd hd (aw_nmi (nI_add a b) k)
theorem aw_imulN {a b : Nat} (hd : decode cc pc = .ok (.imul, 1)) (k : AW g y cc nL ret R E F kc ks (pc + 1) lv (.int (nI (a * b)) :: st) ws) : AW g y cc nL ret R E F kc ks pc lv (.int (nI b) :: .int (nI a) :: st) ws := aw_imul hd (aw_nmi (pk_mul a b) k)
theorem aw_isubN {a b : Nat} (hd : decode cc pc = .ok (.isub, 1)) (h : b ≤ a) (k : AW g y cc nL ret R E F kc ks (pc + 1) lv (.int (nI (a - b)) :: st) ws) : AW g y cc nL ret R E F kc ks pc lv (.int (nI b) :: .int (nI a) :: st) ws := aw_isub hd (aw_nmi (pk_sub h) k)
theorem aw_idivN {a b : Nat} (hd : decode cc pc = .ok (.idiv, 1)) (h0 : 0 < b) (ha : a < 2 ^ 31) (hb : b < 2 ^ 31) (k : AW g y cc nL ret R E F kc ks (pc + 1) lv (.int (nI (a / b)) :: st) ws) : AW g y cc nL ret R E F kc ks pc lv (.int (nI b) :: .int (nI a) :: st) ws := aw_idiv hd (nI_ne0 h0 hb) (aw_nmi (pk_div ha h0 hb) k)
theorem aw_iremN {a b : Nat} (hd : decode cc pc = .ok (.irem, 1)) (h0 : 0 < b) (ha : a < 2 ^ 31) (hb : b < 2 ^ 31) (k : AW g y cc nL ret R E F kc ks (pc + 1) lv (.int (nI (a % b)) :: st) ws) : AW g y cc nL ret R E F kc ks pc lv (.int (nI b) :: .int (nI a) :: st) ws := aw_irem hd (nI_ne0 h0 hb) (aw_nmi (pk_rem ha h0 hb) k)
theorem aw_laddI {a b : Int} (hd : decode cc pc = .ok (.ladd, 1)) (k : AW g y cc nL ret R E F kc ks (pc + 1) lv (.long (lI (a + b)) :: st) ws) : AW g y cc nL ret R E F kc ks pc lv (.long (lI b) :: .long (lI a) :: st) ws := aw_ladd hd (aw_nml (lI_add a b) k)
theorem aw_lmulI {a b : Int} (hd : decode cc pc = .ok (.lmul, 1)) (k : AW g y cc nL ret R E F kc ks (pc + 1) lv (.long (lI (a * b)) :: st) ws) : AW g y cc nL ret R E F kc ks pc lv (.long (lI b) :: .long (lI a) :: st) ws := aw_lmul hd (aw_nml (lI_mul a b) k)
theorem aw_lsubI {a b : Int} (hd : decode cc pc = .ok (.lsub, 1)) (k : AW g y cc nL ret R E F kc ks (pc + 1) lv (.long (lI (a - b)) :: st) ws) : AW g y cc nL ret R E F kc ks pc lv (.long (lI b) :: .long (lI a) :: st) ws := aw_lsub hd (aw_nml (lI_sub a b) k)
theorem aw_lnegI {a : Int} (hd : decode cc pc = .ok (.lneg, 1)) (k : AW g y cc nL ret R E F kc ks (pc + 1) lv (.long (lI (-a)) :: st) ws) : AW g y cc nL ret R E F kc ks pc lv (.long (lI a) :: st) ws := aw_lneg hd (aw_nml (lI_neg a) k)
theorem aw_i2lN {a : Nat} (hd : decode cc pc = .ok (.i2l, 1)) (ha : a < 2 ^ 31) (k : AW g y cc nL ret R E F kc ks (pc + 1) lv (.long (lI (a : Int)) :: st) ws) : AW g y cc nL ret R E F kc ks pc lv (.int (nI a) :: st) ws := aw_i2l hd (aw_nml (nI_lI ha) k)
theorem lI_l2i (a : Nat) : (lI (a : Int)).toInt32 = nI a := by rw [lI_N]; exact lN_i a
theorem aw_l2iN {a : Nat} (hd : decode cc pc = .ok (.l2i, 1)) (k : AW g y cc nL ret R E F kc ks (pc + 1) lv (.int (nI a) :: st) ws) : AW g y cc nL ret R E F kc ks pc lv (.long (lI (a : Int)) :: st) ws := aw_l2i hd (aw_nmi (lI_l2i a) k)
theorem aw_ldivI {a b : Nat} (hd : decode cc pc = .ok (.ldiv, 1)) (h0 : 0 < b) (ha : a < 2 ^ 63) (hb : b < 2 ^ 63) (k : AW g y cc nL ret R E F kc ks (pc + 1) lv (.long (lI ((a / b : Nat) : Int)) :: st) ws) : AW g y cc nL ret R E F kc ks pc lv (.long (lI (b : Int)) :: .long (lI (a : Int)) :: st) ws := by
  refine aw_ldiv hd (fun q => ?_) (aw_nml (z := lI ((a / b : Nat) : Int)) ?_ k)
  · rw [lI_N] at q
    have e := (pk_lEQ hb (by decide : (0 : Nat) < 2 ^ 63)).mp q
    omega
  · rw [lI_N, lI_N, lI_N]; exact pk_lDiv ha h0 hb
theorem aw_lremI {a b : Nat} (hd : decode cc pc = .ok (.lrem, 1)) (h0 : 0 < b) (ha : a < 2 ^ 63) (hb : b < 2 ^ 63) (k : AW g y cc nL ret R E F kc ks (pc + 1) lv (.long (lI ((a % b : Nat) : Int)) :: st) ws) : AW g y cc nL ret R E F kc ks pc lv (.long (lI (b : Int)) :: .long (lI (a : Int)) :: st) ws := by
  refine aw_lrem hd (fun q => ?_) (aw_nml (z := lI ((a % b : Nat) : Int)) ?_ k)
  · rw [lI_N] at q
    have e := (pk_lEQ hb (by decide : (0 : Nat) < 2 ^ 63)).mp q
    omega
  · rw [lI_N, lI_N, lI_N]; exact pk_lRem ha h0 hb
theorem lI_toInt {z : Int} (h1 : -2 ^ 63 ≤ z) (h2 : z < 2 ^ 63) : (lI z).toInt = z := Int64.toInt_ofInt_of_le h1 h2
theorem lI_inj {a b : Int} (a1 : -2 ^ 63 ≤ a) (a2 : a < 2 ^ 63) (b1 : -2 ^ 63 ≤ b) (b2 : b < 2 ^ 63) : lI a = lI b ↔ a = b := by
  constructor
  · intro h
    have e := congrArg Int64.toInt h
    rwa [lI_toInt a1 a2, lI_toInt b1 b2] at e
  · intro h; rw [h]
theorem lI_lt {a b : Int} (a1 : -2 ^ 63 ≤ a) (a2 : a < 2 ^ 63) (b1 : -2 ^ 63 ≤ b) (b2 : b < 2 ^ 63) : lI a < lI b ↔ a < b := by
  rw [Int64.lt_iff_toInt_lt, lI_toInt a1 a2, lI_toInt b1 b2]
/-- lcmp, then a branch: by the Ints -/
def cz (a b : Int) : Int32 := if b < a then 1 else if a = b then 0 else -1
theorem lg_cmp_cz {a b : Int} (a1 : -2 ^ 63 ≤ a) (a2 : a < 2 ^ 63) (b1 : -2 ^ 63 ≤ b) (b2 : b < 2 ^ 63) : lg_cmp (lI a) (lI b) = cz a b := by
  unfold lg_cmp cz
  by_cases h : b < a
  · rw [if_pos h, if_pos ((lI_lt b1 b2 a1 a2).mpr h)]
  · rw [if_neg h, if_neg (fun q => h ((lI_lt b1 b2 a1 a2).mp q))]
    by_cases h2 : a = b
    · rw [if_pos h2, if_pos ((lI_inj a1 a2 b1 b2).mpr h2)]
    · rw [if_neg h2, if_neg (fun q => h2 ((lI_inj a1 a2 b1 b2).mp q))]
theorem aw_lcmpI {a b : Int} (hd : decode cc pc = .ok (.lcmp, 1)) (a1 : -2 ^ 63 ≤ a) (a2 : a < 2 ^ 63) (b1 : -2 ^ 63 ≤ b) (b2 : b < 2 ^ 63) (k : AW g y cc nL ret R E F kc ks (pc + 1) lv (.int (cz a b) :: st) ws) : AW g y cc nL ret R E F kc ks pc lv (.long (lI b) :: .long (lI a) :: st) ws := aw_lcmp hd (aw_nmi (lg_cmp_cz a1 a2 b1 b2) k)
theorem cz_eq {a b : Int} : cz a b = 0 ↔ a = b := by
  unfold cz
  by_cases h : b < a
  · rw [if_pos h]; exact ⟨fun q => absurd q (by decide), fun q => by omega⟩
  · rw [if_neg h]
    by_cases h2 : a = b
    · rw [if_pos h2]; exact ⟨fun _ => h2, fun _ => rfl⟩
    · rw [if_neg h2]; exact ⟨fun q => absurd q (by decide), fun q => absurd q h2⟩
theorem cz_gt {a b : Int} : 0 < cz a b ↔ b < a := by
  unfold cz
  by_cases h : b < a
  · rw [if_pos h]; exact ⟨fun _ => h, fun _ => by decide⟩
  · rw [if_neg h]
    by_cases h2 : a = b
    · rw [if_pos h2]; exact ⟨fun q => absurd q (by decide), fun q => absurd q h⟩
    · rw [if_neg h2]; exact ⟨fun q => absurd q (by decide), fun q => absurd q h⟩
theorem cz_le {a b : Int} : cz a b ≤ 0 ↔ a ≤ b := by
  unfold cz
  by_cases h : b < a
  · rw [if_pos h]; exact ⟨fun q => absurd q (by decide), fun q => by omega⟩
  · rw [if_neg h]
    by_cases h2 : a = b
    · rw [if_pos h2]; exact ⟨fun _ => by omega, fun _ => by decide⟩
    · rw [if_neg h2]; exact ⟨fun _ => by omega, fun _ => by decide⟩
theorem aw_if_eqC {a b : Int} {off : Int} {tgt : Nat} (hd : decode cc pc = .ok (.ifCond .eq off, 3)) (ht : (pc : Int) + off = (tgt : Int)) (kt : a = b → AW g y cc nL ret R E F kc ks tgt lv st ws) (kf : ¬ a = b → AW g y cc nL ret R E F kc ks (pc + 3) lv st ws) : AW g y cc nL ret R E F kc ks pc lv (.int (cz a b) :: st) ws := aw_if_eq hd ht (fun h => kt (cz_eq.mp h)) (fun h => kf (fun q => h (cz_eq.mpr q)))
theorem aw_if_neC {a b : Int} {off : Int} {tgt : Nat} (hd : decode cc pc = .ok (.ifCond .ne off, 3)) (ht : (pc : Int) + off = (tgt : Int)) (kt : ¬ a = b → AW g y cc nL ret R E F kc ks tgt lv st ws) (kf : a = b → AW g y cc nL ret R E F kc ks (pc + 3) lv st ws) : AW g y cc nL ret R E F kc ks pc lv (.int (cz a b) :: st) ws := aw_if_ne hd ht (fun h => kt (fun q => h (cz_eq.mpr q))) (fun h => kf (cz_eq.mp h))
theorem aw_if_gtC {a b : Int} {off : Int} {tgt : Nat} (hd : decode cc pc = .ok (.ifCond .gt off, 3)) (ht : (pc : Int) + off = (tgt : Int)) (kt : b < a → AW g y cc nL ret R E F kc ks tgt lv st ws) (kf : a ≤ b → AW g y cc nL ret R E F kc ks (pc + 3) lv st ws) : AW g y cc nL ret R E F kc ks pc lv (.int (cz a b) :: st) ws := aw_if_gt hd ht (fun h => kt (cz_gt.mp h)) (fun h => kf (Int.not_lt.mp (fun q => h (cz_gt.mpr q))))
theorem aw_if_leC {a b : Int} {off : Int} {tgt : Nat} (hd : decode cc pc = .ok (.ifCond .le off, 3)) (ht : (pc : Int) + off = (tgt : Int)) (kt : a ≤ b → AW g y cc nL ret R E F kc ks tgt lv st ws) (kf : b < a → AW g y cc nL ret R E F kc ks (pc + 3) lv st ws) : AW g y cc nL ret R E F kc ks pc lv (.int (cz a b) :: st) ws := aw_if_le hd ht (fun h => kt (cz_le.mp h)) (fun h => kf (Int.not_le.mp (fun q => h (cz_le.mpr q))))
/-- any int against a node's count: in range, or not -/
theorem aw_if_ltX {x : Int32} {off : Int} {tgt : Nat} (hd : decode cc pc = .ok (.ifCond .lt off, 3)) (ht : (pc : Int) + off = (tgt : Int)) (kt : x < 0 → AW g y cc nL ret R E F kc ks tgt lv st ws) (kf : (∃ j : Nat, j < 2 ^ 31 ∧ x = nI j) → AW g y cc nL ret R E F kc ks (pc + 3) lv st ws) : AW g y cc nL ret R E F kc ks pc lv (.int x :: st) ws := aw_if_lt hd ht kt (fun h => kf (nI_of h))
end AWC
end
section
-- what the cells of the world are: places 0..39 the class's, 40..50 the reference's
abbrev gW (ws : va_W) (ad : Nat → Nat) : Prop := ws[0]? = some (ad 0, .inr (0, [.ref (ad 1), .ref (ad 9), .ref (ad 18), .ref (ad 23), .ref (ad 30), .ref (ad 39)]))
/-- the graph: n nodes, keep x of y, weights, jumps -/
def gG (g : aw_G) (ws : va_W) (ad : Nat → Nat) (n x y : Nat) (W : Nat → Nat → Nat) (J : Nat → Nat) : Prop :=
  ws[1]? = some (ad 1, .inr (1, [.int (nI n), .int (nI x), .int (nI y), .ref (ad 2), .ref (ad 8)])) ∧ ws[2]? = some (ad 2, aGI g (fun i => ad (3 + i))) ∧ (∀ i, i < 5 → ws[3 + i]? = some (ad (3 + i), aI g 5 (W i))) ∧ ws[8]? = some (ad 8, aI g 5 J)
/-- the steps: size, parts, totals, next -/
def gS (g : aw_G) (ws : va_W) (ad : Nat → Nat) (n : Nat) (P : Nat → Nat → Nat) (T X : Nat → Nat) : Prop :=
  ws[9]? = some (ad 9, .inr (2, [.int (nI n), .ref (ad 10), .ref (ad 16), .ref (ad 17)])) ∧ ws[10]? = some (ad 10, aGI g (fun i => ad (11 + i))) ∧ (∀ i, i < 5 → ws[11 + i]? = some (ad (11 + i), aI g 5 (P i))) ∧ ws[16]? = some (ad 16, aI g 5 T) ∧ ws[17]? = some (ad 17, aI g 5 X)
/-- the closed sets: number, members, least nodes, sets of nodes, size, leads -/
def gC (g : aw_G) (ws : va_W) (ad : Nat → Nat) (q : Nat) (M L : Nat → Nat) (O : Nat → Int32) (n : Nat) (D : Nat → Nat) : Prop :=
  ws[18]? = some (ad 18, .inr (3, [.int (nI q), .ref (ad 19), .ref (ad 20), .ref (ad 21), .int (nI n), .ref (ad 22)])) ∧ ws[19]? = some (ad 19, aI g 5 M) ∧ ws[20]? = some (ad 20, aI g 5 L) ∧ ws[21]? = some (ad 21, aR g 5 O) ∧ ws[22]? = some (ad 22, aI g 5 D)
/-- the equations: size, cells -/
def gE (g : aw_G) (ws : va_W) (ad : Nat → Nat) (n : Nat) (Z : Nat → Nat → Int) : Prop :=
  ws[23]? = some (ad 23, .inr (4, [.int (nI n), .ref (ad 24)])) ∧ ws[24]? = some (ad 24, aGL g (fun i => ad (25 + i))) ∧ (∀ i, i < 5 → ws[25 + i]? = some (ad (25 + i), aL g 5 (Z i)))
/-- the spread: now, next (they change places: p, q are 31, 32 or 32, 31), size, factors -/
def gP (g : aw_G) (ws : va_W) (ad : Nat → Nat) (p q : Nat) (A B : Nat → Int) (n : Nat) (Z : Nat → Nat → Int) : Prop :=
  ((p = 31 ∧ q = 32) ∨ (p = 32 ∧ q = 31)) ∧ ws[30]? = some (ad 30, .inr (5, [.ref (ad p), .ref (ad q), .int (nI n), .ref (ad 33)])) ∧ ws[p]? = some (ad p, aL g 5 A) ∧ ws[q]? = some (ad q, aL g 5 B) ∧ ws[33]? = some (ad 33, aGL g (fun i => ad (34 + i))) ∧ (∀ i, i < 5 → ws[34 + i]? = some (ad (34 + i), aL g 5 (Z i)))
abbrev gH (g : aw_G) (ws : va_W) (ad : Nat → Nat) (A : Nat → Int) : Prop := ws[39]? = some (ad 39, aL g 5 A)
/-- a world that is the same outside the places lo .. hi - 1 -/
def fr (lo hi : Nat) (ws ws' : va_W) : Prop := (∀ k, (k < lo ∨ hi ≤ k) → ws'[k]? = ws[k]?) ∧ ws'.length = ws.length
theorem fr.rf {lo hi : Nat} {ws : va_W} : fr lo hi ws ws := ⟨fun _ _ => rfl, rfl⟩
theorem fr.tr {lo hi : Nat} {a b c : va_W} (h1 : fr lo hi a b) (h2 : fr lo hi b c) : fr lo hi a c := ⟨fun k hk => (h2.1 k hk).trans (h1.1 k hk), h2.2.trans h1.2⟩
theorem fr.wide {lo hi lo' hi' : Nat} {a b : va_W} (h : fr lo hi a b) (h1 : lo' ≤ lo) (h2 : hi ≤ hi') : fr lo' hi' a b := ⟨fun k hk => h.1 k (by omega), h.2⟩
theorem fr.one {lo hi q : Nat} {a b : va_W} (e : ∀ j, j ≠ q → b[j]? = a[j]?) (l : b.length = a.length) (h1 : lo ≤ q) (h2 : q < hi) : fr lo hi a b := ⟨fun k hk => e k (by omega), l⟩
theorem gG.kept {g : aw_G} {ws ws' : va_W} {ad : Nat → Nat} {n x y : Nat} {W : Nat → Nat → Nat} {J : Nat → Nat} {lo hi : Nat} (h : gG g ws ad n x y W J) (f : fr lo hi ws ws') (hlo : 9 ≤ lo ∨ hi ≤ 1) : gG g ws' ad n x y W J :=
  ⟨(f.1 1 (by omega)).trans h.1, (f.1 2 (by omega)).trans h.2.1, fun i hi => (f.1 _ (by omega)).trans (h.2.2.1 i hi), (f.1 8 (by omega)).trans h.2.2.2⟩
theorem gS.kept {g : aw_G} {ws ws' : va_W} {ad : Nat → Nat} {n : Nat} {P : Nat → Nat → Nat} {T X : Nat → Nat} {lo hi : Nat} (h : gS g ws ad n P T X) (f : fr lo hi ws ws') (hlo : 18 ≤ lo ∨ hi ≤ 9) : gS g ws' ad n P T X :=
  ⟨(f.1 9 (by omega)).trans h.1, (f.1 10 (by omega)).trans h.2.1, fun i hi => (f.1 _ (by omega)).trans (h.2.2.1 i hi), (f.1 16 (by omega)).trans h.2.2.2.1, (f.1 17 (by omega)).trans h.2.2.2.2⟩
theorem gC.kept {g : aw_G} {ws ws' : va_W} {ad : Nat → Nat} {q : Nat} {M L : Nat → Nat} {O : Nat → Int32} {n : Nat} {D : Nat → Nat} {lo hi : Nat} (h : gC g ws ad q M L O n D) (f : fr lo hi ws ws') (hlo : 23 ≤ lo ∨ hi ≤ 18) : gC g ws' ad q M L O n D :=
  ⟨(f.1 18 (by omega)).trans h.1, (f.1 19 (by omega)).trans h.2.1, (f.1 20 (by omega)).trans h.2.2.1, (f.1 21 (by omega)).trans h.2.2.2.1, (f.1 22 (by omega)).trans h.2.2.2.2⟩
theorem gE.kept {g : aw_G} {ws ws' : va_W} {ad : Nat → Nat} {n : Nat} {Z : Nat → Nat → Int} {lo hi : Nat} (h : gE g ws ad n Z) (f : fr lo hi ws ws') (hlo : 30 ≤ lo ∨ hi ≤ 23) : gE g ws' ad n Z :=
  ⟨(f.1 23 (by omega)).trans h.1, (f.1 24 (by omega)).trans h.2.1, fun i hi => (f.1 _ (by omega)).trans (h.2.2 i hi)⟩
theorem gP.kept {g : aw_G} {ws ws' : va_W} {ad : Nat → Nat} {p q : Nat} {A B : Nat → Int} {n : Nat} {Z : Nat → Nat → Int} {lo hi : Nat} (h : gP g ws ad p q A B n Z) (f : fr lo hi ws ws') (hlo : 39 ≤ lo ∨ hi ≤ 30) : gP g ws' ad p q A B n Z :=
  ⟨h.1, (f.1 30 (by omega)).trans h.2.1, (f.1 p (by have := h.1; omega)).trans h.2.2.1, (f.1 q (by have := h.1; omega)).trans h.2.2.2.1, (f.1 33 (by omega)).trans h.2.2.2.2.1, fun i hi => (f.1 _ (by omega)).trans (h.2.2.2.2.2 i hi)⟩
end
section
-- rows of a grid as a family
def fup2 {α : Type} (M : Nat → Nat → α) (r c : Nat) (x : α) : Nat → Nat → α := fun i j => if i = r ∧ j = c then x else M i j
theorem fup2_row {α : Type} (M : Nat → Nat → α) (r c : Nat) (x : α) : fup2 M r c x r = fup (M r) c x := by
  funext j
  unfold fup2 fup
  by_cases h : j = c
  · rw [if_pos ⟨rfl, h⟩, if_pos h]
  · rw [if_neg (fun q => h q.2), if_neg h]
theorem fup2_ne {α : Type} (M : Nat → Nat → α) {r c i : Nat} (x : α) (h : i ≠ r) : fup2 M r c x i = M i := by
  funext j
  unfold fup2
  rw [if_neg (fun q => h q.1)]
theorem fam_putI {g : aw_G} {ws ws' : va_W} {ad : Nat → Nat} {lo r c x : Nat} {M : Nat → Nat → Nat} (h : ∀ i, i < 5 → ws[lo + i]? = some (ad (lo + i), aI g 5 (M i))) (e1 : ws'[lo + r]? = some (ad (lo + r), aI g 5 (fup (M r) c x))) (e2 : ∀ j, j ≠ lo + r → ws'[j]? = ws[j]?) : ∀ i, i < 5 → ws'[lo + i]? = some (ad (lo + i), aI g 5 (fup2 M r c x i)) := by
  intro i hi
  by_cases e : i = r
  · subst e; rw [e1, fup2_row]
  · rw [e2 _ (by omega), h i hi, fup2_ne M x e]
theorem fam_putL {g : aw_G} {ws ws' : va_W} {ad : Nat → Nat} {lo r c : Nat} {x : Int} {M : Nat → Nat → Int} (h : ∀ i, i < 5 → ws[lo + i]? = some (ad (lo + i), aL g 5 (M i))) (e1 : ws'[lo + r]? = some (ad (lo + r), aL g 5 (fup (M r) c x))) (e2 : ∀ j, j ≠ lo + r → ws'[j]? = ws[j]?) : ∀ i, i < 5 → ws'[lo + i]? = some (ad (lo + i), aL g 5 (fup2 M r c x i)) := by
  intro i hi
  by_cases e : i = r
  · subst e; rw [e1, fup2_row]
  · rw [e2 _ (by omega), h i hi, fup2_ne M x e]
theorem fam_kept {ws ws' : va_W} {lo : Nat} {e : Nat → Nat × va_E} (h : ∀ i, i < 5 → ws[lo + i]? = some (e i)) (e2 : ∀ i, i < 5 → ws'[lo + i]? = ws[lo + i]?) : ∀ i, i < 5 → ws'[lo + i]? = some (e i) := fun i hi => (e2 i hi).trans (h i hi)
end
section
-- the rows of chances, as numbers
def raw (n x y : Nat) (W : Nat → Nat → Nat) (J : Nat → Nat) (u v : Nat) : Nat :=
  if 0 < sN (W u) n then (if 0 < sN J n then x * sN J n * W u v + (y - x) * sN (W u) n * J v else W u v) else (if 0 < sN J n then J v else if u = v then 1 else 0)
def gcdN (f : Nat → Nat) : Nat → Nat
  | 0 => 0
  | k + 1 => Nat.gcd (gcdN f k) (f k)
def nr (n x y : Nat) (W : Nat → Nat → Nat) (J : Nat → Nat) (u v : Nat) : Nat := raw n x y W J u v / gcdN (raw n x y W J u) n
def tt (n x y : Nat) (W : Nat → Nat → Nat) (J : Nat → Nat) (u : Nat) : Nat := sN (nr n x y W J u) n
/-- what a graph is bound to -/
def okG (n x y : Nat) (W : Nat → Nat → Nat) (J : Nat → Nat) : Prop := n ≤ 5 ∧ x ≤ y ∧ 1 ≤ y ∧ y ≤ 4 ∧ (∀ u v, u < 5 → v < 5 → W u v ≤ 2) ∧ ∀ v, v < 5 → J v ≤ 2
theorem sN_zero {f : Nat → Nat} {n : Nat} (h : sN f n = 0) : ∀ i, i < n → f i = 0 := fun i hi => by
  have := sN_mem (f := f) hi
  omega
theorem sN_mul (c : Nat) (f : Nat → Nat) : ∀ n, sN (fun i => c * f i) n = c * sN f n
  | 0 => by simp [sN]
  | n + 1 => by rw [sN, sN, sN_mul c f n, Nat.mul_add]
theorem sN_add (f h : Nat → Nat) : ∀ n, sN (fun i => f i + h i) n = sN f n + sN h n
  | 0 => rfl
  | n + 1 => by rw [sN, sN, sN, sN_add f h n]; omega
theorem sN_one (u : Nat) : ∀ n, u < n → sN (fun v => if u = v then 1 else 0) n = 1
  | 0, h => absurd h (Nat.not_lt_zero u)
  | n + 1, h => by
    rw [sN]
    by_cases e : u = n
    · subst e
      rw [if_pos rfl, sN_congr (h := fun _ => 0) (fun i hi => if_neg (by omega))]
      have : sN (fun _ => 0) u = 0 := by
        have := sN_le (f := fun _ => 0) (b := 0) (n := u) (fun _ _ => Nat.le_refl 0)
        omega
      omega
    · rw [if_neg e, sN_one u n (by omega)]
theorem raw_sum {n x y : Nat} {W : Nat → Nat → Nat} {J : Nat → Nat} (h : okG n x y W J) {u : Nat} (hu : u < n) : 0 < sN (raw n x y W J u) n ∧ sN (raw n x y W J u) n ≤ 400 := by
  obtain ⟨hn, hxy, hy1, hy4, hW, hJ⟩ := h
  have ho := sN_le (f := W u) (b := 2) (n := n) (fun i hi => hW u i (by omega) (by omega))
  have ha := sN_le (f := J) (b := 2) (n := n) (fun i hi => hJ i (by omega))
  have e : raw n x y W J u = fun v => raw n x y W J u v := rfl
  rw [e]
  unfold raw
  by_cases h1 : 0 < sN (W u) n
  · simp only [if_pos h1]
    by_cases h2 : 0 < sN J n
    · simp only [if_pos h2]
      rw [sN_add, sN_mul, sN_mul]
      have e1 : x * sN J n * sN (W u) n + (y - x) * sN (W u) n * sN J n = y * (sN (W u) n * sN J n) := by
        have : y = x + (y - x) := by omega
        generalize y - x = d at *
        subst this
        rw [Nat.add_mul, Nat.mul_assoc, Nat.mul_assoc, Nat.mul_comm (sN J n) (sN (W u) n)]
      rw [e1]
      have h3 : 0 < sN (W u) n * sN J n := Nat.mul_pos h1 h2
      have h4 : sN (W u) n * sN J n ≤ 10 * 10 := Nat.mul_le_mul (by omega) (by omega)
      refine ⟨Nat.mul_pos (by omega) h3, ?_⟩
      have h5 : y * (sN (W u) n * sN J n) ≤ 4 * (10 * 10) := Nat.mul_le_mul hy4 h4
      omega
    · simp only [if_neg h2]
      show 0 < sN (W u) n ∧ sN (W u) n ≤ 400
      exact ⟨h1, by omega⟩
  · simp only [if_neg h1]
    by_cases h2 : 0 < sN J n
    · simp only [if_pos h2]
      show 0 < sN J n ∧ sN J n ≤ 400
      exact ⟨h2, by omega⟩
    · simp only [if_neg h2]
      rw [sN_one u n hu]
      omega
theorem gcdN_dvd (f : Nat → Nat) : ∀ {n i : Nat}, i < n → gcdN f n ∣ f i
  | 0, i, h => absurd h (Nat.not_lt_zero i)
  | n + 1, i, h => by
    rw [gcdN]
    by_cases e : i = n
    · subst e; exact Nat.gcd_dvd_right _ _
    · exact Nat.dvd_trans (Nat.gcd_dvd_left _ _) (gcdN_dvd f (by omega))
theorem gcdN_congr {f h : Nat → Nat} : ∀ {n : Nat}, (∀ i, i < n → f i = h i) → gcdN f n = gcdN h n
  | 0, _ => rfl
  | n + 1, e => by rw [gcdN, gcdN, gcdN_congr (fun i hi => e i (by omega)), e n (by omega)]
theorem gcdN_pos {f : Nat → Nat} {n : Nat} (h : 0 < sN f n) : 0 < gcdN f n := by
  obtain ⟨i, hi, hp⟩ := sN_pos h
  exact Nat.pos_of_dvd_of_pos (gcdN_dvd f hi) hp
theorem gcdN_le {f : Nat → Nat} {n : Nat} (h : 0 < sN f n) : gcdN f n ≤ sN f n := by
  obtain ⟨i, hi, hp⟩ := sN_pos h
  exact Nat.le_trans (Nat.le_of_dvd hp (gcdN_dvd f hi)) (sN_mem hi)
theorem sN_div {f : Nat → Nat} {d : Nat} (h0 : 0 < d) : ∀ {n : Nat}, (∀ i, i < n → d ∣ f i) → sN (fun i => f i / d) n = sN f n / d
  | 0, _ => by simp [sN]
  | n + 1, h => by
    rw [sN, sN, sN_div h0 (fun i hi => h i (by omega))]
    obtain ⟨c, hc⟩ := h n (by omega)
    rw [hc, Nat.mul_div_cancel_left c h0, Nat.add_mul_div_left _ _ h0]
theorem nr_ok {n x y : Nat} {W : Nat → Nat → Nat} {J : Nat → Nat} (h : okG n x y W J) {u : Nat} (hu : u < n) : 0 < tt n x y W J u ∧ tt n x y W J u ≤ 400 ∧ tt n x y W J u = sN (raw n x y W J u) n / gcdN (raw n x y W J u) n := by
  obtain ⟨h1, h2⟩ := raw_sum h hu
  have g0 := gcdN_pos h1
  have e : tt n x y W J u = sN (raw n x y W J u) n / gcdN (raw n x y W J u) n := sN_div g0 (fun i hi => gcdN_dvd _ hi)
  have g1 := gcdN_le h1
  refine ⟨by rw [e]; exact Nat.div_pos g1 g0, ?_, e⟩
  rw [e]
  exact Nat.le_trans (Nat.div_le_self _ _) h2
theorem nr_le {n x y : Nat} {W : Nat → Nat → Nat} {J : Nat → Nat} {u v : Nat} (hv : v < n) : nr n x y W J u v ≤ tt n x y W J u := sN_mem hv
/-- sets of nodes as bits -/
def mk (p : Nat → Bool) : Nat → Nat
  | 0 => 0
  | k + 1 => if p k then mk p k ||| 2 ^ k else mk p k
theorem mk_bit (p : Nat → Bool) : ∀ n k, (mk p n).testBit k = (decide (k < n) && p k)
  | 0, k => by simp [mk]
  | n + 1, k => by
    rw [mk]
    by_cases h : p n = true
    · rw [if_pos h, Nat.testBit_or, mk_bit p n k, Nat.testBit_two_pow]
      by_cases e : n = k
      · subst e; simp [h]
      · have e1 : decide (n = k) = false := by simp [e]
        have e2 : decide (k < n + 1) = decide (k < n) := by
          by_cases q : k < n
          · simp [q, Nat.lt_succ_of_lt q]
          · simp [q, show ¬ k < n + 1 by omega]
        rw [e1, e2]; simp
    · rw [if_neg h, mk_bit p n k]
      by_cases e : k = n
      · subst e; simp [h]
      · have e2 : decide (k < n + 1) = decide (k < n) := by
          by_cases q : k < n
          · simp [q, Nat.lt_succ_of_lt q]
          · simp [q, show ¬ k < n + 1 by omega]
        rw [e2]
theorem mk_lt (p : Nat → Bool) : ∀ n, mk p n < 2 ^ n
  | 0 => by simp [mk]
  | n + 1 => by
    have h := mk_lt p n
    have e : 2 ^ (n + 1) = 2 ^ n * 2 := Nat.pow_succ 2 n
    rw [mk]
    split
    · exact Nat.or_lt_two_pow (by omega) (by omega)
    · omega
theorem mk_congr {p q : Nat → Bool} : ∀ {n : Nat}, (∀ i, i < n → p i = q i) → mk p n = mk q n
  | 0, _ => rfl
  | n + 1, e => by rw [mk, mk, mk_congr (fun i hi => e i (by omega)), e n (by omega)]
theorem mk_32 (p : Nat → Bool) {n : Nat} (h : n ≤ 5) : mk p n < 32 := Nat.lt_of_lt_of_le (mk_lt p n) (Nat.pow_le_pow_right (by decide) h)
theorem nI_or (a b : Nat) : nI a ||| nI b = nI (a ||| b) := by
  apply Int32.toBitVec.inj
  show BitVec.ofNat 32 a ||| BitVec.ofNat 32 b = BitVec.ofNat 32 (a ||| b)
  exact (BitVec.ofNat_or).symm
theorem nI_and (a b : Nat) : nI a &&& nI b = nI (a &&& b) := by
  apply Int32.toBitVec.inj
  show BitVec.ofNat 32 a &&& BitVec.ofNat 32 b = BitVec.ofNat 32 (a &&& b)
  exact (BitVec.ofNat_and).symm
/-- a without b -/
def an (a b : Nat) : Nat := a &&& (b ^^^ 31)
theorem an_eq : ∀ a, a < 32 → ∀ b, b < 32 → nI a &&& (nI b ^^^ (-1)) = nI (an a b) := by decide +kernel
theorem an_lt : ∀ a, a < 32 → ∀ b, b < 32 → an a b < 32 := by decide +kernel
theorem an_bit : ∀ a, a < 32 → ∀ b, b < 32 → ∀ k, k < 5 → (an a b).testBit k = (a.testBit k && !b.testBit k) := by decide +kernel
theorem an_zero : ∀ a, a < 32 → ∀ b, b < 32 → (an a b = 0 ↔ ∀ k, k < 5 → a.testBit k = true → b.testBit k = true) := by decide +kernel
theorem bits_ext : ∀ a, a < 32 → ∀ b, b < 32 → (∀ k, k < 5 → a.testBit k = b.testBit k) → a = b := by decide +kernel
theorem or_32 {a b : Nat} (ha : a < 32) (hb : b < 32) : a ||| b < 32 := Nat.or_lt_two_pow (n := 5) ha hb
theorem pow_32 {k : Nat} (h : k < 5) : 2 ^ k < 32 := Nat.pow_lt_pow_right (by decide) h
theorem pow_bit (k j : Nat) : (2 ^ k).testBit j = decide (k = j) := Nat.testBit_two_pow
section AWD
variable {g : aw_G} {y : MethodName} {cc : ByteArray} {nL : Nat} {ret : Option FieldType} {R : Room} {E : (Nat → Prop) → State → Array Value → Prop} {F : List Frame → Array Value → State → (Nat → Prop) → State → Prop} {kc ks pc : Nat} {lv : List (Nat × Value)} {st : List Value} {ws : va_W}
theorem aw_iorN {a b : Nat} (hd : decode cc pc = .ok (.ior, 1)) (k : AW g y cc nL ret R E F kc ks (pc + 1) lv (.int (nI (a ||| b)) :: st) ws) : AW g y cc nL ret R E F kc ks pc lv (.int (nI b) :: .int (nI a) :: st) ws := aw_ior hd (aw_nmi (nI_or a b) k)
theorem aw_iandN {a b : Nat} (hd : decode cc pc = .ok (.iand, 1)) (k : AW g y cc nL ret R E F kc ks (pc + 1) lv (.int (nI (a &&& b)) :: st) ws) : AW g y cc nL ret R E F kc ks pc lv (.int (nI b) :: .int (nI a) :: st) ws := aw_iand hd (aw_nmi (nI_and a b) k)
end AWD
end
section
-- one cell of an object's world changed
section PUTS
variable {g : aw_G} {ws ws' : va_W} {ad : Nat → Nat}
theorem gG.putW {n x y : Nat} {W : Nat → Nat → Nat} {J : Nat → Nat} {r c z : Nat} (h : gG g ws ad n x y W J) (hr : r < 5) (e1 : ws'[3 + r]? = some (ad (3 + r), aI g 5 (fup (W r) c z))) (e2 : ∀ j, j ≠ 3 + r → ws'[j]? = ws[j]?) : gG g ws' ad n x y (fup2 W r c z) J :=
  ⟨(e2 1 (by omega)).trans h.1, (e2 2 (by omega)).trans h.2.1, fam_putI h.2.2.1 e1 e2, (e2 8 (by omega)).trans h.2.2.2⟩
theorem gG.putJ {n x y : Nat} {W : Nat → Nat → Nat} {J J' : Nat → Nat} (h : gG g ws ad n x y W J) (e1 : ws'[8]? = some (ad 8, aI g 5 J')) (e2 : ∀ j, j ≠ 8 → ws'[j]? = ws[j]?) : gG g ws' ad n x y W J' :=
  ⟨(e2 1 (by omega)).trans h.1, (e2 2 (by omega)).trans h.2.1, fun i hi => (e2 _ (by omega)).trans (h.2.2.1 i hi), e1⟩
theorem gG.putO {n x y n' x' y' : Nat} {W : Nat → Nat → Nat} {J : Nat → Nat} (h : gG g ws ad n x y W J) (e1 : ws'[1]? = some (ad 1, .inr (1, [.int (nI n'), .int (nI x'), .int (nI y'), .ref (ad 2), .ref (ad 8)]))) (e2 : ∀ j, j ≠ 1 → ws'[j]? = ws[j]?) : gG g ws' ad n' x' y' W J :=
  ⟨e1, (e2 2 (by omega)).trans h.2.1, fun i hi => (e2 _ (by omega)).trans (h.2.2.1 i hi), (e2 8 (by omega)).trans h.2.2.2⟩
theorem gS.putP {n : Nat} {P : Nat → Nat → Nat} {T X : Nat → Nat} {r c z : Nat} (h : gS g ws ad n P T X) (hr : r < 5) (e1 : ws'[11 + r]? = some (ad (11 + r), aI g 5 (fup (P r) c z))) (e2 : ∀ j, j ≠ 11 + r → ws'[j]? = ws[j]?) : gS g ws' ad n (fup2 P r c z) T X :=
  ⟨(e2 9 (by omega)).trans h.1, (e2 10 (by omega)).trans h.2.1, fam_putI h.2.2.1 e1 e2, (e2 16 (by omega)).trans h.2.2.2.1, (e2 17 (by omega)).trans h.2.2.2.2⟩
theorem gS.putT {n : Nat} {P : Nat → Nat → Nat} {T X T' : Nat → Nat} (h : gS g ws ad n P T X) (e1 : ws'[16]? = some (ad 16, aI g 5 T')) (e2 : ∀ j, j ≠ 16 → ws'[j]? = ws[j]?) : gS g ws' ad n P T' X :=
  ⟨(e2 9 (by omega)).trans h.1, (e2 10 (by omega)).trans h.2.1, fun i hi => (e2 _ (by omega)).trans (h.2.2.1 i hi), e1, (e2 17 (by omega)).trans h.2.2.2.2⟩
theorem gS.putX {n : Nat} {P : Nat → Nat → Nat} {T X X' : Nat → Nat} (h : gS g ws ad n P T X) (e1 : ws'[17]? = some (ad 17, aI g 5 X')) (e2 : ∀ j, j ≠ 17 → ws'[j]? = ws[j]?) : gS g ws' ad n P T X' :=
  ⟨(e2 9 (by omega)).trans h.1, (e2 10 (by omega)).trans h.2.1, fun i hi => (e2 _ (by omega)).trans (h.2.2.1 i hi), (e2 16 (by omega)).trans h.2.2.2.1, e1⟩
theorem gS.putO {n n' : Nat} {P : Nat → Nat → Nat} {T X : Nat → Nat} (h : gS g ws ad n P T X) (e1 : ws'[9]? = some (ad 9, .inr (2, [.int (nI n'), .ref (ad 10), .ref (ad 16), .ref (ad 17)]))) (e2 : ∀ j, j ≠ 9 → ws'[j]? = ws[j]?) : gS g ws' ad n' P T X :=
  ⟨e1, (e2 10 (by omega)).trans h.2.1, fun i hi => (e2 _ (by omega)).trans (h.2.2.1 i hi), (e2 16 (by omega)).trans h.2.2.2.1, (e2 17 (by omega)).trans h.2.2.2.2⟩
theorem gE.putZ {n : Nat} {Z : Nat → Nat → Int} {r c : Nat} {z : Int} (h : gE g ws ad n Z) (hr : r < 5) (e1 : ws'[25 + r]? = some (ad (25 + r), aL g 5 (fup (Z r) c z))) (e2 : ∀ j, j ≠ 25 + r → ws'[j]? = ws[j]?) : gE g ws' ad n (fup2 Z r c z) :=
  ⟨(e2 23 (by omega)).trans h.1, (e2 24 (by omega)).trans h.2.1, fam_putL h.2.2 e1 e2⟩
theorem gE.putO {n n' : Nat} {Z : Nat → Nat → Int} (h : gE g ws ad n Z) (e1 : ws'[23]? = some (ad 23, .inr (4, [.int (nI n'), .ref (ad 24)]))) (e2 : ∀ j, j ≠ 23 → ws'[j]? = ws[j]?) : gE g ws' ad n' Z :=
  ⟨e1, (e2 24 (by omega)).trans h.2.1, fun i hi => (e2 _ (by omega)).trans (h.2.2 i hi)⟩
theorem gP.putZ {p q n : Nat} {A B : Nat → Int} {Z : Nat → Nat → Int} {r c : Nat} {z : Int} (h : gP g ws ad p q A B n Z) (hr : r < 5) (e1 : ws'[34 + r]? = some (ad (34 + r), aL g 5 (fup (Z r) c z))) (e2 : ∀ j, j ≠ 34 + r → ws'[j]? = ws[j]?) : gP g ws' ad p q A B n (fup2 Z r c z) :=
  ⟨h.1, (e2 30 (by omega)).trans h.2.1, (e2 p (by have := h.1; omega)).trans h.2.2.1, (e2 q (by have := h.1; omega)).trans h.2.2.2.1, (e2 33 (by omega)).trans h.2.2.2.2.1, fam_putL h.2.2.2.2.2 e1 e2⟩
theorem gP.putA {p q n : Nat} {A A' B : Nat → Int} {Z : Nat → Nat → Int} (h : gP g ws ad p q A B n Z) (e1 : ws'[p]? = some (ad p, aL g 5 A')) (e2 : ∀ j, j ≠ p → ws'[j]? = ws[j]?) : gP g ws' ad p q A' B n Z :=
  ⟨h.1, (e2 30 (by have := h.1; omega)).trans h.2.1, e1, (e2 q (by have := h.1; omega)).trans h.2.2.2.1, (e2 33 (by have := h.1; omega)).trans h.2.2.2.2.1, fun i hi => (e2 _ (by have := h.1; omega)).trans (h.2.2.2.2.2 i hi)⟩
theorem gP.putB {p q n : Nat} {A B B' : Nat → Int} {Z : Nat → Nat → Int} (h : gP g ws ad p q A B n Z) (e1 : ws'[q]? = some (ad q, aL g 5 B')) (e2 : ∀ j, j ≠ q → ws'[j]? = ws[j]?) : gP g ws' ad p q A B' n Z :=
  ⟨h.1, (e2 30 (by have := h.1; omega)).trans h.2.1, (e2 p (by have := h.1; omega)).trans h.2.2.1, e1, (e2 33 (by have := h.1; omega)).trans h.2.2.2.2.1, fun i hi => (e2 _ (by have := h.1; omega)).trans (h.2.2.2.2.2 i hi)⟩
theorem gP.putO {p q n n' : Nat} {A B : Nat → Int} {Z : Nat → Nat → Int} (h : gP g ws ad p q A B n Z) (e1 : ws'[30]? = some (ad 30, .inr (5, [.ref (ad p), .ref (ad q), .int (nI n'), .ref (ad 33)]))) (e2 : ∀ j, j ≠ 30 → ws'[j]? = ws[j]?) : gP g ws' ad p q A B n' Z :=
  ⟨h.1, e1, (e2 p (by have := h.1; omega)).trans h.2.2.1, (e2 q (by have := h.1; omega)).trans h.2.2.2.1, (e2 33 (by omega)).trans h.2.2.2.2.1, fun i hi => (e2 _ (by omega)).trans (h.2.2.2.2.2 i hi)⟩
theorem gC.putM {q n : Nat} {M L D M' : Nat → Nat} {O : Nat → Int32} (h : gC g ws ad q M L O n D) (e1 : ws'[19]? = some (ad 19, aI g 5 M')) (e2 : ∀ j, j ≠ 19 → ws'[j]? = ws[j]?) : gC g ws' ad q M' L O n D :=
  ⟨(e2 18 (by omega)).trans h.1, e1, (e2 20 (by omega)).trans h.2.2.1, (e2 21 (by omega)).trans h.2.2.2.1, (e2 22 (by omega)).trans h.2.2.2.2⟩
theorem gC.putL {q n : Nat} {M L D L' : Nat → Nat} {O : Nat → Int32} (h : gC g ws ad q M L O n D) (e1 : ws'[20]? = some (ad 20, aI g 5 L')) (e2 : ∀ j, j ≠ 20 → ws'[j]? = ws[j]?) : gC g ws' ad q M L' O n D :=
  ⟨(e2 18 (by omega)).trans h.1, (e2 19 (by omega)).trans h.2.1, e1, (e2 21 (by omega)).trans h.2.2.2.1, (e2 22 (by omega)).trans h.2.2.2.2⟩
theorem gC.putS {q n : Nat} {M L D : Nat → Nat} {O O' : Nat → Int32} (h : gC g ws ad q M L O n D) (e1 : ws'[21]? = some (ad 21, aR g 5 O')) (e2 : ∀ j, j ≠ 21 → ws'[j]? = ws[j]?) : gC g ws' ad q M L O' n D :=
  ⟨(e2 18 (by omega)).trans h.1, (e2 19 (by omega)).trans h.2.1, (e2 20 (by omega)).trans h.2.2.1, e1, (e2 22 (by omega)).trans h.2.2.2.2⟩
theorem gC.putD {q n : Nat} {M L D D' : Nat → Nat} {O : Nat → Int32} (h : gC g ws ad q M L O n D) (e1 : ws'[22]? = some (ad 22, aI g 5 D')) (e2 : ∀ j, j ≠ 22 → ws'[j]? = ws[j]?) : gC g ws' ad q M L O n D' :=
  ⟨(e2 18 (by omega)).trans h.1, (e2 19 (by omega)).trans h.2.1, (e2 20 (by omega)).trans h.2.2.1, (e2 21 (by omega)).trans h.2.2.2.1, e1⟩
theorem gC.putO {q n q' n' : Nat} {M L D : Nat → Nat} {O : Nat → Int32} (h : gC g ws ad q M L O n D) (e1 : ws'[18]? = some (ad 18, .inr (3, [.int (nI q'), .ref (ad 19), .ref (ad 20), .ref (ad 21), .int (nI n'), .ref (ad 22)]))) (e2 : ∀ j, j ≠ 18 → ws'[j]? = ws[j]?) : gC g ws' ad q' M L O n' D :=
  ⟨e1, (e2 19 (by omega)).trans h.2.1, (e2 20 (by omega)).trans h.2.2.1, (e2 21 (by omega)).trans h.2.2.2.1, (e2 22 (by omega)).trans h.2.2.2.2⟩
end PUTS
end
section
-- bounds; sets of nodes one step on
theorem gcd_le_add (a b : Nat) : Nat.gcd a b ≤ a + b := by
  by_cases h : 0 < b
  · exact Nat.le_trans (Nat.le_of_dvd h (Nat.gcd_dvd_right a b)) (by omega)
  · have : b = 0 := by omega
    subst this
    rw [Nat.gcd_zero_right]; omega
theorem gcdN_le' (f : Nat → Nat) : ∀ n, gcdN f n ≤ sN f n
  | 0 => Nat.le_refl 0
  | n + 1 => by
    rw [gcdN, sN]
    have h1 := gcdN_le' f n
    have h2 := gcd_le_add (gcdN f n) (f n)
    omega
theorem sN_mono (f : Nat → Nat) {i n : Nat} (h : i ≤ n) : sN f i ≤ sN f n := by
  induction n with
  | zero => have : i = 0 := by omega
            subst this; exact Nat.le_refl _
  | succ n ih =>
    by_cases e : i = n + 1
    · subst e; exact Nat.le_refl _
    · rw [sN]
      have := ih (by omega)
      omega
theorem mul99 {a b : Nat} (ha : a < 2 ^ 48) (hb : b < 2 ^ 48) : a * b < 2 ^ 99 := by
  have h : a * b ≤ 2 ^ 48 * 2 ^ 48 := Nat.mul_le_mul (by omega) (by omega)
  exact Nat.lt_of_le_of_lt h (by decide)
/-- what the steps hold of a graph -/
def okS (n x y : Nat) (W : Nat → Nat → Nat) (J : Nat → Nat) (P : Nat → Nat → Nat) (T X : Nat → Nat) : Prop :=
  ∀ u, u < n → (∀ v, v < n → P u v = nr n x y W J u v) ∧ T u = tt n x y W J u ∧ X u = mk (fun v => decide (0 < nr n x y W J u v)) n
/-- the nodes to which one step from some of m leads -/
def nxO (X : Nat → Nat) (m : Nat) : Nat → Nat
  | 0 => 0
  | k + 1 => if m.testBit k then nxO X m k ||| X k else nxO X m k
theorem nxO_lt {X : Nat → Nat} {m : Nat} : ∀ {n : Nat}, (∀ u, u < n → X u < 32) → nxO X m n < 32
  | 0, _ => by simp [nxO]
  | n + 1, h => by
    rw [nxO]
    have h1 := nxO_lt (m := m) (n := n) (fun u hu => h u (by omega))
    split
    · exact or_32 h1 (h n (by omega))
    · exact h1
theorem nxO_bit {X : Nat → Nat} {m j : Nat} : ∀ {n : Nat}, (nxO X m n).testBit j = true ↔ ∃ u, u < n ∧ m.testBit u = true ∧ (X u).testBit j = true
  | 0 => by simp [nxO]
  | n + 1 => by
    rw [nxO]
    by_cases h : m.testBit n = true
    · rw [if_pos h, Nat.testBit_or, Bool.or_eq_true, nxO_bit]
      constructor
      · rintro (⟨u, h1, h2, h3⟩ | h1)
        · exact ⟨u, by omega, h2, h3⟩
        · exact ⟨n, by omega, h, h1⟩
      · rintro ⟨u, h1, h2, h3⟩
        by_cases e : u = n
        · subst e; exact Or.inr h3
        · exact Or.inl ⟨u, by omega, h2, h3⟩
    · rw [if_neg h, nxO_bit]
      constructor
      · rintro ⟨u, h1, h2, h3⟩
        exact ⟨u, by omega, h2, h3⟩
      · rintro ⟨u, h1, h2, h3⟩
        by_cases e : u = n
        · subst e; exact absurd h2 h
        · exact ⟨u, by omega, h2, h3⟩
/-- k rounds of growing -/
def bh (X : Nat → Nat) (n av m : Nat) : Nat → Nat
  | 0 => m
  | k + 1 => bh X n av m k ||| an (nxO X (bh X n av m k) n) av
theorem bh_lt {X : Nat → Nat} {n av m : Nat} (hX : ∀ u, u < n → X u < 32) (ha : av < 32) (hm : m < 32) : ∀ k, bh X n av m k < 32
  | 0 => hm
  | k + 1 => or_32 (bh_lt hX ha hm k) (an_lt _ (nxO_lt hX) _ ha)
end
section
-- sets that can be come to
theorem tb5 {m j : Nat} (hm : m < 32) (h : m.testBit j = true) : j < 5 := by
  rcases Nat.lt_or_ge j 5 with q | q
  · exact q
  · have h2 : m.testBit j = false := Nat.testBit_lt_two_pow (Nat.lt_of_lt_of_le hm (Nat.pow_le_pow_right (n := 2) (by decide) q))
    rw [h] at h2; cases h2
def card (m : Nat) : Nat := sN (fun k => if m.testBit k then 1 else 0) 5
theorem card_grow : ∀ a, a < 32 → ∀ b, b < 32 → (a ||| b = a) ∨ card a < card (a ||| b) := by decide +kernel
theorem card_le : ∀ a, a < 32 → ∀ n, n ≤ 5 → (∀ k, k < 5 → a.testBit k = true → k < n) → card a ≤ n := by decide +kernel
theorem or_bits {a b j : Nat} : (a ||| b).testBit j = true ↔ a.testBit j = true ∨ b.testBit j = true := by
  rw [Nat.testBit_or, Bool.or_eq_true]
theorem an_bits {a b j : Nat} (ha : a < 32) (hb : b < 32) : (an a b).testBit j = true ↔ a.testBit j = true ∧ b.testBit j = false := by
  constructor
  · intro h
    have hj := tb5 (an_lt a ha b hb) h
    rw [an_bit a ha b hb j hj] at h
    simpa using h
  · rintro ⟨h1, h2⟩
    have hj := tb5 ha h1
    rw [an_bit a ha b hb j hj, h1, h2]; rfl
/-- a table of next nodes -/
def okX (n : Nat) (X : Nat → Nat) : Prop := n ≤ 5 ∧ ∀ u, u < n → X u < 32 ∧ ∀ j, (X u).testBit j = true → j < n
section REACH
variable {n av m : Nat} {X : Nat → Nat}
theorem okX.lt (h : okX n X) : ∀ u, u < n → X u < 32 := fun u hu => (h.2 u hu).1
theorem bh_mono (h : okX n X) (ha : av < 32) (hm : m < 32) {k j : Nat} (hj : (bh X n av m k).testBit j = true) : (bh X n av m (k + 1)).testBit j = true := or_bits.mpr (Or.inl hj)
theorem bh_in (h : okX n X) (ha : av < 32) (hm : m < 32) (hmn : ∀ j, m.testBit j = true → j < n) : ∀ {k j : Nat}, (bh X n av m k).testBit j = true → j < n
  | 0, j, hj => hmn j hj
  | k + 1, j, hj => by
    rcases or_bits.mp hj with q | q
    · exact bh_in h ha hm hmn q
    · obtain ⟨u, hu, -, h3⟩ := nxO_bit.mp ((an_bits (nxO_lt h.lt) ha).mp q).1
      exact (h.2 u hu).2 j h3
theorem bh_fix {k : Nat} (e : bh X n av m (k + 1) = bh X n av m k) : ∀ i, bh X n av m (k + i) = bh X n av m k
  | 0 => rfl
  | i + 1 => by
    have h1 := bh_fix e i
    show bh X n av m (k + i) ||| an (nxO X (bh X n av m (k + i)) n) av = bh X n av m k
    rw [h1]; exact e
theorem bh_grow (h : okX n X) (ha : av < 32) (hm : m < 32) : ∀ k, (∃ i, i < k ∧ bh X n av m (i + 1) = bh X n av m i) ∨ card m + k ≤ card (bh X n av m k)
  | 0 => Or.inr (Nat.le_refl _)
  | k + 1 => by
    rcases bh_grow h ha hm k with ⟨i, hi, e⟩ | q
    · exact Or.inl ⟨i, by omega, e⟩
    · rcases card_grow _ (bh_lt h.lt ha hm k) _ (an_lt _ (nxO_lt (m := bh X n av m k) h.lt) _ ha) with e | e
      · exact Or.inl ⟨k, by omega, e⟩
      · right
        show card m + (k + 1) ≤ card (bh X n av m k ||| an (nxO X (bh X n av m k) n) av)
        omega
/-- after n rounds nothing more comes -/
theorem bh_stable (h : okX n X) (ha : av < 32) (hm : m < 32) (hmn : ∀ j, m.testBit j = true → j < n) (h0 : 0 < card m) : bh X n av m (n + 1) = bh X n av m n := by
  rcases bh_grow h ha hm n with ⟨i, hi, e⟩ | q
  · have e1 := bh_fix e (n - i)
    have e2 := bh_fix e (n + 1 - i)
    rw [show i + (n - i) = n by omega] at e1
    rw [show i + (n + 1 - i) = n + 1 by omega] at e2
    rw [e1, e2]
  · have := card_le _ (bh_lt h.lt ha hm n) n h.1 (fun k _ hk => bh_in h ha hm hmn hk)
    omega
theorem bh_closed (h : okX n X) (ha : av < 32) (hm : m < 32) (hmn : ∀ j, m.testBit j = true → j < n) (h0 : 0 < card m) {u w : Nat} (hu : (bh X n av m n).testBit u = true) (hw : (X u).testBit w = true) (hv : av.testBit w = false) : (bh X n av m n).testBit w = true := by
  have e := bh_stable h ha hm hmn h0
  rw [← e]
  exact or_bits.mpr (Or.inr ((an_bits (nxO_lt h.lt) ha).mpr ⟨nxO_bit.mpr ⟨u, bh_in h ha hm hmn hu, hu, hw⟩, hv⟩))
theorem bh_start {k j : Nat} (hj : m.testBit j = true) : (bh X n av m k).testBit j = true := by
  induction k with
  | zero => exact hj
  | succ k ih => exact or_bits.mpr (Or.inl ih)
theorem bh_least (h : okX n X) (ha : av < 32) {p : Nat → Prop} (h1 : ∀ j, m.testBit j = true → p j) (h2 : ∀ u w, u < n → p u → (X u).testBit w = true → av.testBit w = false → p w) : ∀ {k j : Nat}, (bh X n av m k).testBit j = true → p j
  | 0, j, hj => h1 j hj
  | k + 1, j, hj => by
    rcases or_bits.mp hj with q | q
    · exact bh_least h ha h1 h2 q
    · obtain ⟨q1, q2⟩ := (an_bits (nxO_lt h.lt) ha).mp q
      obtain ⟨u, hu, h3, h4⟩ := nxO_bit.mp q1
      exact h2 u j hu (bh_least h ha h1 h2 h3) h4 q2
end REACH
theorem card_pow : ∀ u, u < 5 → card (2 ^ u) = 1 := by decide +kernel
theorem pow_in {u n : Nat} (hu : u < n) : ∀ j, (2 ^ u).testBit j = true → j < n := fun j hj => by
  rw [pow_bit] at hj
  have : u = j := by simpa using hj
  omega
/-- where ways from u lead -/
def Dm (X : Nat → Nat) (n u : Nat) : Nat := bh X n 0 (2 ^ u) n
section DM
variable {n : Nat} {X : Nat → Nat}
theorem Dm_lt (h : okX n X) {u : Nat} (hu : u < n) : Dm X n u < 32 := bh_lt h.lt (by decide) (pow_32 (by have := h.1; omega)) n
theorem Dm_in (h : okX n X) {u j : Nat} (hu : u < n) (hj : (Dm X n u).testBit j = true) : j < n := bh_in h (by decide) (pow_32 (by have := h.1; omega)) (pow_in hu) hj
theorem Dm_rf {u : Nat} : (Dm X n u).testBit u = true := bh_start (by rw [pow_bit]; simp)
theorem Dm_step (h : okX n X) {u a b : Nat} (hu : u < n) (ha : (Dm X n u).testBit a = true) (hb : (X a).testBit b = true) : (Dm X n u).testBit b = true :=
  bh_closed h (by decide) (pow_32 (by have := h.1; omega)) (pow_in hu) (by rw [card_pow u (by have := h.1; omega)]; decide) ha hb (Nat.zero_testBit b)
theorem Dm_least (h : okX n X) {u : Nat} {p : Nat → Prop} (h1 : p u) (h2 : ∀ a b, a < n → p a → (X a).testBit b = true → p b) {j : Nat} (hj : (Dm X n u).testBit j = true) : p j :=
  bh_least h (by decide) (fun i hi => by
    rw [pow_bit] at hi
    have e : u = i := by simpa using hi
    rw [← e]; exact h1) (fun a b ha hp hb _ => h2 a b ha hp hb) hj
theorem Dm_tr (h : okX n X) {a b c : Nat} (ha : a < n) (h1 : (Dm X n a).testBit b = true) (h2 : (Dm X n b).testBit c = true) : (Dm X n a).testBit c = true :=
  Dm_least h (p := fun j => (Dm X n a).testBit j = true) h1 (fun x y _ hx hy => Dm_step h ha hx hy) h2
end DM
end
section
-- closed sets
def okD (n : Nat) (D : Nat → Nat) : Prop := n ≤ 5 ∧ (∀ u, u < n → D u < 32 ∧ (∀ j, (D u).testBit j = true → j < n) ∧ (D u).testBit u = true) ∧ ∀ a b c, a < n → (D a).testBit b = true → (D b).testBit c = true → (D a).testBit c = true
theorem okD_of {n : Nat} {X D : Nat → Nat} (h : okX n X) (e : ∀ u, u < n → D u = Dm X n u) : okD n D := by
  refine ⟨h.1, fun u hu => ?_, fun a b c ha h1 h2 => ?_⟩
  · rw [e u hu]
    exact ⟨Dm_lt h hu, fun j hj => Dm_in h hu hj, Dm_rf⟩
  · rw [e a ha] at h1 ⊢
    rw [e b (Dm_in h ha h1)] at h2
    exact Dm_tr h ha h1 h2
/-- the nodes that lead to some of m -/
def lead (D : Nat → Nat) (n m : Nat) : Nat := mk (fun u => decide (¬ (D u &&& m = 0))) n
def clB (D : Nat → Nat) (n v : Nat) : Bool := decide (an (D v) (lead D n (2 ^ v)) = 0)
theorem low_bit : ∀ a, a < 32 → ∀ v, v < 5 → (a &&& (2 ^ v - 1) = 0 ↔ ∀ w, w < v → a.testBit w = false) := by decide +kernel
def ldB (D : Nat → Nat) (n v : Nat) : Bool := clB D n v && decide (D v &&& (2 ^ v - 1) = 0)
def cntB (p : Nat → Bool) : Nat → Nat
  | 0 => 0
  | k + 1 => cntB p k + (if p k then 1 else 0)
theorem cntB_le (p : Nat → Bool) : ∀ k, cntB p k ≤ k
  | 0 => Nat.le_refl 0
  | k + 1 => by
    have := cntB_le p k
    rw [cntB]; split <;> omega
theorem cntB_mono (p : Nat → Bool) {i j : Nat} (h : i ≤ j) : cntB p i ≤ cntB p j := by
  induction j with
  | zero => have : i = 0 := by omega
            subst this; exact Nat.le_refl _
  | succ j ih =>
    by_cases e : i = j + 1
    · subst e; exact Nat.le_refl _
    · have := ih (by omega)
      rw [cntB]; omega
theorem cntB_lt (p : Nat → Bool) {i j : Nat} (h : i < j) (hp : p i = true) : cntB p i < cntB p j := by
  have := cntB_mono p (show i + 1 ≤ j by omega)
  rw [cntB, if_pos hp] at this
  omega
theorem has_bit0 : ∀ m, m < 32 → ∀ k, k < 5 → (m &&& 2 ^ k = 0 ↔ m.testBit k = false) := by decide +kernel
theorem m3_ne : ∀ k, k < 32 → ¬ nI k = -3 := by decide +kernel
section SETS
variable {n : Nat} {D : Nat → Nat}
theorem okD.lt (h : okD n D) {u : Nat} (hu : u < n) : D u < 32 := (h.2.1 u hu).1
theorem okD.in (h : okD n D) {u j : Nat} (hu : u < n) (hj : (D u).testBit j = true) : j < n := (h.2.1 u hu).2.1 j hj
theorem okD.rf (h : okD n D) {u : Nat} (hu : u < n) : (D u).testBit u = true := (h.2.1 u hu).2.2
theorem lead_lt (h : okD n D) (m : Nat) : lead D n m < 32 := mk_32 _ h.1
theorem lead_bit (h : okD n D) {v u : Nat} (hv : v < n) : (lead D n (2 ^ v)).testBit u = true ↔ u < n ∧ (D u).testBit v = true := by
  unfold lead
  rw [mk_bit, Bool.and_eq_true, decide_eq_true_eq, decide_eq_true_eq]
  constructor
  · rintro ⟨h1, h2⟩
    refine ⟨h1, ?_⟩
    cases q : (D u).testBit v with
    | true => rfl
    | false => exact absurd ((has_bit0 _ (h.lt h1) v (by have := h.1; omega)).mpr q) h2
  · rintro ⟨h1, h2⟩
    refine ⟨h1, fun q => ?_⟩
    rw [(has_bit0 _ (h.lt h1) v (by have := h.1; omega)).mp q] at h2
    cases h2
theorem clB_iff (h : okD n D) {v : Nat} (hv : v < n) : clB D n v = true ↔ ∀ w, (D v).testBit w = true → (D w).testBit v = true := by
  unfold clB
  rw [decide_eq_true_eq, an_zero _ (h.lt hv) _ (lead_lt h _)]
  constructor
  · intro q w hw
    exact ((lead_bit h hv).mp (q w (tb5 (h.lt hv) hw) hw)).2
  · intro q w _ hw
    exact (lead_bit h hv).mpr ⟨h.in hv hw, q w hw⟩
theorem ldB_iff (h : okD n D) {v : Nat} (hv : v < n) : ldB D n v = true ↔ clB D n v = true ∧ ∀ w, w < v → (D v).testBit w = false := by
  unfold ldB
  rw [Bool.and_eq_true, decide_eq_true_eq, low_bit _ (h.lt hv) v (by have := h.1; omega)]
/-- within a closed set all lead alike -/
theorem cl_same (h : okD n D) {v w : Nat} (hv : v < n) (hc : clB D n v = true) (hw : (D v).testBit w = true) : D w = D v ∧ clB D n w = true := by
  have c := (clB_iff h hv).mp hc
  have hwn := h.in hv hw
  have e : D w = D v := by
    refine bits_ext _ (h.lt hwn) _ (h.lt hv) (fun k _ => ?_)
    have a1 : (D w).testBit k = true → (D v).testBit k = true := fun q => h.2.2 v w k hv hw q
    have a2 : (D v).testBit k = true → (D w).testBit k = true := fun q => h.2.2 w v k hwn (c w hw) q
    cases q1 : (D w).testBit k with
    | true => rw [a1 q1]
    | false =>
      cases q2 : (D v).testBit k with
      | true => rw [a2 q2] at q1; cases q1
      | false => rfl
  refine ⟨e, (clB_iff h hwn).mpr (fun z hz => ?_)⟩
  rw [e] at hz
  exact h.2.2 z v w (h.in hv hz) (c z hz) hw
/-- every closed set has a least node -/
theorem cl_least (h : okD n D) {v : Nat} (hv : v < n) (hc : clB D n v = true) : ∃ l, l ≤ v ∧ ldB D n l = true ∧ (D v).testBit l = true ∧ D l = D v := by
  obtain ⟨l, hl, hm⟩ := pk_least (fun k => (D v).testBit k = true) ⟨v, h.rf hv⟩
  have hln := h.in hv hl
  obtain ⟨e, c⟩ := cl_same h hv hc hl
  refine ⟨l, ?_, (ldB_iff h hln).mpr ⟨c, fun w hw => ?_⟩, hl, e⟩
  · rcases Nat.lt_or_ge v l with q | q
    · exact absurd (h.rf hv) (hm v q)
    · exact q
  · rw [e]
    cases q : (D v).testBit w with
    | true => exact absurd q (hm w hw)
    | false => rfl
theorem ld_uniq (h : okD n D) {l k : Nat} (hl : l < n) (hk : k < n) (h1 : ldB D n l = true) (h2 : ldB D n k = true) {w : Nat} (w1 : (D l).testBit w = true) (w2 : (D k).testBit w = true) : l = k := by
  obtain ⟨c1, m1⟩ := (ldB_iff h hl).mp h1
  obtain ⟨c2, m2⟩ := (ldB_iff h hk).mp h2
  have e1 := (cl_same h hl c1 w1).1
  have e2 := (cl_same h hk c2 w2).1
  have e : D l = D k := e1.symm.trans e2
  rcases Nat.lt_trichotomy l k with q | q | q
  · have := m2 l q
    rw [← e, h.rf hl] at this; cases this
  · exact q
  · have := m1 k q
    rw [e, h.rf hk] at this; cases this
/-- what the closed sets hold when the nodes below v have been looked at -/
def IC (n : Nat) (D : Nat → Nat) (v q : Nat) (M L : Nat → Nat) (O : Nat → Int32) : Prop :=
  q = cntB (ldB D n) v ∧ (∀ l, l < v → ldB D n l = true → M (cntB (ldB D n) l) = D l ∧ L (cntB (ldB D n) l) = l) ∧ (∀ l, l < v → ldB D n l = true → ∀ w, (D l).testBit w = true → O w = nI (cntB (ldB D n) l)) ∧ ∀ w, w < n → (∀ l, l < v → ldB D n l = true → (D l).testBit w = false) → O w = -3
variable {v q : Nat} {M L : Nat → Nat} {O : Nat → Int32}
theorem IC_0 (hO : ∀ w, w < n → O w = -3) : IC n D 0 0 M L O :=
  ⟨rfl, fun l hl => absurd hl (Nat.not_lt_zero l), fun l hl => absurd hl (Nat.not_lt_zero l), fun w hw _ => hO w hw⟩
theorem IC_test (h : okD n D) (hv : v < n) (C : IC n D v q M L O) : (O v = -3 ∧ clB D n v = true) ↔ ldB D n v = true := by
  constructor
  · rintro ⟨ho, hc⟩
    obtain ⟨l, hl, h1, h2, h3⟩ := cl_least h hv hc
    by_cases e : l = v
    · rw [← e]; exact h1
    · have := C.2.2.1 l (by omega) h1 v (by rw [h3]; exact h.rf hv)
      rw [ho] at this
      exact absurd this.symm (m3_ne _ (by have := cntB_le (ldB D n) l; have := h.1; omega))
  · intro hl
    obtain ⟨c, m⟩ := (ldB_iff h hv).mp hl
    refine ⟨C.2.2.2 v hv (fun l hlv h1 => ?_), c⟩
    cases q1 : (D l).testBit v with
    | false => rfl
    | true => exact absurd (ld_uniq h (by omega) hv h1 hl q1 (h.rf hv)) (by omega)
theorem IC_no (C : IC n D v q M L O) (hl : ldB D n v = false) : IC n D (v + 1) q M L O := by
  refine ⟨by rw [cntB, hl]; exact C.1, fun l h1 h2 => ?_, fun l h1 h2 => ?_, fun w hw h3 => C.2.2.2 w hw (fun l h1 h2 => h3 l (by omega) h2)⟩
  · by_cases e : l = v
    · subst e; rw [hl] at h2; cases h2
    · exact C.2.1 l (by omega) h2
  · by_cases e : l = v
    · subst e; rw [hl] at h2; cases h2
    · exact C.2.2.1 l (by omega) h2
theorem IC_add (h : okD n D) (hv : v < n) (C : IC n D v q M L O) (hl : ldB D n v = true) {O' : Nat → Int32} (hO : ∀ w, O' w = if w < n ∧ (D v).testBit w = true then nI q else O w) : IC n D (v + 1) (q + 1) (fup M q (D v)) (fup L q v) O' := by
  have hq := C.1
  refine ⟨by rw [cntB, if_pos hl, ← hq], fun l h1 h2 => ?_, fun l h1 h2 w hw => ?_, fun w hw h3 => ?_⟩
  · by_cases e : l = v
    · subst e; rw [← hq, fup_s, fup_s]; exact ⟨rfl, rfl⟩
    · have h4 := cntB_lt (ldB D n) (show l < v by omega) h2
      rw [fup_n (by omega), fup_n (by omega)]
      exact C.2.1 l (by omega) h2
  · by_cases e : l = v
    · subst e
      rw [hO w, if_pos ⟨h.in hv hw, hw⟩, hq]
    · rw [hO w, if_neg (fun z => e (ld_uniq h (by omega) hv h2 hl hw z.2))]
      exact C.2.2.1 l (by omega) h2 w hw
  · rw [hO w, if_neg (fun z => by rw [h3 v (by omega) hl] at z; cases z.2)]
    exact C.2.2.2 w hw (fun l h1 h2 => h3 l (by omega) h2)
end SETS
end
section
-- the common total; periods; drawing
def lcmT (T : Nat → Nat) : Nat → Nat
  | 0 => 1
  | k + 1 => lcmT T k / Nat.gcd (lcmT T k) (T k) * T k
theorem lcm_eq' (a b : Nat) : a / Nat.gcd a b * b = Nat.lcm a b := by
  rw [Nat.lcm_eq_mul_div, Nat.mul_comm a b, Nat.mul_div_assoc b (Nat.gcd_dvd_left a b), Nat.mul_comm]
theorem lcmT_dvd {T : Nat → Nat} {m : Nat} : ∀ {k : Nat}, (∀ i, i < k → T i ∣ m) → lcmT T k ∣ m
  | 0, _ => Nat.one_dvd m
  | k + 1, h => by
    rw [lcmT, lcm_eq']
    exact Nat.lcm_dvd (lcmT_dvd (fun i hi => h i (by omega))) (h k (by omega))
theorem lcmT_pos {T : Nat → Nat} : ∀ {k : Nat}, (∀ i, i < k → 0 < T i) → 0 < lcmT T k
  | 0, _ => Nat.zero_lt_one
  | k + 1, h => by
    rw [lcmT, lcm_eq']
    exact Nat.lcm_pos (lcmT_pos (fun i hi => h i (by omega))) (h k (by omega))
theorem T_dvd_lcmT {T : Nat → Nat} : ∀ {k i : Nat}, i < k → T i ∣ lcmT T k
  | 0, i, h => absurd h (Nat.not_lt_zero i)
  | k + 1, i, h => by
    rw [lcmT, lcm_eq']
    by_cases e : i = k
    · subst e; exact Nat.dvd_lcm_right _ _
    · exact Nat.dvd_trans (T_dvd_lcmT (by omega)) (Nat.dvd_lcm_left _ _)
theorem lcmT_congr {T U : Nat → Nat} : ∀ {k : Nat}, (∀ i, i < k → T i = U i) → lcmT T k = lcmT U k
  | 0, _ => rfl
  | k + 1, h => by rw [lcmT, lcmT, lcmT_congr (fun i hi => h i (by omega)), h k (by omega)]
theorem dvd_2520 : ∀ o, o ≤ 10 → ∀ a, a ≤ 10 → 0 < o → 0 < a → (o * a / Nat.gcd o a ∣ 2520 ∧ o ∣ 2520) := by decide +kernel
theorem gcdN_dvd_of {f : Nat → Nat} {d : Nat} : ∀ {n : Nat}, (∀ i, i < n → d ∣ f i) → d ∣ gcdN f n
  | 0, _ => Nat.dvd_zero d
  | n + 1, h => by
    rw [gcdN]
    exact Nat.dvd_gcd (gcdN_dvd_of (fun i hi => h i (by omega))) (h n (by omega))
theorem gcdN_dvd_sN (f : Nat → Nat) : ∀ n, ∀ d, (∀ i, i < n → d ∣ f i) → d ∣ sN f n
  | 0, d, _ => Nat.dvd_zero d
  | n + 1, d, h => by
    rw [sN]
    exact Nat.dvd_add (gcdN_dvd_sN f n d (fun i hi => h i (by omega))) (h n (by omega))
theorem div_dvd_div {s d g m : Nat} (h1 : d ∣ g) (h2 : g ∣ s) (hg : 0 < g) (h3 : s / d ∣ m) : s / g ∣ m := by
  obtain ⟨a, rfl⟩ := h1
  obtain ⟨b, rfl⟩ := h2
  have hd : 0 < d := Nat.pos_of_ne_zero (fun q => by subst q; simp at hg)
  have e1 : d * a * b / (d * a) = b := Nat.mul_div_cancel_left b hg
  have e2 : d * a * b / d = a * b := by rw [Nat.mul_assoc]; exact Nat.mul_div_cancel_left _ hd
  rw [e1]; rw [e2] at h3
  exact Nat.dvd_trans (Nat.dvd_mul_left b a) h3
theorem tt_dvd {n x y : Nat} {W : Nat → Nat → Nat} {J : Nat → Nat} (h : okG n x y W J) {u : Nat} (hu : u < n) : tt n x y W J u ∣ 2520 * y := by
  obtain ⟨r1, r2⟩ := raw_sum h hu
  have g0 := gcdN_pos r1
  obtain ⟨-, -, e⟩ := nr_ok h hu
  obtain ⟨hn, hxy, hy1, hy4, hW, hJ⟩ := h
  have ho := sN_le (f := W u) (b := 2) (n := n) (fun i hi => hW u i (by omega) (by omega))
  have ha := sN_le (f := J) (b := 2) (n := n) (fun i hi => hJ i (by omega))
  have hgs : gcdN (raw n x y W J u) n ∣ sN (raw n x y W J u) n := gcdN_dvd_sN _ n _ (fun i hi => gcdN_dvd _ hi)
  rw [e]
  by_cases h1 : 0 < sN (W u) n
  · by_cases h2 : 0 < sN J n
    · have er : ∀ v, raw n x y W J u v = x * sN J n * W u v + (y - x) * sN (W u) n * J v := fun v => by unfold raw; rw [if_pos h1, if_pos h2]
      have es : sN (raw n x y W J u) n = y * (sN (W u) n * sN J n) := by
        rw [sN_congr (fun i _ => er i), sN_add, sN_mul, sN_mul]
        have : y = x + (y - x) := by omega
        generalize y - x = d at *
        subst this
        rw [Nat.add_mul, Nat.mul_assoc, Nat.mul_assoc, Nat.mul_comm (sN J n) (sN (W u) n)]
      refine div_dvd_div (d := Nat.gcd (sN (W u) n) (sN J n)) (gcdN_dvd_of (fun i _ => ?_)) hgs g0 ?_
      · rw [er]
        refine Nat.dvd_add ?_ ?_
        · exact Nat.dvd_trans (Nat.dvd_trans (Nat.gcd_dvd_right _ _) (Nat.dvd_mul_left _ x)) (Nat.dvd_mul_right _ _)
        · exact Nat.dvd_trans (Nat.dvd_trans (Nat.gcd_dvd_left _ _) (Nat.dvd_mul_left _ (y - x))) (Nat.dvd_mul_right _ _)
      · rw [es, Nat.mul_div_assoc y (Nat.dvd_trans (Nat.gcd_dvd_left _ _) (Nat.dvd_mul_right _ _)), Nat.mul_comm 2520 y]
        exact Nat.mul_dvd_mul_left y (dvd_2520 _ (by omega) _ (by omega) h1 h2).1
    · have er : ∀ v, raw n x y W J u v = W u v := fun v => by unfold raw; rw [if_pos h1, if_neg h2]
      have es : sN (raw n x y W J u) n = sN (W u) n := sN_congr (fun i _ => er i)
      refine div_dvd_div (d := 1) (Nat.one_dvd _) hgs g0 ?_
      rw [es, Nat.div_one]
      exact Nat.dvd_trans (dvd_2520 _ (by omega) 1 (by omega) h1 (by omega)).2 (Nat.dvd_mul_right _ _)
  · by_cases h2 : 0 < sN J n
    · have er : ∀ v, raw n x y W J u v = J v := fun v => by unfold raw; rw [if_neg h1, if_pos h2]
      have es : sN (raw n x y W J u) n = sN J n := sN_congr (fun i _ => er i)
      refine div_dvd_div (d := 1) (Nat.one_dvd _) hgs g0 ?_
      rw [es, Nat.div_one]
      exact Nat.dvd_trans (dvd_2520 _ (by omega) 1 (by omega) h2 (by omega)).2 (Nat.dvd_mul_right _ _)
    · have er : ∀ v, raw n x y W J u v = if u = v then 1 else 0 := fun v => by unfold raw; rw [if_neg h1, if_neg h2]
      have es : sN (raw n x y W J u) n = 1 := by rw [sN_congr (fun i _ => er i), sN_one u n hu]
      refine div_dvd_div (d := 1) (Nat.one_dvd _) hgs g0 ?_
      rw [es, Nat.div_one]
      exact Nat.one_dvd _
/-- the least number that all totals divide: 10080 at most -/
theorem unit_ok {n x y : Nat} {W : Nat → Nat → Nat} {J : Nat → Nat} (h : okG n x y W J) {k : Nat} (hk : k ≤ n) : 0 < lcmT (tt n x y W J) k ∧ lcmT (tt n x y W J) k ≤ 10080 := by
  have h1 := lcmT_pos (T := tt n x y W J) (k := k) (fun i hi => (nr_ok h (by omega)).1)
  have h2 := lcmT_dvd (T := tt n x y W J) (k := k) (fun i hi => tt_dvd h (show i < n by omega))
  refine ⟨h1, Nat.le_trans (Nat.le_of_dvd (by have := h.2.2.1; omega) h2) (by have := h.2.2.2.1; omega)⟩
/-- the nodes at which a walk may be behind k steps -/
def itX (X : Nat → Nat) (n m : Nat) : Nat → Nat
  | 0 => m
  | k + 1 => nxO X (itX X n m k) n
theorem itX_lt {X : Nat → Nat} {n m : Nat} (hX : ∀ u, u < n → X u < 32) (hm : m < 32) : ∀ k, itX X n m k < 32
  | 0 => hm
  | _ + 1 => nxO_lt hX
/-- the greatest number that divides the lengths up to k of the ways from v back to v -/
def perd (X : Nat → Nat) (n v : Nat) : Nat → Nat
  | 0 => 0
  | k + 1 => if (itX X n (2 ^ v) (k + 1)).testBit v then Nat.gcd (perd X n v k) (k + 1) else perd X n v k
theorem perd_le {X : Nat → Nat} {n v : Nat} : ∀ k, perd X n v k ≤ k
  | 0 => Nat.le_refl 0
  | k + 1 => by
    rw [perd]
    split
    · exact Nat.le_of_dvd (by omega) (Nat.gcd_dvd_right _ _)
    · have := perd_le (X := X) (n := n) (v := v) k
      omega
/-- the place at which a sum comes to be above t is one -/
theorem pick_uniq {f : Nat → Nat} {t v w : Nat} (h1 : sN f v ≤ t) (h2 : t < sN f (v + 1)) (h3 : sN f w ≤ t) (h4 : t < sN f (w + 1)) : v = w := by
  rcases Nat.lt_trichotomy v w with q | q | q
  · have := sN_mono f (show v + 1 ≤ w by omega); omega
  · exact q
  · have := sN_mono f (show w + 1 ≤ v by omega); omega
theorem ite_iff {α : Type} {c d : Prop} {x y : α} {ic : Decidable c} {id : Decidable d} (h : c ↔ d) : @ite α c ic x y = @ite α d id x y := by
  by_cases q : c
  · rw [if_pos q, if_pos (h.mp q)]
  · rw [if_neg q, if_neg (fun z => q (h.mpr z))]
end
section
-- laid by wip/whole/m1.py
set_option maxHeartbeats 4000000 in
set_option maxRecDepth 100000 in
theorem m_G_outOf {g : aw_G} (hg : aw_T g) {ws : va_W} {ad : Nat → Nat} {n x y u : Nat} {W : Nat → Nat → Nat} {J : Nat → Nat} (hG : gG g ws ad n x y W J) (hn : n ≤ 5) (hu : u < 5) : AMet g y_G_outOf c_G_outOf 4 (some .int) 0 [.ref (ad 1), .int (nI u)] ws (aw_R (.int (nI (sN (W u) n))) ws) 0 0 := by
  refine amet_of (by decide +kernel) (Nat.le_of_ble_eq_true rfl) ?_
  refine aw_sub (lv' := [(0, .ref (ad 1)), (1, .int (nI u))]) [0, 1] rfl ?_
  refine aw_iconst (v := nI 0) d_G_outOf_0 (by decide) ?_
  refine aw_istore_n (lv' := [(2, .int (nI 0)), (0, .ref (ad 1)), (1, .int (nI u))]) d_G_outOf_1 rfl (by decide) rfl ?_
  refine aw_iconst (v := nI 0) d_G_outOf_2 (by decide) ?_
  refine aw_istore_n (lv' := [(3, .int (nI 0)), (2, .int (nI 0)), (0, .ref (ad 1)), (1, .int (nI u))]) d_G_outOf_3 rfl (by decide) rfl ?_
  have lp : ∀ (k : Nat) (i : Nat), i ≤ n → n - i < k → AW g y_G_outOf c_G_outOf 4 (some .int) (aw_rm 0 0 0) aw_E0 (aw_F g (aw_R (.int (nI (sN (W u) n))) ws) 0 0) 0 0 4 [(0, .ref (ad 1)), (1, .int (nI u)), (2, .int (nI (sN (W u) i))), (3, .int (nI i))] [] ws := by
    intro k
    induction k with
    | zero => intro i hi hk; omega
    | succ k ih =>
      intro i hi hk
      refine aw_iload_n d_G_outOf_4 rfl rfl ?_
      refine aw_aload_n d_G_outOf_5 rfl rfl ?_
      refine aw_get kc_1 0 (by decide) k_24 d_G_outOf_6 hG.1 rfl ?_
      refine aw_icmp_geN (tgt := 29) d_G_outOf_9 (by decide) (by omega) (by omega) (fun h => ?_) (fun h => ?_)
      · have e : i = n := by omega
        subst e
        refine aw_iload_n d_G_outOf_29 rfl rfl ?_
        exact aw_iret d_G_outOf_30 (Nat.le_refl 0) (Nat.le_refl 0) ⟨rfl, rfl⟩
      · refine aw_iload_n d_G_outOf_12 rfl rfl ?_
        refine aw_aload_n d_G_outOf_13 rfl rfl ?_
        refine aw_get kc_1 3 (by decide) k_34 d_G_outOf_14 hG.1 rfl ?_
        refine aw_iload_n d_G_outOf_17 rfl rfl ?_
        refine aw_aaldI d_G_outOf_18 hG.2.1 hg (by omega) ?_
        refine aw_iload_n d_G_outOf_19 rfl rfl ?_
        refine aw_ialdA d_G_outOf_20 (hG.2.2.1 u (by omega)) hg (by omega) (by decide) ?_
        refine aw_iaddN d_G_outOf_21 ?_
        refine aw_istore_n (lv' := [(2, .int (nI ((sN (W u) i) + (W u i)))), (0, .ref (ad 1)), (1, .int (nI u)), (3, .int (nI i))]) d_G_outOf_22 rfl (by decide) rfl ?_
        refine aw_iinc1 (lv' := [(3, .int (nI (i + 1))), (2, .int (nI ((sN (W u) i) + (W u i)))), (0, .ref (ad 1)), (1, .int (nI u))]) d_G_outOf_23 rfl (by decide) rfl ?_
        refine aw_goto (tgt := 4) d_G_outOf_26 (by decide) ?_
        refine aw_sub (lv' := [(0, .ref (ad 1)), (1, .int (nI u)), (2, .int (nI (sN (W u) (i + 1)))), (3, .int (nI (i + 1)))]) [2, 3, 1, 0] rfl ?_
        exact ih (i + 1) (by omega) (by omega)
  refine aw_sub (lv' := [(0, .ref (ad 1)), (1, .int (nI u)), (2, .int (nI (sN (W u) 0))), (3, .int (nI 0))]) [2, 3, 1, 0] rfl ?_
  exact lp (n + 1) 0 (by omega) (by omega)

set_option maxHeartbeats 4000000 in
set_option maxRecDepth 100000 in
theorem m_G_allJumps {g : aw_G} (hg : aw_T g) {ws : va_W} {ad : Nat → Nat} {n x y : Nat} {W : Nat → Nat → Nat} {J : Nat → Nat} (hG : gG g ws ad n x y W J) (hn : n ≤ 5) : AMet g y_G_allJumps c_G_allJumps 3 (some .int) 0 [.ref (ad 1)] ws (aw_R (.int (nI (sN J n))) ws) 0 0 := by
  refine amet_of (by decide +kernel) (Nat.le_of_ble_eq_true rfl) ?_
  refine aw_sub (lv' := [(0, .ref (ad 1))]) [0] rfl ?_
  refine aw_iconst (v := nI 0) d_G_allJumps_0 (by decide) ?_
  refine aw_istore_n (lv' := [(1, .int (nI 0)), (0, .ref (ad 1))]) d_G_allJumps_1 rfl (by decide) rfl ?_
  refine aw_iconst (v := nI 0) d_G_allJumps_2 (by decide) ?_
  refine aw_istore_n (lv' := [(2, .int (nI 0)), (1, .int (nI 0)), (0, .ref (ad 1))]) d_G_allJumps_3 rfl (by decide) rfl ?_
  have lp : ∀ (k : Nat) (i : Nat), i ≤ n → n - i < k → AW g y_G_allJumps c_G_allJumps 3 (some .int) (aw_rm 0 0 0) aw_E0 (aw_F g (aw_R (.int (nI (sN J n))) ws) 0 0) 0 0 4 [(0, .ref (ad 1)), (1, .int (nI (sN J i))), (2, .int (nI i))] [] ws := by
    intro k
    induction k with
    | zero => intro i hi hk; omega
    | succ k ih =>
      intro i hi hk
      refine aw_iload_n d_G_allJumps_4 rfl rfl ?_
      refine aw_aload_n d_G_allJumps_5 rfl rfl ?_
      refine aw_get kc_1 0 (by decide) k_24 d_G_allJumps_6 hG.1 rfl ?_
      refine aw_icmp_geN (tgt := 27) d_G_allJumps_9 (by decide) (by omega) (by omega) (fun h => ?_) (fun h => ?_)
      · have e : i = n := by omega
        subst e
        refine aw_iload_n d_G_allJumps_27 rfl rfl ?_
        exact aw_iret d_G_allJumps_28 (Nat.le_refl 0) (Nat.le_refl 0) ⟨rfl, rfl⟩
      · refine aw_iload_n d_G_allJumps_12 rfl rfl ?_
        refine aw_aload_n d_G_allJumps_13 rfl rfl ?_
        refine aw_get kc_1 4 (by decide) k_38 d_G_allJumps_14 hG.1 rfl ?_
        refine aw_iload_n d_G_allJumps_17 rfl rfl ?_
        refine aw_ialdA d_G_allJumps_18 hG.2.2.2 hg (by omega) (by decide) ?_
        refine aw_iaddN d_G_allJumps_19 ?_
        refine aw_istore_n (lv' := [(1, .int (nI ((sN J i) + (J i)))), (0, .ref (ad 1)), (2, .int (nI i))]) d_G_allJumps_20 rfl (by decide) rfl ?_
        refine aw_iinc1 (lv' := [(2, .int (nI (i + 1))), (1, .int (nI ((sN J i) + (J i)))), (0, .ref (ad 1))]) d_G_allJumps_21 rfl (by decide) rfl ?_
        refine aw_goto (tgt := 4) d_G_allJumps_24 (by decide) ?_
        refine aw_sub (lv' := [(0, .ref (ad 1)), (1, .int (nI (sN J (i + 1)))), (2, .int (nI (i + 1)))]) [2, 1, 0] rfl ?_
        exact ih (i + 1) (by omega) (by omega)
  refine aw_sub (lv' := [(0, .ref (ad 1)), (1, .int (nI (sN J 0))), (2, .int (nI 0))]) [2, 1, 0] rfl ?_
  exact lp (n + 1) 0 (by omega) (by omega)

set_option maxHeartbeats 4000000 in
set_option maxRecDepth 100000 in
theorem m_W_only {g : aw_G} (hg : aw_T g) {ws : va_W} {ad : Nat → Nat} {k : Nat} (hk : k < 5) : AMet g y_W_only c_W_only 1 (some .int) 0 [.int (nI k)] ws (aw_R (.int (nI (2 ^ k))) ws) 0 0 := by
  refine amet_of (by decide +kernel) (Nat.le_of_ble_eq_true rfl) ?_
  refine aw_sub (lv' := [(0, .int (nI k))]) [0] rfl ?_
  refine aw_iconst (v := nI 1) d_W_only_0 (by decide) ?_
  refine aw_iload_n d_W_only_1 rfl rfl ?_
  refine aw_ishl d_W_only_2 ?_
  refine aw_nmi (z := nI (2 ^ k)) (by rcases (show k = 0 ∨ k = 1 ∨ k = 2 ∨ k = 3 ∨ k = 4 by omega) with rfl | rfl | rfl | rfl | rfl <;> decide) ?_
  exact aw_iret d_W_only_3 (Nat.le_refl 0) (Nat.le_refl 0) ⟨rfl, rfl⟩

theorem has_bit : ∀ m, m < 32 → ∀ k, k < 5 → (m &&& 2 ^ k = 0 ↔ m.testBit k = false) := by decide +kernel

set_option maxHeartbeats 4000000 in
set_option maxRecDepth 100000 in
theorem m_W_has {g : aw_G} (hg : aw_T g) {ws : va_W} {ad : Nat → Nat} {m k : Nat} (hm : m < 32) (hk : k < 5) : AMet g y_W_has c_W_has 2 (some .boolean) 1 [.int (nI m), .int (nI k)] ws (aw_R (.int (bI (m.testBit k))) ws) 0 0 := by
  refine amet_of (by decide +kernel) (Nat.le_of_ble_eq_true rfl) ?_
  refine aw_sub (lv' := [(0, .int (nI m)), (1, .int (nI k))]) [0, 1] rfl ?_
  refine aw_iload_n d_W_has_0 rfl rfl ?_
  refine aw_iload_n d_W_has_1 rfl rfl ?_
  refine aw_callS (av := [.int (nI k)]) (rest := [.int (nI m)]) (m_W_only (ad := ad) hg hk) kd_W_only k_223 k_206  d_W_has_2 rfl ⟨by decide, by decide⟩ (Nat.le_of_ble_eq_true rfl) ⟨by decide, by decide⟩ rfl (fun v ws2 hq => ?_)
  obtain ⟨rfl, rfl⟩ := hq
  refine aw_iandN d_W_has_5 ?_
  refine aw_if_eqN (tgt := 13) d_W_has_6 (by decide) (Nat.lt_of_le_of_lt Nat.and_le_left (by omega)) (fun h => ?_) (fun h => ?_)
  · have e := (has_bit m hm k hk).mp h
    refine aw_iconst (v := nI 0) d_W_has_13 (by decide) ?_
    exact aw_zret d_W_has_14 rfl (Nat.le_refl 0) (Nat.le_refl 0) ⟨by rw [e]; rfl, rfl⟩
  · have e : m.testBit k = true := by cases q : m.testBit k with | true => rfl | false => exact absurd ((has_bit m hm k hk).mpr q) h
    refine aw_iconst (v := nI 1) d_W_has_9 (by decide) ?_
    refine aw_goto (tgt := 14) d_W_has_10 (by decide) ?_
    exact aw_zret d_W_has_14 rfl (Nat.le_refl 0) (Nat.le_refl 0) ⟨by rw [e]; rfl, rfl⟩
end
section
-- laid by wip/whole/m2.py
theorem eu_gcd (G L : Nat) : Nat.gcd L (G % L) = Nat.gcd G L := by
  rw [Nat.gcd_comm L (G % L), ← Nat.gcd_rec L G, Nat.gcd_comm]
theorem eu_half {G L : Nat} (h0 : 0 < L) (h : L ≤ G) : 2 * (L * (G % L)) ≤ G * L - L := by
  have h1 := Nat.mod_lt G h0
  have h2 := Nat.div_add_mod G L
  have h3 : 1 ≤ G / L := Nat.div_pos h h0
  have h4 : L * 1 ≤ L * (G / L) := Nat.mul_le_mul_left L h3
  have h5 : 2 * (G % L) + 1 ≤ G := by omega
  have h6 : L * (2 * (G % L) + 1) ≤ L * G := Nat.mul_le_mul_left L h5
  rw [Nat.mul_add, Nat.mul_one, Nat.mul_comm L G, ← Nat.mul_assoc, Nat.mul_comm L 2, Nat.mul_assoc] at h6
  omega
theorem eu_step {i G L : Nat} (h0 : 0 < L) (hi : i < 100) (h : (i = 0 ∧ G * L < 2 ^ 99) ∨ (1 ≤ i ∧ L ≤ G ∧ G * L < 2 ^ (100 - i))) : (1 ≤ i + 1 ∧ G % L ≤ L ∧ L * (G % L) < 2 ^ (100 - (i + 1))) := by
  have h1 := Nat.mod_lt G h0
  refine ⟨by omega, by omega, ?_⟩
  rcases h with ⟨e, h⟩ | ⟨h2, h3, h4⟩
  · subst e
    have h5 : L * (G % L) ≤ L * G := Nat.mul_le_mul_left L (Nat.mod_le G L)
    rw [Nat.mul_comm L G] at h5
    exact Nat.lt_of_le_of_lt h5 h
  · have h5 := eu_half h0 h3
    have h6 : 2 ^ (100 - i) = 2 * 2 ^ (100 - (i + 1)) := by
      rw [show 100 - i = (100 - (i + 1)) + 1 by omega, Nat.pow_succ, Nat.mul_comm]
    rw [h6] at h4
    omega
theorem eu_end {G L : Nat} (h : (100 = 0 ∧ G * L < 2 ^ 99) ∨ (1 ≤ 100 ∧ L ≤ G ∧ G * L < 2 ^ (100 - 100))) : L = 0 := by
  rcases h with ⟨e, -⟩ | ⟨-, h3, h4⟩
  · omega
  · have h5 : G * L = 0 := by omega
    rcases Nat.mul_eq_zero.mp h5 with e | e
    · omega
    · exact e
/-- a fraction in lowest terms -/
def fracN (a b p : Nat) : Nat := (if p = 0 then a else b) / Nat.gcd a b

set_option maxHeartbeats 4000000 in
set_option maxRecDepth 100000 in
theorem m_W_greatestDivisor {g : aw_G} (hg : aw_T g) {ws : va_W} {ad : Nat → Nat} {a b : Nat} (ha : a < 2 ^ 62) (hb : b < 2 ^ 62) (hab : a * b < 2 ^ 99) : AMet g y_W_greatestDivisor c_W_greatestDivisor 11 (some .long) 0 [.long (lI (a : Int)), .long (lI (b : Int))] ws (aw_R (.long (lI (Nat.gcd a b : Int))) ws) 0 0 := by
  refine amet_of (by decide +kernel) (Nat.le_of_ble_eq_true rfl) ?_
  refine aw_sub (lv' := [(0, .long (lI (a : Int))), (2, .long (lI (b : Int)))]) [0, 1] rfl ?_
  refine aw_lload_n d_W_greatestDivisor_0 rfl rfl ?_
  refine aw_lstore (lv' := [(4, .long (lI (a : Int))), (0, .long (lI (a : Int))), (2, .long (lI (b : Int)))]) d_W_greatestDivisor_1 (by decide) rfl ?_
  refine aw_lload_n d_W_greatestDivisor_3 rfl rfl ?_
  refine aw_lstore (lv' := [(6, .long (lI (b : Int))), (4, .long (lI (a : Int))), (0, .long (lI (a : Int))), (2, .long (lI (b : Int)))]) d_W_greatestDivisor_4 (by decide) rfl ?_
  refine aw_iconst (v := nI 0) d_W_greatestDivisor_6 (by decide) ?_
  refine aw_istore (lv' := [(8, .int (nI 0)), (6, .long (lI (b : Int))), (4, .long (lI (a : Int))), (0, .long (lI (a : Int))), (2, .long (lI (b : Int)))]) d_W_greatestDivisor_7 (by decide) rfl ?_
  have lp : ∀ (k : Nat) (G L i : Nat), G < 2 ^ 62 → L < 2 ^ 62 → Nat.gcd G L = Nat.gcd a b → i ≤ 100 → ((i = 0 ∧ G * L < 2 ^ 99) ∨ (1 ≤ i ∧ L ≤ G ∧ G * L < 2 ^ (100 - i))) → 100 - i < k → AW g y_W_greatestDivisor c_W_greatestDivisor 11 (some .long) (aw_rm 0 0 0) aw_E0 (aw_F g (aw_R (.long (lI (Nat.gcd a b : Int))) ws) 0 0) 0 0 9 [(4, .long (lI (G : Int))), (6, .long (lI (L : Int))), (8, .int (nI i))] [] ws := by
    intro k
    induction k with
    | zero => intro G L i hG hL he hi hp hk; omega
    | succ k ih =>
      intro G L i hG hL he hi hp hk
      refine aw_iload d_W_greatestDivisor_9 rfl ?_
      refine aw_bipush (v := nI 100) d_W_greatestDivisor_11 (by decide) ?_
      refine aw_icmp_geN (tgt := 44) d_W_greatestDivisor_13 (by decide) (by omega) (by omega) (fun h => ?_) (fun h => ?_)
      · have ei : i = 100 := by omega
        subst ei
        have e0 := eu_end hp
        subst e0
        rw [Nat.gcd_zero_right] at he
        refine aw_lload d_W_greatestDivisor_44 rfl ?_
        exact aw_lret d_W_greatestDivisor_46 (Nat.le_refl 0) (Nat.le_refl 0) ⟨by rw [he], rfl⟩
      · refine aw_lload d_W_greatestDivisor_16 rfl ?_
        refine aw_lconst (v := lI 0) d_W_greatestDivisor_18 (by decide) ?_
        refine aw_lcmpI d_W_greatestDivisor_19 (by omega) (by omega) (by omega) (by omega) ?_
        refine aw_if_eqC (tgt := 44) d_W_greatestDivisor_20 (by decide) (fun h2 => ?_) (fun h2 => ?_)
        · have e0 : L = 0 := by omega
          subst e0
          rw [Nat.gcd_zero_right] at he
          refine aw_lload d_W_greatestDivisor_44 rfl ?_
          exact aw_lret d_W_greatestDivisor_46 (Nat.le_refl 0) (Nat.le_refl 0) ⟨by rw [he], rfl⟩
        · have h0 : 0 < L := by omega
          have h1 := Nat.mod_lt G h0
          refine aw_lload d_W_greatestDivisor_23 rfl ?_
          refine aw_lload d_W_greatestDivisor_25 rfl ?_
          refine aw_lremI (a := G) (b := L) d_W_greatestDivisor_27 (by omega) (by omega) (by omega) ?_
          refine aw_lstore (lv' := [(9, .long (lI ((G % L : Nat) : Int))), (4, .long (lI (G : Int))), (6, .long (lI (L : Int))), (8, .int (nI i))]) d_W_greatestDivisor_28 (by decide) rfl ?_
          refine aw_lload d_W_greatestDivisor_30 rfl ?_
          refine aw_lstore (lv' := [(4, .long (lI (L : Int))), (9, .long (lI ((G % L : Nat) : Int))), (6, .long (lI (L : Int))), (8, .int (nI i))]) d_W_greatestDivisor_32 (by decide) rfl ?_
          refine aw_lload d_W_greatestDivisor_34 rfl ?_
          refine aw_lstore (lv' := [(6, .long (lI ((G % L : Nat) : Int))), (4, .long (lI (L : Int))), (9, .long (lI ((G % L : Nat) : Int))), (8, .int (nI i))]) d_W_greatestDivisor_36 (by decide) rfl ?_
          refine aw_iinc1 (lv' := [(8, .int (nI (i + 1))), (6, .long (lI ((G % L : Nat) : Int))), (4, .long (lI (L : Int))), (9, .long (lI ((G % L : Nat) : Int)))]) d_W_greatestDivisor_38 rfl (by decide) rfl ?_
          refine aw_goto (tgt := 9) d_W_greatestDivisor_41 (by decide) ?_
          refine aw_sub (lv' := [(4, .long (lI (L : Int))), (6, .long (lI ((G % L : Nat) : Int))), (8, .int (nI (i + 1)))]) [2, 1, 0] rfl ?_
          exact ih L (G % L) (i + 1) hL (by omega) ((eu_gcd G L).trans he) (by omega) (Or.inr (eu_step h0 h hp)) (by omega)
  refine aw_sub (lv' := [(4, .long (lI (a : Int))), (6, .long (lI (b : Int))), (8, .int (nI 0))]) [2, 1, 0] rfl ?_
  exact lp 101 a b 0 ha hb rfl (by omega) (Or.inl ⟨rfl, hab⟩) (by omega)

set_option maxHeartbeats 4000000 in
set_option maxRecDepth 100000 in
theorem m_M_common {g : aw_G} (hg : aw_T g) {ws : va_W} {ad : Nat → Nat} {a b : Nat} (ha : a < 2 ^ 62) (hb : b < 2 ^ 62) : AMet g y_M_common c_M_common 10 (some .long) 0 [.long (lI (a : Int)), .long (lI (b : Int))] ws (aw_R (.long (lI (Nat.gcd a b : Int))) ws) 0 0 := by
  refine amet_of (by decide +kernel) (Nat.le_of_ble_eq_true rfl) ?_
  refine aw_sub (lv' := [(0, .long (lI (a : Int))), (2, .long (lI (b : Int)))]) [0, 1] rfl ?_
  refine aw_lload_n d_M_common_0 rfl rfl ?_
  refine aw_lstore (lv' := [(4, .long (lI (a : Int))), (0, .long (lI (a : Int))), (2, .long (lI (b : Int)))]) d_M_common_1 (by decide) rfl ?_
  refine aw_lload_n d_M_common_3 rfl rfl ?_
  refine aw_lstore (lv' := [(6, .long (lI (b : Int))), (4, .long (lI (a : Int))), (0, .long (lI (a : Int))), (2, .long (lI (b : Int)))]) d_M_common_4 (by decide) rfl ?_
  have lp : ∀ (k : Nat) (G L : Nat), G < 2 ^ 62 → L < 2 ^ 62 → Nat.gcd G L = Nat.gcd a b → L < k → AW g y_M_common c_M_common 10 (some .long) (aw_rm 0 0 0) aw_E0 (aw_F g (aw_R (.long (lI (Nat.gcd a b : Int))) ws) 0 0) 0 0 6 [(4, .long (lI (G : Int))), (6, .long (lI (L : Int)))] [] ws := by
    intro k
    induction k with
    | zero => intro G L hG hL he hk; omega
    | succ k ih =>
      intro G L hG hL he hk
      refine aw_lload d_M_common_6 rfl ?_
      refine aw_lconst (v := lI 0) d_M_common_8 (by decide) ?_
      refine aw_lcmpI d_M_common_9 (by omega) (by omega) (by omega) (by omega) ?_
      refine aw_if_eqC (tgt := 31) d_M_common_10 (by decide) (fun h2 => ?_) (fun h2 => ?_)
      · have e0 : L = 0 := by omega
        subst e0
        rw [Nat.gcd_zero_right] at he
        refine aw_lload d_M_common_31 rfl ?_
        exact aw_lret d_M_common_33 (Nat.le_refl 0) (Nat.le_refl 0) ⟨by rw [he], rfl⟩
      · have h0 : 0 < L := by omega
        have h1 := Nat.mod_lt G h0
        refine aw_lload d_M_common_13 rfl ?_
        refine aw_lload d_M_common_15 rfl ?_
        refine aw_lremI (a := G) (b := L) d_M_common_17 (by omega) (by omega) (by omega) ?_
        refine aw_lstore (lv' := [(8, .long (lI ((G % L : Nat) : Int))), (4, .long (lI (G : Int))), (6, .long (lI (L : Int)))]) d_M_common_18 (by decide) rfl ?_
        refine aw_lload d_M_common_20 rfl ?_
        refine aw_lstore (lv' := [(4, .long (lI (L : Int))), (8, .long (lI ((G % L : Nat) : Int))), (6, .long (lI (L : Int)))]) d_M_common_22 (by decide) rfl ?_
        refine aw_lload d_M_common_24 rfl ?_
        refine aw_lstore (lv' := [(6, .long (lI ((G % L : Nat) : Int))), (4, .long (lI (L : Int))), (8, .long (lI ((G % L : Nat) : Int)))]) d_M_common_26 (by decide) rfl ?_
        refine aw_goto (tgt := 6) d_M_common_28 (by decide) ?_
        refine aw_sub (lv' := [(4, .long (lI (L : Int))), (6, .long (lI ((G % L : Nat) : Int)))]) [1, 0] rfl ?_
        exact ih L (G % L) hL (by omega) ((eu_gcd G L).trans he) (by omega)
  refine aw_sub (lv' := [(4, .long (lI (a : Int))), (6, .long (lI (b : Int)))]) [1, 0] rfl ?_
  exact lp (b + 1) a b ha hb rfl (by omega)

set_option maxHeartbeats 4000000 in
set_option maxRecDepth 100000 in
theorem m_W_fraction {g : aw_G} (hg : aw_T g) {ws : va_W} {ad : Nat → Nat} {a b p : Nat} (ha : a < 2 ^ 62) (hb : b < 2 ^ 62) (hab : a * b < 2 ^ 99) (h0 : 0 < b) (hp : p < 2) : AMet g y_W_fraction c_W_fraction 9 (some .long) 1 [.long (lI (a : Int)), .long (lI (b : Int)), .int (nI p)] ws (aw_R (.long (lI (fracN a b p : Int))) ws) 0 0 := by
  have g0 : 0 < Nat.gcd a b := Nat.gcd_pos_of_pos_right a h0
  have g1 : Nat.gcd a b ≤ b := Nat.le_of_dvd h0 (Nat.gcd_dvd_right a b)
  refine amet_of (by decide +kernel) (Nat.le_of_ble_eq_true rfl) ?_
  refine aw_sub (lv' := [(0, .long (lI (a : Int))), (2, .long (lI (b : Int))), (4, .int (nI p))]) [0, 1, 2] rfl ?_
  refine aw_iload d_W_fraction_0 rfl ?_
  refine aw_if_neN (tgt := 9) d_W_fraction_2 (by decide) (by omega) (fun h => ?_) (fun h => ?_)
  · refine aw_lload_n d_W_fraction_9 rfl rfl ?_
    refine aw_lstore (lv' := [(5, .long (lI (b : Int))), (0, .long (lI (a : Int))), (2, .long (lI (b : Int))), (4, .int (nI p))]) d_W_fraction_10 (by decide) rfl ?_
    refine aw_lload_n d_W_fraction_12 rfl rfl ?_
    refine aw_lload_n d_W_fraction_13 rfl rfl ?_
    refine aw_callS (av := [.long (lI (a : Int)), .long (lI (b : Int))]) (rest := []) (m_W_greatestDivisor (ad := ad) hg ha hb hab) kd_W_greatestDivisor k_317 k_199  d_W_fraction_14 rfl ⟨by decide, by decide⟩ (Nat.le_of_ble_eq_true rfl) ⟨by decide, by decide⟩ rfl (fun v ws2 hq => ?_)
    obtain ⟨rfl, rfl⟩ := hq
    refine aw_lstore (lv' := [(7, .long (lI (Nat.gcd a b : Int))), (5, .long (lI (b : Int))), (0, .long (lI (a : Int))), (2, .long (lI (b : Int))), (4, .int (nI p))]) d_W_fraction_17 (by decide) rfl ?_
    refine aw_lload d_W_fraction_19 rfl ?_
    refine aw_lconst (v := lI 0) d_W_fraction_21 (by decide) ?_
    refine aw_lcmpI d_W_fraction_22 (by omega) (by omega) (by omega) (by omega) ?_
    refine aw_if_neC (tgt := 31) d_W_fraction_23 (by decide) (fun h2 => ?_) (fun h2 => absurd h2 (by omega))
    refine aw_lload d_W_fraction_31 rfl ?_
    refine aw_lload d_W_fraction_33 rfl ?_
    refine aw_ldivI (a := b) (b := (Nat.gcd a b)) d_W_fraction_35 (by omega) (by omega) (by omega) ?_
    exact aw_lret d_W_fraction_36 (Nat.le_refl 0) (Nat.le_refl 0) ⟨by unfold fracN; rw [if_neg h], rfl⟩
  · refine aw_lload_n d_W_fraction_5 rfl rfl ?_
    refine aw_goto (tgt := 10) d_W_fraction_6 (by decide) ?_
    refine aw_lstore (lv' := [(5, .long (lI (a : Int))), (0, .long (lI (a : Int))), (2, .long (lI (b : Int))), (4, .int (nI p))]) d_W_fraction_10 (by decide) rfl ?_
    refine aw_lload_n d_W_fraction_12 rfl rfl ?_
    refine aw_lload_n d_W_fraction_13 rfl rfl ?_
    refine aw_callS (av := [.long (lI (a : Int)), .long (lI (b : Int))]) (rest := []) (m_W_greatestDivisor (ad := ad) hg ha hb hab) kd_W_greatestDivisor k_317 k_199  d_W_fraction_14 rfl ⟨by decide, by decide⟩ (Nat.le_of_ble_eq_true rfl) ⟨by decide, by decide⟩ rfl (fun v ws2 hq => ?_)
    obtain ⟨rfl, rfl⟩ := hq
    refine aw_lstore (lv' := [(7, .long (lI (Nat.gcd a b : Int))), (5, .long (lI (a : Int))), (0, .long (lI (a : Int))), (2, .long (lI (b : Int))), (4, .int (nI p))]) d_W_fraction_17 (by decide) rfl ?_
    refine aw_lload d_W_fraction_19 rfl ?_
    refine aw_lconst (v := lI 0) d_W_fraction_21 (by decide) ?_
    refine aw_lcmpI d_W_fraction_22 (by omega) (by omega) (by omega) (by omega) ?_
    refine aw_if_neC (tgt := 31) d_W_fraction_23 (by decide) (fun h2 => ?_) (fun h2 => absurd h2 (by omega))
    refine aw_lload d_W_fraction_31 rfl ?_
    refine aw_lload d_W_fraction_33 rfl ?_
    refine aw_ldivI (a := a) (b := (Nat.gcd a b)) d_W_fraction_35 (by omega) (by omega) (by omega) ?_
    exact aw_lret d_W_fraction_36 (Nat.le_refl 0) (Nat.le_refl 0) ⟨by unfold fracN; rw [if_pos h], rfl⟩

set_option maxHeartbeats 4000000 in
set_option maxRecDepth 100000 in
theorem m_M_lowest {g : aw_G} (hg : aw_T g) {ws : va_W} {ad : Nat → Nat} {a b p : Nat} (ha : a < 2 ^ 62) (hb : b < 2 ^ 62) (h0 : 0 < b) (hp : p < 2) : AMet g y_M_lowest c_M_lowest 7 (some .long) 1 [.long (lI (a : Int)), .long (lI (b : Int)), .int (nI p)] ws (aw_R (.long (lI (fracN a b p : Int))) ws) 0 0 := by
  have g0 : 0 < Nat.gcd a b := Nat.gcd_pos_of_pos_right a h0
  have g1 : Nat.gcd a b ≤ b := Nat.le_of_dvd h0 (Nat.gcd_dvd_right a b)
  refine amet_of (by decide +kernel) (Nat.le_of_ble_eq_true rfl) ?_
  refine aw_sub (lv' := [(0, .long (lI (a : Int))), (2, .long (lI (b : Int))), (4, .int (nI p))]) [0, 1, 2] rfl ?_
  refine aw_lload_n d_M_lowest_0 rfl rfl ?_
  refine aw_lload_n d_M_lowest_1 rfl rfl ?_
  refine aw_callS (av := [.long (lI (a : Int)), .long (lI (b : Int))]) (rest := []) (m_M_common (ad := ad) hg ha hb) kd_M_common k_488 k_489  d_M_lowest_2 rfl ⟨by decide, by decide⟩ (Nat.le_of_ble_eq_true rfl) ⟨by decide, by decide⟩ rfl (fun v ws2 hq => ?_)
  obtain ⟨rfl, rfl⟩ := hq
  refine aw_lstore (lv' := [(5, .long (lI (Nat.gcd a b : Int))), (0, .long (lI (a : Int))), (2, .long (lI (b : Int))), (4, .int (nI p))]) d_M_lowest_5 (by decide) rfl ?_
  refine aw_iload d_M_lowest_7 rfl ?_
  refine aw_if_neN (tgt := 19) d_M_lowest_9 (by decide) (by omega) (fun h => ?_) (fun h => ?_)
  · refine aw_lload_n d_M_lowest_19 rfl rfl ?_
    refine aw_lload d_M_lowest_20 rfl ?_
    refine aw_ldivI (a := b) (b := (Nat.gcd a b)) d_M_lowest_22 (by omega) (by omega) (by omega) ?_
    exact aw_lret d_M_lowest_23 (Nat.le_refl 0) (Nat.le_refl 0) ⟨by unfold fracN; rw [if_neg h], rfl⟩
  · refine aw_lload_n d_M_lowest_12 rfl rfl ?_
    refine aw_lload d_M_lowest_13 rfl ?_
    refine aw_ldivI (a := a) (b := (Nat.gcd a b)) d_M_lowest_15 (by omega) (by omega) (by omega) ?_
    refine aw_goto (tgt := 23) d_M_lowest_16 (by decide) ?_
    exact aw_lret d_M_lowest_23 (Nat.le_refl 0) (Nat.le_refl 0) ⟨by unfold fracN; rw [if_pos h], rfl⟩
end
section
-- laid by wip/whole/m3.py
def q_addNode (g : aw_G) (ad : Nat → Nat) (ws : va_W) (n x y : Nat) (W : Nat → Nat → Nat) (J : Nat → Nat) : Option Value → va_W → Prop := fun v ws' => v = some (.int (nI n)) ∧ fr 1 9 ws ws' ∧ ∃ W' : Nat → Nat → Nat, gG g ws' ad (n + 1) x y W' (fup J n 1) ∧ ∀ i j, W' i j = if (i = n ∧ j ≤ n) ∨ (j = n ∧ i ≤ n) then 0 else W i j

set_option maxHeartbeats 4000000 in
set_option maxRecDepth 100000 in
theorem m_G_addNode {g : aw_G} (hg : aw_T g) {ws : va_W} {ad : Nat → Nat} {n x y : Nat} {W : Nat → Nat → Nat} {J : Nat → Nat} (hG : gG g ws ad n x y W J) (hn : n < 5) : AMet g y_G_addNode c_G_addNode 3 (some .int) 0 [.ref (ad 1)] ws (q_addNode g ad ws n x y W J) 0 0 := by
  refine amet_of (by decide +kernel) (Nat.le_of_ble_eq_true rfl) ?_
  refine aw_sub (lv' := [(0, .ref (ad 1))]) [0] rfl ?_
  refine aw_aload_n d_G_addNode_0 rfl rfl ?_
  refine aw_get kc_1 0 (by decide) k_24 d_G_addNode_1 hG.1 rfl ?_
  refine aw_istore_n (lv' := [(1, .int (nI n)), (0, .ref (ad 1))]) d_G_addNode_4 rfl (by decide) rfl ?_
  refine aw_iconst (v := nI 0) d_G_addNode_5 (by decide) ?_
  refine aw_istore_n (lv' := [(2, .int (nI 0)), (1, .int (nI n)), (0, .ref (ad 1))]) d_G_addNode_6 rfl (by decide) rfl ?_
  have lp : ∀ (k : Nat) (ws1 : va_W) (W1 : Nat → Nat → Nat) (v : Nat), gG g ws1 ad n x y W1 J → fr 1 9 ws ws1 → v ≤ n + 1 → (∀ i j, W1 i j = if (i = n ∧ j < v) ∨ (j = n ∧ i < v) then 0 else W i j) → n + 1 - v < k → AW g y_G_addNode c_G_addNode 3 (some .int) (aw_rm 0 0 0) aw_E0 (aw_F g (q_addNode g ad ws n x y W J) 0 0) 0 0 7 [(0, .ref (ad 1)), (1, .int (nI n)), (2, .int (nI v))] [] ws1 := by
    intro k
    induction k with
    | zero => intro ws1 W1 v hG1 hf hv hW hk; omega
    | succ k ih =>
      intro ws1 W1 v hG1 hf hv hW hk
      refine aw_iload_n d_G_addNode_7 rfl rfl ?_
      refine aw_iload_n d_G_addNode_8 rfl rfl ?_
      refine aw_icmp_gtN (tgt := 36) d_G_addNode_9 (by decide) (by omega) (by omega) (fun h => ?_) (fun h => ?_)
      · have e : v = n + 1 := by omega
        subst e
        refine aw_aload_n d_G_addNode_36 rfl rfl ?_
        refine aw_get kc_1 4 (by decide) k_38 d_G_addNode_37 hG1.1 rfl ?_
        refine aw_iload_n d_G_addNode_40 rfl rfl ?_
        refine aw_iconst (v := nI 1) d_G_addNode_41 (by decide) ?_
        refine aw_iastA d_G_addNode_42 hG1.2.2.2 hg (by omega) (by decide) (fun ws1 a2 b3 c4 => ?_)
        have hG2 := hG1.putJ a2 b3
        have hf2 := hf.tr (fr.one (lo := 1) (hi := 9) b3 c4 (by omega) (by omega))
        refine aw_aload_n d_G_addNode_43 rfl rfl ?_
        refine aw_dup d_G_addNode_44 rfl ?_
        refine aw_get kc_1 0 (by decide) k_24 d_G_addNode_45 ((b3 1 (by omega)).trans hG1.1) rfl ?_
        refine aw_iconst (v := nI 1) d_G_addNode_48 (by decide) ?_
        refine aw_iaddN d_G_addNode_49 ?_
        refine aw_putN kc_1 0 (by decide) k_24 d_G_addNode_50 ((b3 1 (by omega)).trans hG1.1) rfl rfl rfl (Nat.le_of_ble_eq_true rfl) (fun ws5 a6 b7 c8 => ?_)
        have f9 : ws5[1]? = some (ad 1, .inr (1, [.int (nI (n + 1)), .int (nI x), .int (nI y), .ref (ad 2), .ref (ad 8)])) := a6
        have hG3 := hG2.putO (n' := n + 1) (x' := x) (y' := y) a6 b7
        have hf3 := hf2.tr (fr.one (lo := 1) (hi := 9) b7 c8 (by omega) (by omega))
        refine aw_iload_n d_G_addNode_53 rfl rfl ?_
        exact aw_iret d_G_addNode_54 (Nat.le_refl 0) (Nat.le_refl 0) ⟨rfl, hf3, W1, hG3, fun i j => by rw [hW i j]; congr 1; exact propext (by omega)⟩
      · refine aw_aload_n d_G_addNode_12 rfl rfl ?_
        refine aw_get kc_1 3 (by decide) k_34 d_G_addNode_13 hG1.1 rfl ?_
        refine aw_iload_n d_G_addNode_16 rfl rfl ?_
        refine aw_aaldI d_G_addNode_17 hG1.2.1 hg (by omega) ?_
        refine aw_iload_n d_G_addNode_18 rfl rfl ?_
        refine aw_iconst (v := nI 0) d_G_addNode_19 (by decide) ?_
        refine aw_iastA d_G_addNode_20 (hG1.2.2.1 n (by omega)) hg (by omega) (by decide) (fun ws10 a11 b12 c13 => ?_)
        have F14 := fam_putI (lo := 3) hG1.2.2.1 a11 b12
        have hG2 := hG1.putW (by omega) a11 b12
        have hf2 := hf.tr (fr.one (lo := 1) (hi := 9) b12 c13 (by omega) (by omega))
        refine aw_aload_n d_G_addNode_21 rfl rfl ?_
        refine aw_get kc_1 3 (by decide) k_34 d_G_addNode_22 ((b12 1 (by omega)).trans hG1.1) rfl ?_
        refine aw_iload_n d_G_addNode_25 rfl rfl ?_
        refine aw_aaldI d_G_addNode_26 ((b12 2 (by omega)).trans hG1.2.1) hg (by omega) ?_
        refine aw_iload_n d_G_addNode_27 rfl rfl ?_
        refine aw_iconst (v := nI 0) d_G_addNode_28 (by decide) ?_
        refine aw_iastA d_G_addNode_29 (F14 v (by omega)) hg (by omega) (by decide) (fun ws15 a16 b17 c18 => ?_)
        have F19 := fam_putI (lo := 3) F14 a16 b17
        have hG3 := hG2.putW (by omega) a16 b17
        have hf3 := hf2.tr (fr.one (lo := 1) (hi := 9) b17 c18 (by omega) (by omega))
        refine aw_iinc1 (lv' := [(2, .int (nI (v + 1))), (0, .ref (ad 1)), (1, .int (nI n))]) d_G_addNode_30 rfl (by decide) rfl ?_
        refine aw_goto (tgt := 7) d_G_addNode_33 (by decide) ?_
        refine aw_sub (lv' := [(0, .ref (ad 1)), (1, .int (nI n)), (2, .int (nI (v + 1)))]) [1, 2, 0] rfl ?_
        exact ih _ _ (v + 1) hG3 hf3 (by omega) (fun i j => by unfold fup2; rw [hW i j]; (repeat' split) <;> first | rfl | omega) (by omega)
  refine aw_sub (lv' := [(0, .ref (ad 1)), (1, .int (nI n)), (2, .int (nI 0))]) [2, 1, 0] rfl ?_
  exact lp (n + 2) ws W 0 hG fr.rf (by omega) (fun i j => by rw [if_neg (by omega)]) (by omega)

def q_row (g : aw_G) (ad : Nat → Nat) (ws : va_W) (n : Nat) (P : Nat → Nat → Nat) (T X : Nat → Nat) (u : Nat) (f : Nat → Nat) : Option Value → va_W → Prop := fun v ws' => v = none ∧ fr 9 18 ws ws' ∧ ∃ P' : Nat → Nat → Nat, gS g ws' ad n P' T X ∧ (∀ v, v < n → P' u v = f v) ∧ ∀ i, i ≠ u → ∀ j, P' i j = P i j
theorem raw_1 {n x y : Nat} {W : Nat → Nat → Nat} {J : Nat → Nat} {u v bw bj : Nat} (h : (0 < sN (W u) n ∧ 0 < sN J n ∧ bw = x * sN J n ∧ bj = (y - x) * sN (W u) n) ∨ (0 < sN (W u) n ∧ sN J n = 0 ∧ bw = 1 ∧ bj = 0) ∨ (sN (W u) n = 0 ∧ bw = 0 ∧ bj = 1)) (hz : ¬ (sN (W u) n = 0 ∧ sN J n = 0)) : bw * W u v + bj * J v = raw n x y W J u v := by
  unfold raw
  rcases h with ⟨h1, h2, rfl, rfl⟩ | ⟨h1, h2, rfl, rfl⟩ | ⟨h1, rfl, rfl⟩
  · rw [if_pos h1, if_pos h2]
  · rw [if_pos h1, if_neg (by omega)]; omega
  · rw [if_neg (by omega), if_pos (by omega)]; omega
theorem raw_0 {n x y : Nat} {W : Nat → Nat → Nat} {J : Nat → Nat} {u v : Nat} (hz : sN (W u) n = 0 ∧ sN J n = 0) : raw n x y W J u v = if u = v then 1 else 0 := by
  unfold raw
  rw [if_neg (by omega), if_neg (by omega)]

set_option maxHeartbeats 4000000 in
set_option maxRecDepth 100000 in
theorem m_S_fillParts {g : aw_G} (hg : aw_T g) {ws : va_W} {ad : Nat → Nat} {n x y u : Nat} {W P : Nat → Nat → Nat} {J T X : Nat → Nat} (hG : gG g ws ad n x y W J) (hS : gS g ws ad n P T X) (hok : okG n x y W J) (hu : u < n) : AMet g y_S_fillParts c_S_fillParts 8 none 1 [.ref (ad 9), .ref (ad 1), .int (nI u), .int (nI (sN J n))] ws (q_row g ad ws n P T X u (raw n x y W J u)) 0 0 := by
  have hn := hok.1
  have hxy := hok.2.1
  have ho := sN_le (f := W u) (b := 2) (n := n) (fun i hi => hok.2.2.2.2.1 u i (by omega) (by omega))
  have ha := sN_le (f := J) (b := 2) (n := n) (fun i hi => hok.2.2.2.2.2 i (by omega))
  refine amet_of (by decide +kernel) (Nat.le_of_ble_eq_true rfl) ?_
  refine aw_sub (lv' := [(0, .ref (ad 9)), (1, .ref (ad 1)), (2, .int (nI u)), (3, .int (nI (sN J n)))]) [0, 1, 2, 3] rfl ?_
  have lp : ∀ (k : Nat) (ws1 : va_W) (P1 : Nat → Nat → Nat) (bw bj v : Nat), gG g ws1 ad n x y W J → gS g ws1 ad n P1 T X → fr 9 18 ws ws1 → v ≤ n → ((0 < sN (W u) n ∧ 0 < sN J n ∧ bw = x * sN J n ∧ bj = (y - x) * sN (W u) n) ∨ (0 < sN (W u) n ∧ sN J n = 0 ∧ bw = 1 ∧ bj = 0) ∨ (sN (W u) n = 0 ∧ bw = 0 ∧ bj = 1)) → (∀ i, i < v → P1 u i = bw * W u i + bj * J i) → (∀ i, i ≠ u → ∀ j, P1 i j = P i j) → n - v < k → AW g y_S_fillParts c_S_fillParts 8 none (aw_rm 1 0 0) aw_E0 (aw_F g (q_row g ad ws n P T X u (raw n x y W J u)) 0 0) 0 0 65 [(0, .ref (ad 9)), (1, .ref (ad 1)), (2, .int (nI u)), (3, .int (nI (sN J n))), (4, .int (nI (sN (W u) n))), (5, .int (nI bw)), (6, .int (nI bj)), (7, .int (nI v))] [] ws1 := by
    intro k
    induction k with
    | zero => intro ws1 P1 bw bj v hG1 hS1 hf hv hb hr ht hk; omega
    | succ k ih =>
      intro ws1 P1 bw bj v hG1 hS1 hf hv hb hr ht hk
      refine aw_iload d_S_fillParts_65 rfl ?_
      refine aw_aload_n d_S_fillParts_67 rfl rfl ?_
      refine aw_get kc_2 0 (by decide) k_60 d_S_fillParts_68 hS1.1 rfl ?_
      refine aw_icmp_geN (tgt := 112) d_S_fillParts_71 (by decide) (by omega) (by omega) (fun h => ?_) (fun h => ?_)
      · have e : v = n := by omega
        subst e
        refine aw_iload d_S_fillParts_112 rfl ?_
        refine aw_if_neN (tgt := 130) d_S_fillParts_114 (by decide) (by omega) (fun h2 => ?_) (fun h2 => ?_)
        · exact aw_vret d_S_fillParts_130 (Nat.le_refl 0) (Nat.le_refl 0) ⟨rfl, hf, P1, hS1, fun i hi => (hr i hi).trans (raw_1 hb (by omega)), ht⟩
        · refine aw_iload_n d_S_fillParts_117 rfl rfl ?_
          refine aw_if_neN (tgt := 130) d_S_fillParts_118 (by decide) (by omega) (fun h3 => ?_) (fun h3 => ?_)
          · exact aw_vret d_S_fillParts_130 (Nat.le_refl 0) (Nat.le_refl 0) ⟨rfl, hf, P1, hS1, fun i hi => (hr i hi).trans (raw_1 hb (by omega)), ht⟩
          · refine aw_aload_n d_S_fillParts_121 rfl rfl ?_
            refine aw_get kc_2 1 (by decide) k_64 d_S_fillParts_122 hS1.1 rfl ?_
            refine aw_iload_n d_S_fillParts_125 rfl rfl ?_
            refine aw_aaldI d_S_fillParts_126 hS1.2.1 hg (by omega) ?_
            refine aw_iload_n d_S_fillParts_127 rfl rfl ?_
            refine aw_iconst (v := nI 1) d_S_fillParts_128 (by decide) ?_
            refine aw_iastA d_S_fillParts_129 (hS1.2.2.1 u (by omega)) hg (by omega) (by decide) (fun ws1 a2 b3 c4 => ?_)
            have F5 := fam_putI (lo := 11) hS1.2.2.1 a2 b3
            have hS2 := hS1.putP (by omega) a2 b3
            have hf2 := hf.tr (fr.one (lo := 9) (hi := 18) b3 c4 (by omega) (by omega))
            have hz := sN_zero h3
            exact aw_vret d_S_fillParts_130 (Nat.le_refl 0) (Nat.le_refl 0) ⟨rfl, hf2, _, hS2, fun i hi => by
            rw [raw_0 ⟨h2, h3⟩]
            unfold fup2
            by_cases e : i = u
            · rw [if_pos ⟨rfl, e⟩, if_pos e.symm]
            · rw [if_neg (fun q => e q.2), if_neg (fun q => e q.symm), hr i hi, hz i hi]
              rcases hb with hb | hb | hb
              · omega
              · omega
              · rw [hb.2.1, hb.2.2]; omega, fun i hi j => by rw [fup2_ne _ _ hi]; exact ht i hi j⟩
      · refine aw_aload_n d_S_fillParts_74 rfl rfl ?_
        refine aw_get kc_2 1 (by decide) k_64 d_S_fillParts_75 hS1.1 rfl ?_
        refine aw_iload_n d_S_fillParts_78 rfl rfl ?_
        refine aw_aaldI d_S_fillParts_79 hS1.2.1 hg (by omega) ?_
        refine aw_iload d_S_fillParts_80 rfl ?_
        refine aw_iload d_S_fillParts_82 rfl ?_
        refine aw_aload_n d_S_fillParts_84 rfl rfl ?_
        refine aw_get kc_1 3 (by decide) k_37 d_S_fillParts_85 hG1.1 rfl ?_
        refine aw_iload_n d_S_fillParts_88 rfl rfl ?_
        refine aw_aaldI d_S_fillParts_89 hG1.2.1 hg (by omega) ?_
        refine aw_iload d_S_fillParts_90 rfl ?_
        refine aw_ialdA d_S_fillParts_92 (hG1.2.2.1 u (by omega)) hg (by omega) (by decide) ?_
        refine aw_imulN d_S_fillParts_93 ?_
        refine aw_iload d_S_fillParts_94 rfl ?_
        refine aw_aload_n d_S_fillParts_96 rfl rfl ?_
        refine aw_get kc_1 4 (by decide) k_39 d_S_fillParts_97 hG1.1 rfl ?_
        refine aw_iload d_S_fillParts_100 rfl ?_
        refine aw_ialdA d_S_fillParts_102 hG1.2.2.2 hg (by omega) (by decide) ?_
        refine aw_imulN d_S_fillParts_103 ?_
        refine aw_iaddN d_S_fillParts_104 ?_
        refine aw_iastA d_S_fillParts_105 (hS1.2.2.1 u (by omega)) hg (by omega) (by decide) (fun ws6 a7 b8 c9 => ?_)
        have F10 := fam_putI (lo := 11) hS1.2.2.1 a7 b8
        have hS2 := hS1.putP (by omega) a7 b8
        have f2 := fr.one (lo := 9) (hi := 18) b8 c9 (by omega) (by omega)
        have hG2 := hG1.kept f2 (by omega)
        refine aw_iinc1 (lv' := [(7, .int (nI (v + 1))), (0, .ref (ad 9)), (1, .ref (ad 1)), (2, .int (nI u)), (3, .int (nI (sN J n))), (4, .int (nI (sN (W u) n))), (5, .int (nI bw)), (6, .int (nI bj))]) d_S_fillParts_106 rfl (by decide) rfl ?_
        refine aw_goto (tgt := 65) d_S_fillParts_109 (by decide) ?_
        refine aw_sub (lv' := [(0, .ref (ad 9)), (1, .ref (ad 1)), (2, .int (nI u)), (3, .int (nI (sN J n))), (4, .int (nI (sN (W u) n))), (5, .int (nI bw)), (6, .int (nI bj)), (7, .int (nI (v + 1)))]) [1, 2, 3, 4, 5, 6, 7, 0] rfl ?_
        exact ih _ _ bw bj (v + 1) hG2 hS2 (hf.tr f2) (by omega) hb (fun i hi => by
          unfold fup2
          by_cases e : i = v
          · rw [if_pos ⟨rfl, e⟩, e]
          · rw [if_neg (fun q => e q.2)]; exact hr i (by omega)) (fun i hi j => by rw [fup2_ne _ _ hi]; exact ht i hi j) (by omega)
  refine aw_aload_n d_S_fillParts_0 rfl rfl ?_
  refine aw_iload_n d_S_fillParts_1 rfl rfl ?_
  refine aw_callV (av := [.int (nI u)]) (rest := []) (m_G_outOf hg hG hn (by omega)) kd_G_outOf k_190 k_191 ks_G_outOf rfl hG.1 d_S_fillParts_2 rfl ⟨by decide, by decide⟩ (Nat.le_of_ble_eq_true rfl) ⟨by decide, by decide⟩ rfl (fun v ws2 hq => ?_)
  obtain ⟨rfl, rfl⟩ := hq
  refine aw_istore (lv' := [(4, .int (nI (sN (W u) n))), (0, .ref (ad 9)), (1, .ref (ad 1)), (2, .int (nI u)), (3, .int (nI (sN J n)))]) d_S_fillParts_5 (by decide) rfl ?_
  refine aw_iload d_S_fillParts_7 rfl ?_
  refine aw_if_leN (tgt := 16) d_S_fillParts_9 (by decide) (by omega) (fun h => ?_) (fun h => ?_)
  · refine aw_iconst (v := nI 0) d_S_fillParts_16 (by decide) ?_
    refine aw_istore (lv' := [(5, .int (nI 0)), (4, .int (nI (sN (W u) n))), (0, .ref (ad 9)), (1, .ref (ad 1)), (2, .int (nI u)), (3, .int (nI (sN J n)))]) d_S_fillParts_17 (by decide) rfl ?_
    refine aw_iload d_S_fillParts_19 rfl ?_
    refine aw_if_leN (tgt := 28) d_S_fillParts_21 (by decide) (by omega) (fun h2 => ?_) (fun h2 => absurd h2 (by omega))
    refine aw_iconst (v := nI 1) d_S_fillParts_28 (by decide) ?_
    refine aw_istore (lv' := [(6, .int (nI 1)), (5, .int (nI 0)), (4, .int (nI (sN (W u) n))), (0, .ref (ad 9)), (1, .ref (ad 1)), (2, .int (nI u)), (3, .int (nI (sN J n)))]) d_S_fillParts_29 (by decide) rfl ?_
    refine aw_iload d_S_fillParts_31 rfl ?_
    refine aw_if_leN (tgt := 62) d_S_fillParts_33 (by decide) (by omega) (fun h2 => ?_) (fun h2 => absurd h2 (by omega))
    refine aw_iconst (v := nI 0) d_S_fillParts_62 (by decide) ?_
    refine aw_istore (lv' := [(7, .int (nI 0)), (6, .int (nI 1)), (5, .int (nI 0)), (4, .int (nI (sN (W u) n))), (0, .ref (ad 9)), (1, .ref (ad 1)), (2, .int (nI u)), (3, .int (nI (sN J n)))]) d_S_fillParts_63 (by decide) rfl ?_
    refine aw_sub (lv' := [(0, .ref (ad 9)), (1, .ref (ad 1)), (2, .int (nI u)), (3, .int (nI (sN J n))), (4, .int (nI (sN (W u) n))), (5, .int (nI 0)), (6, .int (nI 1)), (7, .int (nI 0))]) [4, 5, 6, 7, 3, 2, 1, 0] rfl ?_
    exact lp (n + 1) ws P 0 1 0 hG hS fr.rf (by omega) (Or.inr (Or.inr ⟨h, rfl, rfl⟩)) (fun i hi => absurd hi (by omega)) (fun _ _ _ => rfl) (by omega)
  · refine aw_iconst (v := nI 1) d_S_fillParts_12 (by decide) ?_
    refine aw_goto (tgt := 17) d_S_fillParts_13 (by decide) ?_
    refine aw_istore (lv' := [(5, .int (nI 1)), (4, .int (nI (sN (W u) n))), (0, .ref (ad 9)), (1, .ref (ad 1)), (2, .int (nI u)), (3, .int (nI (sN J n)))]) d_S_fillParts_17 (by decide) rfl ?_
    refine aw_iload d_S_fillParts_19 rfl ?_
    refine aw_if_leN (tgt := 28) d_S_fillParts_21 (by decide) (by omega) (fun h2 => absurd h2 (by omega)) (fun h2 => ?_)
    refine aw_iconst (v := nI 0) d_S_fillParts_24 (by decide) ?_
    refine aw_goto (tgt := 29) d_S_fillParts_25 (by decide) ?_
    refine aw_istore (lv' := [(6, .int (nI 0)), (5, .int (nI 1)), (4, .int (nI (sN (W u) n))), (0, .ref (ad 9)), (1, .ref (ad 1)), (2, .int (nI u)), (3, .int (nI (sN J n)))]) d_S_fillParts_29 (by decide) rfl ?_
    refine aw_iload d_S_fillParts_31 rfl ?_
    refine aw_if_leN (tgt := 62) d_S_fillParts_33 (by decide) (by omega) (fun h2 => absurd h2 (by omega)) (fun h2 => ?_)
    refine aw_iload_n d_S_fillParts_36 rfl rfl ?_
    refine aw_if_leN (tgt := 62) d_S_fillParts_37 (by decide) (by omega) (fun h2 => ?_) (fun h2 => ?_)
    · refine aw_iconst (v := nI 0) d_S_fillParts_62 (by decide) ?_
      refine aw_istore (lv' := [(7, .int (nI 0)), (6, .int (nI 0)), (5, .int (nI 1)), (4, .int (nI (sN (W u) n))), (0, .ref (ad 9)), (1, .ref (ad 1)), (2, .int (nI u)), (3, .int (nI (sN J n)))]) d_S_fillParts_63 (by decide) rfl ?_
      refine aw_sub (lv' := [(0, .ref (ad 9)), (1, .ref (ad 1)), (2, .int (nI u)), (3, .int (nI (sN J n))), (4, .int (nI (sN (W u) n))), (5, .int (nI 1)), (6, .int (nI 0)), (7, .int (nI 0))]) [4, 5, 6, 7, 3, 2, 1, 0] rfl ?_
      exact lp (n + 1) ws P 1 0 0 hG hS fr.rf (by omega) (Or.inr (Or.inl ⟨h, h2, rfl, rfl⟩)) (fun i hi => absurd hi (by omega)) (fun _ _ _ => rfl) (by omega)
    · refine aw_aload_n d_S_fillParts_40 rfl rfl ?_
      refine aw_get kc_1 1 (by decide) k_29 d_S_fillParts_41 hG.1 rfl ?_
      refine aw_iload_n d_S_fillParts_44 rfl rfl ?_
      refine aw_imulN d_S_fillParts_45 ?_
      refine aw_istore (lv' := [(5, .int (nI (x * (sN J n)))), (6, .int (nI 0)), (4, .int (nI (sN (W u) n))), (0, .ref (ad 9)), (1, .ref (ad 1)), (2, .int (nI u)), (3, .int (nI (sN J n)))]) d_S_fillParts_46 (by decide) rfl ?_
      refine aw_aload_n d_S_fillParts_48 rfl rfl ?_
      refine aw_get kc_1 2 (by decide) k_32 d_S_fillParts_49 hG.1 rfl ?_
      refine aw_aload_n d_S_fillParts_52 rfl rfl ?_
      refine aw_get kc_1 1 (by decide) k_29 d_S_fillParts_53 hG.1 rfl ?_
      refine aw_isubN d_S_fillParts_56 (by omega) ?_
      refine aw_iload d_S_fillParts_57 rfl ?_
      refine aw_imulN d_S_fillParts_59 ?_
      refine aw_istore (lv' := [(6, .int (nI ((y - x) * (sN (W u) n)))), (5, .int (nI (x * (sN J n)))), (4, .int (nI (sN (W u) n))), (0, .ref (ad 9)), (1, .ref (ad 1)), (2, .int (nI u)), (3, .int (nI (sN J n)))]) d_S_fillParts_60 (by decide) rfl ?_
      refine aw_iconst (v := nI 0) d_S_fillParts_62 (by decide) ?_
      refine aw_istore (lv' := [(7, .int (nI 0)), (6, .int (nI ((y - x) * (sN (W u) n)))), (5, .int (nI (x * (sN J n)))), (4, .int (nI (sN (W u) n))), (0, .ref (ad 9)), (1, .ref (ad 1)), (2, .int (nI u)), (3, .int (nI (sN J n)))]) d_S_fillParts_63 (by decide) rfl ?_
      refine aw_sub (lv' := [(0, .ref (ad 9)), (1, .ref (ad 1)), (2, .int (nI u)), (3, .int (nI (sN J n))), (4, .int (nI (sN (W u) n))), (5, .int (nI (x * sN J n))), (6, .int (nI ((y - x) * (sN (W u) n)))), (7, .int (nI 0))]) [4, 5, 6, 7, 3, 2, 1, 0] rfl ?_
      exact lp (n + 1) ws P (x * sN J n) ((y - x) * (sN (W u) n)) 0 hG hS fr.rf (by omega) (Or.inl ⟨h, h2, rfl, rfl⟩) (fun i hi => absurd hi (by omega)) (fun _ _ _ => rfl) (by omega)
end
section
-- laid by wip/whole/m4.py
set_option maxHeartbeats 4000000 in
set_option maxRecDepth 100000 in
theorem m_S_lowerParts {g : aw_G} (hg : aw_T g) {ws : va_W} {ad : Nat → Nat} {n u : Nat} {P : Nat → Nat → Nat} {T X : Nat → Nat} (hS : gS g ws ad n P T X) (hn : n ≤ 5) (hu : u < n) (hs : 0 < sN (P u) n ∧ sN (P u) n ≤ 400) : AMet g y_S_lowerParts c_S_lowerParts 4 none 1 [.ref (ad 9), .int (nI u)] ws (q_row g ad ws n P T X u (fun v => P u v / gcdN (P u) n)) 0 0 := by
  have g0 := gcdN_pos hs.1
  have g1 := gcdN_le hs.1
  have hi400 : ∀ i, i < n → P u i ≤ 400 := fun i hi => Nat.le_trans (sN_mem hi) hs.2
  have hg400 : ∀ i, i ≤ n → gcdN (P u) i ≤ 400 := fun i hi => Nat.le_trans (gcdN_le' _ i) (Nat.le_trans (sN_mono _ hi) hs.2)
  refine amet_of (by decide +kernel) (Nat.le_of_ble_eq_true rfl) ?_
  refine aw_sub (lv' := [(0, .ref (ad 9)), (1, .int (nI u))]) [0, 1] rfl ?_
  have lq : ∀ (k : Nat) (ws1 : va_W) (P1 : Nat → Nat → Nat) (v : Nat), gS g ws1 ad n P1 T X → fr 9 18 ws ws1 → v ≤ n → (∀ i, i < v → P1 u i = P u i / gcdN (P u) n) → (∀ i, v ≤ i → P1 u i = P u i) → (∀ i, i ≠ u → ∀ j, P1 i j = P i j) → n - v < k → AW g y_S_lowerParts c_S_lowerParts 4 none (aw_rm 1 0 0) aw_E0 (aw_F g (q_row g ad ws n P T X u (fun v => P u v / gcdN (P u) n)) 0 0) 0 0 41 [(0, .ref (ad 9)), (1, .int (nI u)), (2, .int (nI (gcdN (P u) n))), (3, .int (nI v))] [] ws1 := by
    intro k
    induction k with
    | zero => intro ws1 P1 v hS1 hf hv hr hr2 ht hk; omega
    | succ k ih =>
      intro ws1 P1 v hS1 hf hv hr hr2 ht hk
      refine aw_iload_n d_S_lowerParts_41 rfl rfl ?_
      refine aw_aload_n d_S_lowerParts_42 rfl rfl ?_
      refine aw_get kc_2 0 (by decide) k_60 d_S_lowerParts_43 hS1.1 rfl ?_
      refine aw_icmp_geN (tgt := 67) d_S_lowerParts_46 (by decide) (by omega) (by omega) (fun h => ?_) (fun h => ?_)
      · have e : v = n := by omega
        subst e
        exact aw_vret d_S_lowerParts_67 (Nat.le_refl 0) (Nat.le_refl 0) ⟨rfl, hf, P1, hS1, hr, ht⟩
      · have ev := hr2 v (Nat.le_refl v)
        have ev4 := hi400 v (by omega)
        refine aw_aload_n d_S_lowerParts_49 rfl rfl ?_
        refine aw_get kc_2 1 (by decide) k_64 d_S_lowerParts_50 hS1.1 rfl ?_
        refine aw_iload_n d_S_lowerParts_53 rfl rfl ?_
        refine aw_aaldI d_S_lowerParts_54 hS1.2.1 hg (by omega) ?_
        refine aw_iload_n d_S_lowerParts_55 rfl rfl ?_
        refine aw_dup2_11 d_S_lowerParts_56 rfl rfl ?_
        refine aw_ialdA d_S_lowerParts_57 (hS1.2.2.1 u (by omega)) hg (by omega) (by decide) ?_
        refine aw_iload_n d_S_lowerParts_58 rfl rfl ?_
        refine aw_idivN d_S_lowerParts_59 (by omega) (by omega) (by omega) ?_
        refine aw_iastA d_S_lowerParts_60 (hS1.2.2.1 u (by omega)) hg (by omega) (by decide) (fun ws1 a2 b3 c4 => ?_)
        have F5 := fam_putI (lo := 11) hS1.2.2.1 a2 b3
        have hS2 := hS1.putP (by omega) a2 b3
        have f2 := fr.one (lo := 9) (hi := 18) b3 c4 (by omega) (by omega)
        refine aw_iinc1 (lv' := [(3, .int (nI (v + 1))), (0, .ref (ad 9)), (1, .int (nI u)), (2, .int (nI (gcdN (P u) n)))]) d_S_lowerParts_61 rfl (by decide) rfl ?_
        refine aw_goto (tgt := 41) d_S_lowerParts_64 (by decide) ?_
        refine aw_sub (lv' := [(0, .ref (ad 9)), (1, .int (nI u)), (2, .int (nI (gcdN (P u) n))), (3, .int (nI (v + 1)))]) [1, 2, 3, 0] rfl ?_
        exact ih _ _ (v + 1) hS2 (hf.tr f2) (by omega) (fun i hi => by
          unfold fup2
          by_cases e : i = v
          · rw [if_pos ⟨rfl, e⟩, e, ev]
          · rw [if_neg (fun q => e q.2)]; exact hr i (by omega)) (fun i hi => by
          unfold fup2
          rw [if_neg (fun q => by omega)]; exact hr2 i (by omega)) (fun i hi j => by rw [fup2_ne _ _ hi]; exact ht i hi j) (by omega)
  refine aw_iconst (v := nI 0) d_S_lowerParts_0 (by decide) ?_
  refine aw_istore_n (lv' := [(2, .int (nI 0)), (0, .ref (ad 9)), (1, .int (nI u))]) d_S_lowerParts_1 rfl (by decide) rfl ?_
  refine aw_iconst (v := nI 0) d_S_lowerParts_2 (by decide) ?_
  refine aw_istore_n (lv' := [(3, .int (nI 0)), (2, .int (nI 0)), (0, .ref (ad 9)), (1, .int (nI u))]) d_S_lowerParts_3 rfl (by decide) rfl ?_
  have lp : ∀ (k : Nat) (i : Nat), i ≤ n → n - i < k → AW g y_S_lowerParts c_S_lowerParts 4 none (aw_rm 1 0 0) aw_E0 (aw_F g (q_row g ad ws n P T X u (fun v => P u v / gcdN (P u) n)) 0 0) 0 0 4 [(0, .ref (ad 9)), (1, .int (nI u)), (2, .int (nI (gcdN (P u) i))), (3, .int (nI i))] [] ws := by
    intro k
    induction k with
    | zero => intro i hi hk; omega
    | succ k ih =>
      intro i hi hk
      refine aw_iload_n d_S_lowerParts_4 rfl rfl ?_
      refine aw_aload_n d_S_lowerParts_5 rfl rfl ?_
      refine aw_get kc_2 0 (by decide) k_60 d_S_lowerParts_6 hS.1 rfl ?_
      refine aw_icmp_geN (tgt := 34) d_S_lowerParts_9 (by decide) (by omega) (by omega) (fun h => ?_) (fun h => ?_)
      · have e : i = n := by omega
        subst e
        refine aw_iload_n d_S_lowerParts_34 rfl rfl ?_
        refine aw_if_neN (tgt := 39) d_S_lowerParts_35 (by decide) (Nat.lt_of_le_of_lt (hg400 i hi) (by decide)) (fun h2 => ?_) (fun h2 => absurd h2 (by omega))
        refine aw_iconst (v := nI 0) d_S_lowerParts_39 (by decide) ?_
        refine aw_istore_n (lv' := [(3, .int (nI 0)), (0, .ref (ad 9)), (1, .int (nI u)), (2, .int (nI (gcdN (P u) i)))]) d_S_lowerParts_40 rfl (by decide) rfl ?_
        refine aw_sub (lv' := [(0, .ref (ad 9)), (1, .int (nI u)), (2, .int (nI (gcdN (P u) i))), (3, .int (nI 0))]) [1, 2, 3, 0] rfl ?_
        exact lq (i + 1) ws P 0 hS fr.rf (by omega) (fun j hj => absurd hj (by omega)) (fun _ _ => rfl) (fun _ _ _ => rfl) (by omega)
      · have b1 := hg400 i hi
        have b2 := hi400 i h
        refine aw_iload_n d_S_lowerParts_12 rfl rfl ?_
        refine aw_i2lN d_S_lowerParts_13 (by omega) ?_
        refine aw_aload_n d_S_lowerParts_14 rfl rfl ?_
        refine aw_get kc_2 1 (by decide) k_64 d_S_lowerParts_15 hS.1 rfl ?_
        refine aw_iload_n d_S_lowerParts_18 rfl rfl ?_
        refine aw_aaldI d_S_lowerParts_19 hS.2.1 hg (by omega) ?_
        refine aw_iload_n d_S_lowerParts_20 rfl rfl ?_
        refine aw_ialdA d_S_lowerParts_21 (hS.2.2.1 u (by omega)) hg (by omega) (by decide) ?_
        refine aw_i2lN d_S_lowerParts_22 (by omega) ?_
        refine aw_callSN (av := [.long (lI (gcdN (P u) i : Nat)), .long (lI (P u i : Nat))]) (rest := []) (m_W_greatestDivisor (ad := ad) hg (by omega) (by omega) (mul99 (by omega) (by omega))) kd_W_greatestDivisor k_198 k_199  d_S_lowerParts_23 rfl ⟨by decide, by decide⟩ (Nat.le_of_ble_eq_true rfl) ⟨by decide, by decide⟩ rfl (fun v ws2 hq => ?_)
        obtain ⟨rfl, rfl⟩ := hq
        refine aw_l2iN (a := (Nat.gcd (gcdN (P u) i) (P u i))) d_S_lowerParts_26 ?_
        refine aw_istore_n (lv' := [(2, .int (nI (Nat.gcd (gcdN (P u) i) (P u i)))), (0, .ref (ad 9)), (1, .int (nI u)), (3, .int (nI i))]) d_S_lowerParts_27 rfl (by decide) rfl ?_
        refine aw_iinc1 (lv' := [(3, .int (nI (i + 1))), (2, .int (nI (Nat.gcd (gcdN (P u) i) (P u i)))), (0, .ref (ad 9)), (1, .int (nI u))]) d_S_lowerParts_28 rfl (by decide) rfl ?_
        refine aw_goto (tgt := 4) d_S_lowerParts_31 (by decide) ?_
        refine aw_sub (lv' := [(0, .ref (ad 9)), (1, .int (nI u)), (2, .int (nI (gcdN (P u) (i + 1)))), (3, .int (nI (i + 1)))]) [2, 3, 1, 0] rfl ?_
        exact ih (i + 1) (by omega) (by omega)
  refine aw_sub (lv' := [(0, .ref (ad 9)), (1, .int (nI u)), (2, .int (nI (gcdN (P u) 0))), (3, .int (nI 0))]) [2, 3, 1, 0] rfl ?_
  exact lp (n + 1) 0 (by omega) (by omega)

def q_sum (g : aw_G) (ad : Nat → Nat) (ws : va_W) (n : Nat) (P : Nat → Nat → Nat) (T X : Nat → Nat) (u : Nat) : Option Value → va_W → Prop := fun v ws' => v = none ∧ fr 9 18 ws ws' ∧ ∃ T' X' : Nat → Nat, gS g ws' ad n P T' X' ∧ T' u = sN (P u) n ∧ X' u = mk (fun v => decide (0 < P u v)) n ∧ ∀ i, i ≠ u → T' i = T i ∧ X' i = X i

set_option maxHeartbeats 4000000 in
set_option maxRecDepth 100000 in
theorem m_S_sumUp {g : aw_G} (hg : aw_T g) {ws : va_W} {ad : Nat → Nat} {n u : Nat} {P : Nat → Nat → Nat} {T X : Nat → Nat} (hS : gS g ws ad n P T X) (hn : n ≤ 5) (hu : u < n) (hs : ∀ v, v < n → P u v ≤ 400) : AMet g y_S_sumUp c_S_sumUp 3 none 1 [.ref (ad 9), .int (nI u)] ws (q_sum g ad ws n P T X u) 0 0 := by
  refine amet_of (by decide +kernel) (Nat.le_of_ble_eq_true rfl) ?_
  refine aw_sub (lv' := [(0, .ref (ad 9)), (1, .int (nI u))]) [0, 1] rfl ?_
  have lp : ∀ (k : Nat) (ws1 : va_W) (T1 X1 : Nat → Nat) (v : Nat), gS g ws1 ad n P T1 X1 → fr 9 18 ws ws1 → v ≤ n → T1 u = sN (P u) v → X1 u = mk (fun v => decide (0 < P u v)) v → (∀ i, i ≠ u → T1 i = T i ∧ X1 i = X i) → n - v < k → AW g y_S_sumUp c_S_sumUp 3 none (aw_rm 1 0 0) aw_E0 (aw_F g (q_sum g ad ws n P T X u) 0 0) 0 0 16 [(0, .ref (ad 9)), (1, .int (nI u)), (2, .int (nI v))] [] ws1 := by
    intro k
    induction k with
    | zero => intro ws1 T1 X1 v hS1 hf hv hT hX ht hk; omega
    | succ k ih =>
      intro ws1 T1 X1 v hS1 hf hv hT hX ht hk
      refine aw_iload_n d_S_sumUp_16 rfl rfl ?_
      refine aw_aload_n d_S_sumUp_17 rfl rfl ?_
      refine aw_get kc_2 0 (by decide) k_60 d_S_sumUp_18 hS1.1 rfl ?_
      refine aw_icmp_geN (tgt := 71) d_S_sumUp_21 (by decide) (by omega) (by omega) (fun h => ?_) (fun h => ?_)
      · have e : v = n := by omega
        subst e
        exact aw_vret d_S_sumUp_71 (Nat.le_refl 0) (Nat.le_refl 0) ⟨rfl, hf, T1, X1, hS1, hT, hX, ht⟩
      · have b4 := hs v h
        refine aw_aload_n d_S_sumUp_24 rfl rfl ?_
        refine aw_get kc_2 2 (by decide) k_68 d_S_sumUp_25 hS1.1 rfl ?_
        refine aw_iload_n d_S_sumUp_28 rfl rfl ?_
        refine aw_dup2_11 d_S_sumUp_29 rfl rfl ?_
        refine aw_ialdA d_S_sumUp_30 hS1.2.2.2.1 hg (by omega) (by decide) ?_
        refine aw_aload_n d_S_sumUp_31 rfl rfl ?_
        refine aw_get kc_2 1 (by decide) k_64 d_S_sumUp_32 hS1.1 rfl ?_
        refine aw_iload_n d_S_sumUp_35 rfl rfl ?_
        refine aw_aaldI d_S_sumUp_36 hS1.2.1 hg (by omega) ?_
        refine aw_iload_n d_S_sumUp_37 rfl rfl ?_
        refine aw_ialdA d_S_sumUp_38 (hS1.2.2.1 u (by omega)) hg (by omega) (by decide) ?_
        refine aw_iaddN d_S_sumUp_39 ?_
        refine aw_iastA d_S_sumUp_40 hS1.2.2.2.1 hg (by omega) (by decide) (fun ws1 a2 b3 c4 => ?_)
        have hS2 := hS1.putT a2 b3
        have f2 := fr.one (lo := 9) (hi := 18) b3 c4 (by omega) (by omega)
        refine aw_aload_n d_S_sumUp_41 rfl rfl ?_
        refine aw_get kc_2 1 (by decide) k_64 d_S_sumUp_42 ((b3 9 (by omega)).trans hS1.1) rfl ?_
        refine aw_iload_n d_S_sumUp_45 rfl rfl ?_
        refine aw_aaldI d_S_sumUp_46 ((b3 10 (by omega)).trans hS1.2.1) hg (by omega) ?_
        refine aw_iload_n d_S_sumUp_47 rfl rfl ?_
        have F5 := fam_kept hS1.2.2.1 (fun i hi => b3 (11 + i) (by omega))
        refine aw_ialdA d_S_sumUp_48 (F5 u (by omega)) hg (by omega) (by decide) ?_
        refine aw_if_leN (tgt := 65) d_S_sumUp_49 (by decide) (by omega) (fun h2 => ?_) (fun h2 => ?_)
        · refine aw_iinc1 (lv' := [(2, .int (nI (v + 1))), (0, .ref (ad 9)), (1, .int (nI u))]) d_S_sumUp_65 rfl (by decide) rfl ?_
          refine aw_goto (tgt := 16) d_S_sumUp_68 (by decide) ?_
          refine aw_sub (lv' := [(0, .ref (ad 9)), (1, .int (nI u)), (2, .int (nI (v + 1)))]) [1, 2, 0] rfl ?_
          exact ih _ _ X1 (v + 1) hS2 (hf.tr f2) (by omega) (by rw [fup_s, hT]; rfl) (by rw [hX, mk, if_neg (by simp [h2])]) (fun i hi => ⟨by rw [fup_n hi]; exact (ht i hi).1, (ht i hi).2⟩) (by omega)
        · refine aw_aload_n d_S_sumUp_52 rfl rfl ?_
          refine aw_get kc_2 3 (by decide) k_72 d_S_sumUp_53 ((b3 9 (by omega)).trans hS1.1) rfl ?_
          refine aw_iload_n d_S_sumUp_56 rfl rfl ?_
          refine aw_dup2_11 d_S_sumUp_57 rfl rfl ?_
          refine aw_ialdA d_S_sumUp_58 ((b3 17 (by omega)).trans hS1.2.2.2.2) hg (by omega) (by decide) ?_
          refine aw_iload_n d_S_sumUp_59 rfl rfl ?_
          refine aw_callSN (av := [.int (nI v)]) (rest := [.int (nI (X1 u)), .int (nI u), .ref (ad 17)]) (m_W_only (ad := ad) hg (by omega)) kd_W_only k_205 k_206  d_S_sumUp_60 rfl ⟨by decide, by decide⟩ (Nat.le_of_ble_eq_true rfl) ⟨by decide, by decide⟩ rfl (fun v3 ws3 hq => ?_)
          obtain ⟨rfl, rfl⟩ := hq
          refine aw_iorN d_S_sumUp_63 ?_
          refine aw_iastA d_S_sumUp_64 ((b3 17 (by omega)).trans hS1.2.2.2.2) hg (by omega) (by decide) (fun ws6 a7 b8 c9 => ?_)
          have hS3 := hS2.putX a7 b8
          have f3 := fr.one (lo := 9) (hi := 18) b8 c9 (by omega) (by omega)
          refine aw_iinc1 (lv' := [(2, .int (nI (v + 1))), (0, .ref (ad 9)), (1, .int (nI u))]) d_S_sumUp_65 rfl (by decide) rfl ?_
          refine aw_goto (tgt := 16) d_S_sumUp_68 (by decide) ?_
          refine aw_sub (lv' := [(0, .ref (ad 9)), (1, .int (nI u)), (2, .int (nI (v + 1)))]) [1, 2, 0] rfl ?_
          exact ih _ _ _ (v + 1) hS3 ((hf.tr f2).tr f3) (by omega) (by rw [fup_s, hT]; rfl) (by rw [fup_s, hX, mk, if_pos (by simp [h2])]) (fun i hi => ⟨by rw [fup_n hi]; exact (ht i hi).1, by rw [fup_n hi]; exact (ht i hi).2⟩) (by omega)
  refine aw_aload_n d_S_sumUp_0 rfl rfl ?_
  refine aw_get kc_2 2 (by decide) k_68 d_S_sumUp_1 hS.1 rfl ?_
  refine aw_iload_n d_S_sumUp_4 rfl rfl ?_
  refine aw_iconst (v := nI 0) d_S_sumUp_5 (by decide) ?_
  refine aw_iastA d_S_sumUp_6 hS.2.2.2.1 hg (by omega) (by decide) (fun ws10 a11 b12 c13 => ?_)
  have hS2 := hS.putT a11 b12
  have f2 := fr.one (lo := 9) (hi := 18) b12 c13 (by omega) (by omega)
  refine aw_aload_n d_S_sumUp_7 rfl rfl ?_
  refine aw_get kc_2 3 (by decide) k_72 d_S_sumUp_8 ((b12 9 (by omega)).trans hS.1) rfl ?_
  refine aw_iload_n d_S_sumUp_11 rfl rfl ?_
  refine aw_iconst (v := nI 0) d_S_sumUp_12 (by decide) ?_
  refine aw_iastA d_S_sumUp_13 ((b12 17 (by omega)).trans hS.2.2.2.2) hg (by omega) (by decide) (fun ws14 a15 b16 c17 => ?_)
  have hS3 := hS2.putX a15 b16
  have f3 := fr.one (lo := 9) (hi := 18) b16 c17 (by omega) (by omega)
  refine aw_iconst (v := nI 0) d_S_sumUp_14 (by decide) ?_
  refine aw_istore_n (lv' := [(2, .int (nI 0)), (0, .ref (ad 9)), (1, .int (nI u))]) d_S_sumUp_15 rfl (by decide) rfl ?_
  refine aw_sub (lv' := [(0, .ref (ad 9)), (1, .int (nI u)), (2, .int (nI 0))]) [1, 2, 0] rfl ?_
  exact lp (n + 1) _ _ _ 0 hS3 (f2.tr f3) (by omega) (by rw [fup_s]; rfl) (by rw [fup_s]; rfl) (fun i hi => ⟨fup_n hi, fup_n hi⟩) (by omega)

def q_renewS (g : aw_G) (ad : Nat → Nat) (ws : va_W) (n x y : Nat) (W : Nat → Nat → Nat) (J : Nat → Nat) : Option Value → va_W → Prop := fun v ws' => v = none ∧ fr 9 18 ws ws' ∧ ∃ (P : Nat → Nat → Nat) (T X : Nat → Nat), gS g ws' ad n P T X ∧ okS n x y W J P T X

set_option maxHeartbeats 4000000 in
set_option maxRecDepth 100000 in
theorem m_S_renew {g : aw_G} (hg : aw_T g) {ws : va_W} {ad : Nat → Nat} {n m x y : Nat} {W P : Nat → Nat → Nat} {J T X : Nat → Nat} (hG : gG g ws ad n x y W J) (hS : gS g ws ad m P T X) (hok : okG n x y W J) : AMet g y_S_renew c_S_renew 4 none 2 [.ref (ad 9), .ref (ad 1)] ws (q_renewS g ad ws n x y W J) 0 0 := by
  have hn := hok.1
  have ha := sN_le (f := J) (b := 2) (n := n) (fun i hi => hok.2.2.2.2.2 i (by omega))
  refine amet_of (by decide +kernel) (Nat.le_of_ble_eq_true rfl) ?_
  refine aw_sub (lv' := [(0, .ref (ad 9)), (1, .ref (ad 1))]) [0, 1] rfl ?_
  have lp : ∀ (k : Nat) (ws1 : va_W) (P1 : Nat → Nat → Nat) (T1 X1 : Nat → Nat) (u : Nat), gG g ws1 ad n x y W J → gS g ws1 ad n P1 T1 X1 → fr 9 18 ws ws1 → u ≤ n → (∀ a, a < u → (∀ v, v < n → P1 a v = nr n x y W J a v) ∧ T1 a = tt n x y W J a ∧ X1 a = mk (fun v => decide (0 < nr n x y W J a v)) n) → n - u < k → AW g y_S_renew c_S_renew 4 none (aw_rm 2 0 0) aw_E0 (aw_F g (q_renewS g ad ws n x y W J) 0 0) 0 0 15 [(0, .ref (ad 9)), (1, .ref (ad 1)), (2, .int (nI (sN J n))), (3, .int (nI u))] [] ws1 := by
    intro k
    induction k with
    | zero => intro ws1 P1 T1 X1 u hG1 hS1 hf hu hr hk; omega
    | succ k ih =>
      intro ws1 P1 T1 X1 u hG1 hS1 hf hu hr hk
      refine aw_iload_n d_S_renew_15 rfl rfl ?_
      refine aw_aload_n d_S_renew_16 rfl rfl ?_
      refine aw_get kc_2 0 (by decide) k_60 d_S_renew_17 hS1.1 rfl ?_
      refine aw_icmp_geN (tgt := 46) d_S_renew_20 (by decide) (by omega) (by omega) (fun h => ?_) (fun h => ?_)
      · have e : u = n := by omega
        subst e
        exact aw_vret d_S_renew_46 (Nat.le_refl 0) (Nat.le_refl 0) ⟨rfl, hf, P1, T1, X1, hS1, hr⟩
      · refine aw_aload_n d_S_renew_23 rfl rfl ?_
        refine aw_aload_n d_S_renew_24 rfl rfl ?_
        refine aw_iload_n d_S_renew_25 rfl rfl ?_
        refine aw_iload_n d_S_renew_26 rfl rfl ?_
        refine aw_callV (av := [.ref (ad 1), .int (nI u), .int (nI (sN J n))]) (rest := []) (m_S_fillParts hg hG1 hS1 hok h) kd_S_fillParts k_186 k_188 ks_S_fillParts rfl hS1.1 d_S_renew_27 rfl ⟨by decide, by decide⟩ (Nat.le_of_ble_eq_true rfl) ⟨by decide, by decide⟩ rfl (fun v2 ws2 hq2 => ?_)
        obtain ⟨rfl, f2, P2, hS2, e2, t2⟩ := hq2
        have hG2 := hG1.kept f2 (by omega)
        obtain ⟨rs1, rs2⟩ := raw_sum hok h
        have es : sN (P2 u) n = sN (raw n x y W J u) n := sN_congr e2
        have eg : gcdN (P2 u) n = gcdN (raw n x y W J u) n := gcdN_congr e2
        refine aw_aload_n d_S_renew_30 rfl rfl ?_
        refine aw_iload_n d_S_renew_31 rfl rfl ?_
        refine aw_callV (av := [.int (nI u)]) (rest := []) (m_S_lowerParts hg hS2 hn h (by rw [es]; exact ⟨rs1, rs2⟩)) kd_S_lowerParts k_194 k_196 ks_S_lowerParts rfl hS2.1 d_S_renew_32 rfl ⟨by decide, by decide⟩ (Nat.le_of_ble_eq_true rfl) ⟨by decide, by decide⟩ rfl (fun v3 ws3 hq3 => ?_)
        obtain ⟨rfl, f3, P3, hS3, e3, t3⟩ := hq3
        have hG3 := hG2.kept f3 (by omega)
        have e3n : ∀ v, v < n → P3 u v = nr n x y W J u v := fun v hv => (e3 v hv).trans (by show P2 u v / gcdN (P2 u) n = _; rw [eg, e2 v hv]; rfl)
        obtain ⟨n0, n4, -⟩ := nr_ok hok h
        refine aw_aload_n d_S_renew_35 rfl rfl ?_
        refine aw_iload_n d_S_renew_36 rfl rfl ?_
        refine aw_callV (av := [.int (nI u)]) (rest := []) (m_S_sumUp hg hS3 hn h (fun v hv => by rw [e3n v hv]; exact Nat.le_trans (nr_le hv) n4)) kd_S_sumUp k_201 k_203 ks_S_sumUp rfl hS3.1 d_S_renew_37 rfl ⟨by decide, by decide⟩ (Nat.le_of_ble_eq_true rfl) ⟨by decide, by decide⟩ rfl (fun v4 ws4 hq4 => ?_)
        obtain ⟨rfl, f4, T4, X4, hS4, eT, eX, t4⟩ := hq4
        have hG4 := hG3.kept f4 (by omega)
        refine aw_iinc1 (lv' := [(3, .int (nI (u + 1))), (0, .ref (ad 9)), (1, .ref (ad 1)), (2, .int (nI (sN J n)))]) d_S_renew_40 rfl (by decide) rfl ?_
        refine aw_goto (tgt := 15) d_S_renew_43 (by decide) ?_
        refine aw_sub (lv' := [(0, .ref (ad 9)), (1, .ref (ad 1)), (2, .int (nI (sN J n))), (3, .int (nI (u + 1)))]) [1, 2, 3, 0] rfl ?_
        exact ih _ _ _ _ (u + 1) hG4 hS4 (((hf.tr f2).tr f3).tr f4) (by omega) (fun a ha => by
          by_cases e : a = u
          · subst e
            exact ⟨e3n, by rw [eT]; exact sN_congr e3n, by rw [eX]; exact mk_congr (fun i hi => by rw [e3n i hi])⟩
          · obtain ⟨q1, q2, q3⟩ := hr a (by omega)
            exact ⟨fun v hv => by rw [t3 a e v, t2 a e v]; exact q1 v hv, by rw [(t4 a e).1]; exact q2, by rw [(t4 a e).2]; exact q3⟩) (by omega)
  refine aw_aload_n d_S_renew_0 rfl rfl ?_
  refine aw_aload_n d_S_renew_1 rfl rfl ?_
  refine aw_get kc_1 0 (by decide) k_25 d_S_renew_2 hG.1 rfl ?_
  refine aw_putN kc_2 0 (by decide) k_60 d_S_renew_5 hS.1 rfl rfl rfl (Nat.le_of_ble_eq_true rfl) (fun ws1 a2 b3 c4 => ?_)
  have f5 : ws1[9]? = some (ad 9, .inr (2, [.int (nI n), .ref (ad 10), .ref (ad 16), .ref (ad 17)])) := a2
  have hS2 := hS.putO (n' := n) a2 b3
  have f2 := fr.one (lo := 9) (hi := 18) b3 c4 (by omega) (by omega)
  have hG2 := hG.kept f2 (by omega)
  refine aw_aload_n d_S_renew_8 rfl rfl ?_
  refine aw_callV (av := []) (rest := []) (m_G_allJumps hg hG2 hn) kd_G_allJumps k_182 k_183 ks_G_allJumps rfl hG2.1 d_S_renew_9 rfl ⟨by decide, by decide⟩ (Nat.le_of_ble_eq_true rfl) ⟨by decide, by decide⟩ rfl (fun v3 ws3 hq => ?_)
  obtain ⟨rfl, rfl⟩ := hq
  refine aw_istore_n (lv' := [(2, .int (nI (sN J n))), (0, .ref (ad 9)), (1, .ref (ad 1))]) d_S_renew_12 rfl (by decide) rfl ?_
  refine aw_iconst (v := nI 0) d_S_renew_13 (by decide) ?_
  refine aw_istore_n (lv' := [(3, .int (nI 0)), (2, .int (nI (sN J n))), (0, .ref (ad 9)), (1, .ref (ad 1))]) d_S_renew_14 rfl (by decide) rfl ?_
  refine aw_sub (lv' := [(0, .ref (ad 9)), (1, .ref (ad 1)), (2, .int (nI (sN J n))), (3, .int (nI 0))]) [2, 3, 1, 0] rfl ?_
  exact lp (n + 1) _ _ _ _ 0 hG2 hS2 f2 (by omega) (fun a ha => absurd ha (by omega)) (by omega)

set_option maxHeartbeats 4000000 in
set_option maxRecDepth 100000 in
theorem m_S_nextOf {g : aw_G} (hg : aw_T g) {ws : va_W} {ad : Nat → Nat} {n m : Nat} {P : Nat → Nat → Nat} {T X : Nat → Nat} (hS : gS g ws ad n P T X) (hn : n ≤ 5) (hm : m < 32) : AMet g y_S_nextOf c_S_nextOf 4 (some .int) 2 [.ref (ad 9), .int (nI m)] ws (aw_R (.int (nI (nxO X m n))) ws) 0 0 := by
  refine amet_of (by decide +kernel) (Nat.le_of_ble_eq_true rfl) ?_
  refine aw_sub (lv' := [(0, .ref (ad 9)), (1, .int (nI m))]) [0, 1] rfl ?_
  refine aw_iconst (v := nI 0) d_S_nextOf_0 (by decide) ?_
  refine aw_istore_n (lv' := [(2, .int (nI 0)), (0, .ref (ad 9)), (1, .int (nI m))]) d_S_nextOf_1 rfl (by decide) rfl ?_
  refine aw_iconst (v := nI 0) d_S_nextOf_2 (by decide) ?_
  refine aw_istore_n (lv' := [(3, .int (nI 0)), (2, .int (nI 0)), (0, .ref (ad 9)), (1, .int (nI m))]) d_S_nextOf_3 rfl (by decide) rfl ?_
  have lp : ∀ (k : Nat) (i : Nat), i ≤ n → n - i < k → AW g y_S_nextOf c_S_nextOf 4 (some .int) (aw_rm 2 0 0) aw_E0 (aw_F g (aw_R (.int (nI (nxO X m n))) ws) 0 0) 0 0 4 [(0, .ref (ad 9)), (1, .int (nI m)), (2, .int (nI (nxO X m i))), (3, .int (nI i))] [] ws := by
    intro k
    induction k with
    | zero => intro i hi hk; omega
    | succ k ih =>
      intro i hi hk
      refine aw_iload_n d_S_nextOf_4 rfl rfl ?_
      refine aw_aload_n d_S_nextOf_5 rfl rfl ?_
      refine aw_get kc_2 0 (by decide) k_60 d_S_nextOf_6 hS.1 rfl ?_
      refine aw_icmp_geN (tgt := 35) d_S_nextOf_9 (by decide) (by omega) (by omega) (fun h => ?_) (fun h => ?_)
      · have e : i = n := by omega
        subst e
        refine aw_iload_n d_S_nextOf_35 rfl rfl ?_
        exact aw_iret d_S_nextOf_36 (Nat.le_refl 0) (Nat.le_refl 0) ⟨rfl, rfl⟩
      · refine aw_iload_n d_S_nextOf_12 rfl rfl ?_
        refine aw_iload_n d_S_nextOf_13 rfl rfl ?_
        refine aw_callSN (av := [.int (nI m), .int (nI i)]) (rest := []) (m_W_has (ad := ad) hg hm (by omega)) kd_W_has k_220 k_221  d_S_nextOf_14 rfl ⟨by decide, by decide⟩ (Nat.le_of_ble_eq_true rfl) ⟨by decide, by decide⟩ rfl (fun v2 ws2 hq => ?_)
        obtain ⟨rfl, rfl⟩ := hq
        refine aw_if_eqB (tgt := 29) d_S_nextOf_17 (by decide) (fun h2 => ?_) (fun h2 => ?_)
        · have ex : nxO X m i = nxO X m (i + 1) := by rw [nxO, if_neg (by rw [h2]; decide)]
          rw [ex]
          refine aw_iinc1 (lv' := [(3, .int (nI (i + 1))), (0, .ref (ad 9)), (1, .int (nI m)), (2, .int (nI (nxO X m (i + 1))))]) d_S_nextOf_29 rfl (by decide) rfl ?_
          refine aw_goto (tgt := 4) d_S_nextOf_32 (by decide) ?_
          refine aw_sub (lv' := [(0, .ref (ad 9)), (1, .int (nI m)), (2, .int (nI (nxO X m (i + 1)))), (3, .int (nI (i + 1)))]) [1, 2, 3, 0] rfl ?_
          exact ih (i + 1) (by omega) (by omega)
        · have ex : nxO X m (i + 1) = nxO X m i ||| X i := by rw [nxO, if_pos h2]
          refine aw_iload_n d_S_nextOf_20 rfl rfl ?_
          refine aw_aload_n d_S_nextOf_21 rfl rfl ?_
          refine aw_get kc_2 3 (by decide) k_72 d_S_nextOf_22 hS.1 rfl ?_
          refine aw_iload_n d_S_nextOf_25 rfl rfl ?_
          refine aw_ialdA d_S_nextOf_26 hS.2.2.2.2 hg (by omega) (by decide) ?_
          refine aw_iorN d_S_nextOf_27 ?_
          refine aw_nmi (z := nI (nxO X m (i + 1))) (by rw [ex]) ?_
          refine aw_istore_n (lv' := [(2, .int (nI (nxO X m (i + 1)))), (0, .ref (ad 9)), (1, .int (nI m)), (3, .int (nI i))]) d_S_nextOf_28 rfl (by decide) rfl ?_
          refine aw_iinc1 (lv' := [(3, .int (nI (i + 1))), (2, .int (nI (nxO X m (i + 1)))), (0, .ref (ad 9)), (1, .int (nI m))]) d_S_nextOf_29 rfl (by decide) rfl ?_
          refine aw_goto (tgt := 4) d_S_nextOf_32 (by decide) ?_
          refine aw_sub (lv' := [(0, .ref (ad 9)), (1, .int (nI m)), (2, .int (nI (nxO X m (i + 1)))), (3, .int (nI (i + 1)))]) [2, 3, 1, 0] rfl ?_
          exact ih (i + 1) (by omega) (by omega)
  refine aw_sub (lv' := [(0, .ref (ad 9)), (1, .int (nI m)), (2, .int (nI (nxO X m 0))), (3, .int (nI 0))]) [2, 3, 1, 0] rfl ?_
  exact lp (n + 1) 0 (by omega) (by omega)

set_option maxHeartbeats 4000000 in
set_option maxRecDepth 100000 in
theorem m_S_nodesBehind {g : aw_G} (hg : aw_T g) {ws : va_W} {ad : Nat → Nat} {n u av : Nat} {P : Nat → Nat → Nat} {T X : Nat → Nat} (hS : gS g ws ad n P T X) (hn : n ≤ 5) (hu : u < 5) (hX : ∀ u, u < n → X u < 32) (ha : av < 32) : AMet g y_S_nodesBehind c_S_nodesBehind 5 (some .int) 3 [.ref (ad 9), .int (nI u), .int (nI av)] ws (aw_R (.int (nI (bh X n av (2 ^ u) n))) ws) 0 0 := by
  have hb := bh_lt hX ha (pow_32 hu)
  refine amet_of (by decide +kernel) (Nat.le_of_ble_eq_true rfl) ?_
  refine aw_sub (lv' := [(0, .ref (ad 9)), (1, .int (nI u)), (2, .int (nI av))]) [0, 1, 2] rfl ?_
  refine aw_iload_n d_S_nodesBehind_0 rfl rfl ?_
  refine aw_callSN (av := [.int (nI u)]) (rest := []) (m_W_only (ad := ad) hg hu) kd_W_only k_205 k_206  d_S_nodesBehind_1 rfl ⟨by decide, by decide⟩ (Nat.le_of_ble_eq_true rfl) ⟨by decide, by decide⟩ rfl (fun v2 ws2 hq => ?_)
  obtain ⟨rfl, rfl⟩ := hq
  refine aw_istore_n (lv' := [(3, .int (nI (2 ^ u))), (0, .ref (ad 9)), (1, .int (nI u)), (2, .int (nI av))]) d_S_nodesBehind_4 rfl (by decide) rfl ?_
  refine aw_iconst (v := nI 0) d_S_nodesBehind_5 (by decide) ?_
  refine aw_istore (lv' := [(4, .int (nI 0)), (3, .int (nI (2 ^ u))), (0, .ref (ad 9)), (1, .int (nI u)), (2, .int (nI av))]) d_S_nodesBehind_6 (by decide) rfl ?_
  have lp : ∀ (k : Nat) (i : Nat), i ≤ n → n - i < k → AW g y_S_nodesBehind c_S_nodesBehind 5 (some .int) (aw_rm 3 0 0) aw_E0 (aw_F g (aw_R (.int (nI (bh X n av (2 ^ u) n))) ws) 0 0) 0 0 8 [(0, .ref (ad 9)), (1, .int (nI u)), (2, .int (nI av)), (3, .int (nI (bh X n av (2 ^ u) i))), (4, .int (nI i))] [] ws := by
    intro k
    induction k with
    | zero => intro i hi hk; omega
    | succ k ih =>
      intro i hi hk
      refine aw_iload d_S_nodesBehind_8 rfl ?_
      refine aw_aload_n d_S_nodesBehind_10 rfl rfl ?_
      refine aw_get kc_2 0 (by decide) k_60 d_S_nodesBehind_11 hS.1 rfl ?_
      refine aw_icmp_geN (tgt := 35) d_S_nodesBehind_14 (by decide) (by omega) (by omega) (fun h => ?_) (fun h => ?_)
      · have e : i = n := by omega
        subst e
        refine aw_iload_n d_S_nodesBehind_35 rfl rfl ?_
        exact aw_iret d_S_nodesBehind_36 (Nat.le_refl 0) (Nat.le_refl 0) ⟨rfl, rfl⟩
      · refine aw_iload_n d_S_nodesBehind_17 rfl rfl ?_
        refine aw_aload_n d_S_nodesBehind_18 rfl rfl ?_
        refine aw_iload_n d_S_nodesBehind_19 rfl rfl ?_
        refine aw_callV (av := [.int (nI (bh X n av (2 ^ u) i))]) (rest := [.int (nI (bh X n av (2 ^ u) i))]) (m_S_nextOf hg hS hn (hb i)) kd_S_nextOf k_216 k_218 ks_S_nextOf rfl hS.1 d_S_nodesBehind_20 rfl ⟨by decide, by decide⟩ (Nat.le_of_ble_eq_true rfl) ⟨by decide, by decide⟩ rfl (fun v2 ws2 hq => ?_)
        obtain ⟨rfl, rfl⟩ := hq
        refine aw_iload_n d_S_nodesBehind_23 rfl rfl ?_
        refine aw_iconst (v := -1) d_S_nodesBehind_24 (by decide) ?_
        refine aw_ixor d_S_nodesBehind_25 ?_
        refine aw_iand d_S_nodesBehind_26 ?_
        refine aw_nmi (z := nI (an (nxO X (bh X n av (2 ^ u) i) n) av)) (an_eq _ (nxO_lt hX) _ ha) ?_
        refine aw_iorN d_S_nodesBehind_27 ?_
        refine aw_istore_n (lv' := [(3, .int (nI ((bh X n av (2 ^ u) i) ||| (an (nxO X (bh X n av (2 ^ u) i) n) av)))), (0, .ref (ad 9)), (1, .int (nI u)), (2, .int (nI av)), (4, .int (nI i))]) d_S_nodesBehind_28 rfl (by decide) rfl ?_
        refine aw_iinc1 (lv' := [(4, .int (nI (i + 1))), (3, .int (nI ((bh X n av (2 ^ u) i) ||| (an (nxO X (bh X n av (2 ^ u) i) n) av)))), (0, .ref (ad 9)), (1, .int (nI u)), (2, .int (nI av))]) d_S_nodesBehind_29 rfl (by decide) rfl ?_
        refine aw_goto (tgt := 8) d_S_nodesBehind_32 (by decide) ?_
        refine aw_sub (lv' := [(0, .ref (ad 9)), (1, .int (nI u)), (2, .int (nI av)), (3, .int (nI (bh X n av (2 ^ u) (i + 1)))), (4, .int (nI (i + 1)))]) [2, 3, 4, 1, 0] rfl ?_
        exact ih (i + 1) (by omega) (by omega)
  refine aw_sub (lv' := [(0, .ref (ad 9)), (1, .int (nI u)), (2, .int (nI av)), (3, .int (nI (bh X n av (2 ^ u) 0))), (4, .int (nI 0))]) [2, 3, 4, 1, 0] rfl ?_
  exact lp (n + 1) 0 (by omega) (by omega)
end
section
-- laid by wip/whole/m5.py
set_option maxHeartbeats 4000000 in
set_option maxRecDepth 100000 in
theorem m_S_commonTotal {g : aw_G} (hg : aw_T g) {ws : va_W} {ad : Nat → Nat} {n : Nat} {P : Nat → Nat → Nat} {T X : Nat → Nat} (hS : gS g ws ad n P T X) (hn : n ≤ 5) (hT : ∀ u, u < n → 0 < T u ∧ T u ≤ 400) (hL : ∀ k, k ≤ n → 0 < lcmT T k ∧ lcmT T k ≤ 10080) : AMet g y_S_commonTotal c_S_commonTotal 6 (some .long) 1 [.ref (ad 9)] ws (aw_R (.long (lI (lcmT T n : Int))) ws) 0 0 := by
  refine amet_of (by decide +kernel) (Nat.le_of_ble_eq_true rfl) ?_
  refine aw_sub (lv' := [(0, .ref (ad 9))]) [0] rfl ?_
  refine aw_lconst (v := lI 1) d_S_commonTotal_0 (by decide) ?_
  refine aw_lstore_n (lv' := [(1, .long (lI 1)), (0, .ref (ad 9))]) d_S_commonTotal_1 rfl (by decide) rfl ?_
  refine aw_iconst (v := nI 0) d_S_commonTotal_2 (by decide) ?_
  refine aw_istore_n (lv' := [(3, .int (nI 0)), (1, .long (lI 1)), (0, .ref (ad 9))]) d_S_commonTotal_3 rfl (by decide) rfl ?_
  have lp : ∀ (k : Nat) (i : Nat), i ≤ n → n - i < k → AW g y_S_commonTotal c_S_commonTotal 6 (some .long) (aw_rm 1 0 0) aw_E0 (aw_F g (aw_R (.long (lI (lcmT T n : Int))) ws) 0 0) 0 0 4 [(0, .ref (ad 9)), (1, .long (lI (lcmT T i : Int))), (3, .int (nI i))] [] ws := by
    intro k
    induction k with
    | zero => intro i hi hk; omega
    | succ k ih =>
      intro i hi hk
      refine aw_iload_n d_S_commonTotal_4 rfl rfl ?_
      refine aw_aload_n d_S_commonTotal_5 rfl rfl ?_
      refine aw_get kc_2 0 (by decide) k_60 d_S_commonTotal_6 hS.1 rfl ?_
      refine aw_icmp_geN (tgt := 51) d_S_commonTotal_9 (by decide) (by omega) (by omega) (fun h => ?_) (fun h => ?_)
      · have e : i = n := by omega
        subst e
        refine aw_lload_n d_S_commonTotal_51 rfl rfl ?_
        exact aw_lret d_S_commonTotal_52 (Nat.le_refl 0) (Nat.le_refl 0) ⟨rfl, rfl⟩
      · have b1 := hT i h
        have b2 := hL i hi
        have g0 : 0 < Nat.gcd (lcmT T i) (T i) := Nat.gcd_pos_of_pos_right _ b1.1
        have g1 : Nat.gcd (lcmT T i) (T i) ≤ T i := Nat.le_of_dvd b1.1 (Nat.gcd_dvd_right _ _)
        refine aw_lload_n d_S_commonTotal_12 rfl rfl ?_
        refine aw_aload_n d_S_commonTotal_13 rfl rfl ?_
        refine aw_get kc_2 2 (by decide) k_68 d_S_commonTotal_14 hS.1 rfl ?_
        refine aw_iload_n d_S_commonTotal_17 rfl rfl ?_
        refine aw_ialdA d_S_commonTotal_18 hS.2.2.2.1 hg (by omega) (by decide) ?_
        refine aw_i2lN d_S_commonTotal_19 (by omega) ?_
        refine aw_callSN (av := [.long (lI (lcmT T i : Int)), .long (lI (T i : Nat))]) (rest := []) (m_W_greatestDivisor (ad := ad) hg (by omega) (by omega) (mul99 (by omega) (by omega))) kd_W_greatestDivisor k_198 k_199  d_S_commonTotal_20 rfl ⟨by decide, by decide⟩ (Nat.le_of_ble_eq_true rfl) ⟨by decide, by decide⟩ rfl (fun v2 ws2 hq => ?_)
        obtain ⟨rfl, rfl⟩ := hq
        refine aw_lstore (lv' := [(4, .long (lI (Nat.gcd (lcmT T i) (T i) : Int))), (0, .ref (ad 9)), (1, .long (lI (lcmT T i : Int))), (3, .int (nI i))]) d_S_commonTotal_23 (by decide) rfl ?_
        refine aw_lload d_S_commonTotal_25 rfl ?_
        refine aw_lconst (v := lI 0) d_S_commonTotal_27 (by decide) ?_
        refine aw_lcmpI d_S_commonTotal_28 (by omega) (by omega) (by omega) (by omega) ?_
        refine aw_if_eqC (tgt := 45) d_S_commonTotal_29 (by decide) (fun h2 => absurd h2 (by omega)) (fun h2 => ?_)
        refine aw_lload_n d_S_commonTotal_32 rfl rfl ?_
        refine aw_lload d_S_commonTotal_33 rfl ?_
        refine aw_ldivI (a := (lcmT T i)) (b := (Nat.gcd (lcmT T i) (T i))) d_S_commonTotal_35 (by omega) (by omega) (by omega) ?_
        refine aw_aload_n d_S_commonTotal_36 rfl rfl ?_
        refine aw_get kc_2 2 (by decide) k_68 d_S_commonTotal_37 hS.1 rfl ?_
        refine aw_iload_n d_S_commonTotal_40 rfl rfl ?_
        refine aw_ialdA d_S_commonTotal_41 hS.2.2.2.1 hg (by omega) (by decide) ?_
        refine aw_i2lN d_S_commonTotal_42 (by omega) ?_
        refine aw_lmulI d_S_commonTotal_43 ?_
        refine aw_nml (z := lI (lcmT T (i + 1) : Int)) (by rw [lcmT, Int.natCast_mul]) ?_
        refine aw_lstore_n (lv' := [(1, .long (lI (lcmT T (i + 1) : Int))), (4, .long (lI (Nat.gcd (lcmT T i) (T i) : Int))), (0, .ref (ad 9)), (3, .int (nI i))]) d_S_commonTotal_44 rfl (by decide) rfl ?_
        refine aw_iinc1 (lv' := [(3, .int (nI (i + 1))), (1, .long (lI (lcmT T (i + 1) : Int))), (4, .long (lI (Nat.gcd (lcmT T i) (T i) : Int))), (0, .ref (ad 9))]) d_S_commonTotal_45 rfl (by decide) rfl ?_
        refine aw_goto (tgt := 4) d_S_commonTotal_48 (by decide) ?_
        refine aw_sub (lv' := [(0, .ref (ad 9)), (1, .long (lI (lcmT T (i + 1) : Int))), (3, .int (nI (i + 1)))]) [3, 1, 0] rfl ?_
        exact ih (i + 1) (by omega) (by omega)
  refine aw_sub (lv' := [(0, .ref (ad 9)), (1, .long (lI (lcmT T 0 : Int))), (3, .int (nI 0))]) [2, 1, 0] rfl ?_
  exact lp (n + 1) 0 (by omega) (by omega)

set_option maxHeartbeats 4000000 in
set_option maxRecDepth 100000 in
theorem m_S_periodAt {g : aw_G} (hg : aw_T g) {ws : va_W} {ad : Nat → Nat} {n v : Nat} {P : Nat → Nat → Nat} {T X : Nat → Nat} (hS : gS g ws ad n P T X) (hn : n ≤ 5) (hv : v < 5) (hX : ∀ u, u < n → X u < 32) : AMet g y_S_periodAt c_S_periodAt 5 (some .int) 3 [.ref (ad 9), .int (nI v)] ws (aw_R (.int (nI (perd X n v 15))) ws) 0 0 := by
  have hb := itX_lt (n := n) hX (pow_32 hv)
  refine amet_of (by decide +kernel) (Nat.le_of_ble_eq_true rfl) ?_
  refine aw_sub (lv' := [(0, .ref (ad 9)), (1, .int (nI v))]) [0, 1] rfl ?_
  refine aw_iconst (v := nI 0) d_S_periodAt_0 (by decide) ?_
  refine aw_istore_n (lv' := [(2, .int (nI 0)), (0, .ref (ad 9)), (1, .int (nI v))]) d_S_periodAt_1 rfl (by decide) rfl ?_
  refine aw_iload_n d_S_periodAt_2 rfl rfl ?_
  refine aw_callSN (av := [.int (nI v)]) (rest := []) (m_W_only (ad := ad) hg hv) kd_W_only k_205 k_206  d_S_periodAt_3 rfl ⟨by decide, by decide⟩ (Nat.le_of_ble_eq_true rfl) ⟨by decide, by decide⟩ rfl (fun v2 ws2 hq => ?_)
  obtain ⟨rfl, rfl⟩ := hq
  refine aw_istore_n (lv' := [(3, .int (nI (2 ^ v))), (2, .int (nI 0)), (0, .ref (ad 9)), (1, .int (nI v))]) d_S_periodAt_6 rfl (by decide) rfl ?_
  refine aw_iconst (v := nI 1) d_S_periodAt_7 (by decide) ?_
  refine aw_istore (lv' := [(4, .int (nI 1)), (3, .int (nI (2 ^ v))), (2, .int (nI 0)), (0, .ref (ad 9)), (1, .int (nI v))]) d_S_periodAt_8 (by decide) rfl ?_
  have lp : ∀ (k : Nat) (i : Nat), i ≤ 15 → 15 - i < k → AW g y_S_periodAt c_S_periodAt 5 (some .int) (aw_rm 3 0 0) aw_E0 (aw_F g (aw_R (.int (nI (perd X n v 15))) ws) 0 0) 0 0 10 [(0, .ref (ad 9)), (1, .int (nI v)), (2, .int (nI (perd X n v i))), (3, .int (nI (itX X n (2 ^ v) i))), (4, .int (nI (i + 1)))] [] ws := by
    intro k
    induction k with
    | zero => intro i hi hk; omega
    | succ k ih =>
      intro i hi hk
      refine aw_iload d_S_periodAt_10 rfl ?_
      refine aw_bipush (v := nI 15) d_S_periodAt_12 (by decide) ?_
      refine aw_icmp_gtN (tgt := 47) d_S_periodAt_14 (by decide) (by omega) (by omega) (fun h => ?_) (fun h => ?_)
      · have e : i = 15 := by omega
        subst e
        refine aw_iload_n d_S_periodAt_47 rfl rfl ?_
        exact aw_iret d_S_periodAt_48 (Nat.le_refl 0) (Nat.le_refl 0) ⟨rfl, rfl⟩
      · refine aw_aload_n d_S_periodAt_17 rfl rfl ?_
        refine aw_iload_n d_S_periodAt_18 rfl rfl ?_
        refine aw_callV (av := [.int (nI (itX X n (2 ^ v) i))]) (rest := []) (m_S_nextOf hg hS hn (hb i)) kd_S_nextOf k_216 k_218 ks_S_nextOf rfl hS.1 d_S_periodAt_19 rfl ⟨by decide, by decide⟩ (Nat.le_of_ble_eq_true rfl) ⟨by decide, by decide⟩ rfl (fun v2 ws2 hq => ?_)
        obtain ⟨rfl, rfl⟩ := hq
        refine aw_istore_n (lv' := [(3, .int (nI (itX X n (2 ^ v) (i + 1)))), (0, .ref (ad 9)), (1, .int (nI v)), (2, .int (nI (perd X n v i))), (4, .int (nI (i + 1)))]) d_S_periodAt_22 rfl (by decide) rfl ?_
        refine aw_iload_n d_S_periodAt_23 rfl rfl ?_
        refine aw_iload_n d_S_periodAt_24 rfl rfl ?_
        refine aw_callSN (av := [.int (nI (itX X n (2 ^ v) (i + 1))), .int (nI v)]) (rest := []) (m_W_has (ad := ad) hg (hb (i + 1)) hv) kd_W_has k_220 k_221  d_S_periodAt_25 rfl ⟨by decide, by decide⟩ (Nat.le_of_ble_eq_true rfl) ⟨by decide, by decide⟩ rfl (fun v3 ws3 hq => ?_)
        obtain ⟨rfl, rfl⟩ := hq
        refine aw_if_eqB (tgt := 41) d_S_periodAt_28 (by decide) (fun h2 => ?_) (fun h2 => ?_)
        · have ex : perd X n v i = perd X n v (i + 1) := by rw [perd, if_neg (by rw [h2]; decide)]
          rw [ex]
          refine aw_iinc1 (lv' := [(4, .int (nI (i + 1 + 1))), (3, .int (nI (itX X n (2 ^ v) (i + 1)))), (0, .ref (ad 9)), (1, .int (nI v)), (2, .int (nI (perd X n v (i + 1))))]) d_S_periodAt_41 rfl (by decide) rfl ?_
          refine aw_goto (tgt := 10) d_S_periodAt_44 (by decide) ?_
          refine aw_sub (lv' := [(0, .ref (ad 9)), (1, .int (nI v)), (2, .int (nI (perd X n v (i + 1)))), (3, .int (nI (itX X n (2 ^ v) (i + 1)))), (4, .int (nI (i + 1 + 1)))]) [2, 3, 4, 1, 0] rfl ?_
          exact ih (i + 1) (by omega) (by omega)
        · have ex : perd X n v (i + 1) = Nat.gcd (perd X n v i) (i + 1) := by rw [perd, if_pos h2]
          have b1 := perd_le (X := X) (n := n) (v := v) i
          refine aw_iload_n d_S_periodAt_31 rfl rfl ?_
          refine aw_i2lN d_S_periodAt_32 (by omega) ?_
          refine aw_iload d_S_periodAt_33 rfl ?_
          refine aw_i2lN d_S_periodAt_35 (by omega) ?_
          refine aw_callSN (av := [.long (lI (perd X n v i : Nat)), .long (lI (i + 1 : Nat))]) (rest := []) (m_W_greatestDivisor (ad := ad) hg (by omega) (by omega) (mul99 (by omega) (by omega))) kd_W_greatestDivisor k_198 k_199  d_S_periodAt_36 rfl ⟨by decide, by decide⟩ (Nat.le_of_ble_eq_true rfl) ⟨by decide, by decide⟩ rfl (fun v4 ws4 hq => ?_)
          obtain ⟨rfl, rfl⟩ := hq
          refine aw_l2iN (a := (Nat.gcd (perd X n v i) (i + 1))) d_S_periodAt_39 ?_
          refine aw_nmi (z := nI (perd X n v (i + 1))) (by rw [ex]) ?_
          refine aw_istore_n (lv' := [(2, .int (nI (perd X n v (i + 1)))), (3, .int (nI (itX X n (2 ^ v) (i + 1)))), (0, .ref (ad 9)), (1, .int (nI v)), (4, .int (nI (i + 1)))]) d_S_periodAt_40 rfl (by decide) rfl ?_
          refine aw_iinc1 (lv' := [(4, .int (nI (i + 1 + 1))), (2, .int (nI (perd X n v (i + 1)))), (3, .int (nI (itX X n (2 ^ v) (i + 1)))), (0, .ref (ad 9)), (1, .int (nI v))]) d_S_periodAt_41 rfl (by decide) rfl ?_
          refine aw_goto (tgt := 10) d_S_periodAt_44 (by decide) ?_
          refine aw_sub (lv' := [(0, .ref (ad 9)), (1, .int (nI v)), (2, .int (nI (perd X n v (i + 1)))), (3, .int (nI (itX X n (2 ^ v) (i + 1)))), (4, .int (nI (i + 1 + 1)))]) [3, 4, 1, 2, 0] rfl ?_
          exact ih (i + 1) (by omega) (by omega)
  refine aw_sub (lv' := [(0, .ref (ad 9)), (1, .int (nI v)), (2, .int (nI (perd X n v 0))), (3, .int (nI (itX X n (2 ^ v) 0))), (4, .int (nI 1))]) [3, 4, 2, 1, 0] rfl ?_
  exact lp 16 0 (by omega) (by omega)

def q_pick (ws : va_W) (f : Nat → Nat) (n t : Nat) : Option Value → va_W → Prop := fun r ws' => ws = ws' ∧ ∃ v, v < n ∧ r = some (.int (nI v)) ∧ sN f v ≤ t ∧ t < sN f (v + 1)

set_option maxHeartbeats 4000000 in
set_option maxRecDepth 100000 in
theorem m_S_nextNode {g : aw_G} (hg : aw_T g) {ws : va_W} {ad : Nat → Nat} {n u m : Nat} {P : Nat → Nat → Nat} {T X : Nat → Nat} (hS : gS g ws ad n P T X) (hn : n ≤ 5) (hu : u < n) (hm : m < 2 ^ 31) (hT : 0 < T u ∧ T u ≤ 400) (hs : sN (P u) n = T u) : AMet g y_S_nextNode c_S_nextNode 5 (some .int) 0 [.ref (ad 9), .int (nI u), .int (nI m)] ws (q_pick ws (P u) n (m % T u)) 0 0 := by
  have hlt := Nat.mod_lt m hT.1
  refine amet_of (by decide +kernel) (Nat.le_of_ble_eq_true rfl) ?_
  refine aw_sub (lv' := [(0, .ref (ad 9)), (1, .int (nI u)), (2, .int (nI m))]) [0, 1, 2] rfl ?_
  refine aw_aload_n d_S_nextNode_0 rfl rfl ?_
  refine aw_get kc_2 2 (by decide) k_68 d_S_nextNode_1 hS.1 rfl ?_
  refine aw_iload_n d_S_nextNode_4 rfl rfl ?_
  refine aw_ialdA d_S_nextNode_5 hS.2.2.2.1 hg (by omega) (by decide) ?_
  refine aw_if_gtN (tgt := 11) d_S_nextNode_6 (by decide) (by omega) (fun h => ?_) (fun h => absurd h (by omega))
  refine aw_iload_n d_S_nextNode_11 rfl rfl ?_
  refine aw_aload_n d_S_nextNode_12 rfl rfl ?_
  refine aw_get kc_2 2 (by decide) k_68 d_S_nextNode_13 hS.1 rfl ?_
  refine aw_iload_n d_S_nextNode_16 rfl rfl ?_
  refine aw_ialdA d_S_nextNode_17 hS.2.2.2.1 hg (by omega) (by decide) ?_
  refine aw_iremN d_S_nextNode_18 (by omega) (by omega) (by omega) ?_
  refine aw_istore_n (lv' := [(3, .int (nI (m % (T u)))), (0, .ref (ad 9)), (1, .int (nI u)), (2, .int (nI m))]) d_S_nextNode_19 rfl (by decide) rfl ?_
  refine aw_iconst (v := nI 0) d_S_nextNode_20 (by decide) ?_
  refine aw_istore (lv' := [(4, .int (nI 0)), (3, .int (nI (m % (T u)))), (0, .ref (ad 9)), (1, .int (nI u)), (2, .int (nI m))]) d_S_nextNode_21 (by decide) rfl ?_
  have lp : ∀ (k : Nat) (i r : Nat), i ≤ n → r + sN (P u) i = m % T u → n - i < k → AW g y_S_nextNode c_S_nextNode 5 (some .int) (aw_rm 0 0 0) aw_E0 (aw_F g (q_pick ws (P u) n (m % T u)) 0 0) 0 0 23 [(0, .ref (ad 9)), (1, .int (nI u)), (3, .int (nI r)), (4, .int (nI i))] [] ws := by
    intro k
    induction k with
    | zero => intro i r hi hr hk; omega
    | succ k ih =>
      intro i r hi hr hk
      refine aw_iload d_S_nextNode_23 rfl ?_
      refine aw_aload_n d_S_nextNode_25 rfl rfl ?_
      refine aw_get kc_2 0 (by decide) k_60 d_S_nextNode_26 hS.1 rfl ?_
      refine aw_icmp_geN (tgt := 66) d_S_nextNode_29 (by decide) (by omega) (by omega) (fun h => ?_) (fun h => ?_)
      · have e : i = n := by omega
        subst e
        omega
      · have b1 := sN_mem (f := P u) h
        have es : sN (P u) (i + 1) = sN (P u) i + P u i := rfl
        refine aw_iload_n d_S_nextNode_32 rfl rfl ?_
        refine aw_aload_n d_S_nextNode_33 rfl rfl ?_
        refine aw_get kc_2 1 (by decide) k_64 d_S_nextNode_34 hS.1 rfl ?_
        refine aw_iload_n d_S_nextNode_37 rfl rfl ?_
        refine aw_aaldI d_S_nextNode_38 hS.2.1 hg (by omega) ?_
        refine aw_iload d_S_nextNode_39 rfl ?_
        refine aw_ialdA d_S_nextNode_41 (hS.2.2.1 u (by omega)) hg (by omega) (by decide) ?_
        refine aw_icmp_geN (tgt := 48) d_S_nextNode_42 (by decide) (by omega) (by omega) (fun h2 => ?_) (fun h2 => ?_)
        · refine aw_iload_n d_S_nextNode_48 rfl rfl ?_
          refine aw_aload_n d_S_nextNode_49 rfl rfl ?_
          refine aw_get kc_2 1 (by decide) k_64 d_S_nextNode_50 hS.1 rfl ?_
          refine aw_iload_n d_S_nextNode_53 rfl rfl ?_
          refine aw_aaldI d_S_nextNode_54 hS.2.1 hg (by omega) ?_
          refine aw_iload d_S_nextNode_55 rfl ?_
          refine aw_ialdA d_S_nextNode_57 (hS.2.2.1 u (by omega)) hg (by omega) (by decide) ?_
          refine aw_isubN d_S_nextNode_58 (by omega) ?_
          refine aw_istore_n (lv' := [(3, .int (nI (r - (P u i)))), (0, .ref (ad 9)), (1, .int (nI u)), (4, .int (nI i))]) d_S_nextNode_59 rfl (by decide) rfl ?_
          refine aw_iinc1 (lv' := [(4, .int (nI (i + 1))), (3, .int (nI (r - (P u i)))), (0, .ref (ad 9)), (1, .int (nI u))]) d_S_nextNode_60 rfl (by decide) rfl ?_
          refine aw_goto (tgt := 23) d_S_nextNode_63 (by decide) ?_
          refine aw_sub (lv' := [(0, .ref (ad 9)), (1, .int (nI u)), (3, .int (nI (r - (P u i)))), (4, .int (nI (i + 1)))]) [2, 3, 1, 0] rfl ?_
          exact ih (i + 1) (r - P u i) (by omega) (by omega) (by omega)
        · refine aw_iload d_S_nextNode_45 rfl ?_
          exact aw_iret d_S_nextNode_47 (Nat.le_refl 0) (Nat.le_refl 0) ⟨rfl, i, h, rfl, by omega, by omega⟩
  refine aw_sub (lv' := [(0, .ref (ad 9)), (1, .int (nI u)), (3, .int (nI (m % (T u)))), (4, .int (nI 0))]) [2, 3, 1, 0] rfl ?_
  exact lp (n + 1) 0 (m % T u) (by omega) (by show m % T u + 0 = _; omega) (by omega)

set_option maxHeartbeats 4000000 in
set_option maxRecDepth 100000 in
theorem m_C_leadingTo {g : aw_G} (hg : aw_T g) {ws : va_W} {ad : Nat → Nat} {n q m : Nat} {M L D : Nat → Nat} {O : Nat → Int32} (hC : gC g ws ad q M L O n D) (hn : n ≤ 5) (hD : ∀ u, u < n → D u < 32) : AMet g y_C_leadingTo c_C_leadingTo 4 (some .int) 1 [.ref (ad 18), .int (nI m)] ws (aw_R (.int (nI (lead D n m))) ws) 0 0 := by
  refine amet_of (by decide +kernel) (Nat.le_of_ble_eq_true rfl) ?_
  refine aw_sub (lv' := [(0, .ref (ad 18)), (1, .int (nI m))]) [0, 1] rfl ?_
  refine aw_iconst (v := nI 0) d_C_leadingTo_0 (by decide) ?_
  refine aw_istore_n (lv' := [(2, .int (nI 0)), (0, .ref (ad 18)), (1, .int (nI m))]) d_C_leadingTo_1 rfl (by decide) rfl ?_
  refine aw_iconst (v := nI 0) d_C_leadingTo_2 (by decide) ?_
  refine aw_istore_n (lv' := [(3, .int (nI 0)), (2, .int (nI 0)), (0, .ref (ad 18)), (1, .int (nI m))]) d_C_leadingTo_3 rfl (by decide) rfl ?_
  have lp : ∀ (k : Nat) (i : Nat), i ≤ n → n - i < k → AW g y_C_leadingTo c_C_leadingTo 4 (some .int) (aw_rm 1 0 0) aw_E0 (aw_F g (aw_R (.int (nI (lead D n m))) ws) 0 0) 0 0 4 [(0, .ref (ad 18)), (1, .int (nI m)), (2, .int (nI (mk (fun u => decide (¬ (D u &&& m = 0))) i))), (3, .int (nI i))] [] ws := by
    intro k
    induction k with
    | zero => intro i hi hk; omega
    | succ k ih =>
      intro i hi hk
      refine aw_iload_n d_C_leadingTo_4 rfl rfl ?_
      refine aw_aload_n d_C_leadingTo_5 rfl rfl ?_
      refine aw_get kc_3 4 (by decide) k_96 d_C_leadingTo_6 hC.1 rfl ?_
      refine aw_icmp_geN (tgt := 36) d_C_leadingTo_9 (by decide) (by omega) (by omega) (fun h => ?_) (fun h => ?_)
      · have e : i = n := by omega
        subst e
        refine aw_iload_n d_C_leadingTo_36 rfl rfl ?_
        exact aw_iret d_C_leadingTo_37 (Nat.le_refl 0) (Nat.le_refl 0) ⟨rfl, rfl⟩
      · have b1 := hD i h
        refine aw_aload_n d_C_leadingTo_12 rfl rfl ?_
        refine aw_get kc_3 5 (by decide) k_97 d_C_leadingTo_13 hC.1 rfl ?_
        refine aw_iload_n d_C_leadingTo_16 rfl rfl ?_
        refine aw_ialdA d_C_leadingTo_17 hC.2.2.2.2 hg (by omega) (by decide) ?_
        refine aw_iload_n d_C_leadingTo_18 rfl rfl ?_
        refine aw_iandN d_C_leadingTo_19 ?_
        refine aw_if_eqN (tgt := 30) d_C_leadingTo_20 (by decide) (Nat.lt_of_le_of_lt Nat.and_le_left (by omega)) (fun h2 => ?_) (fun h2 => ?_)
        · have ex : mk (fun u => decide (¬ (D u &&& m = 0))) i = mk (fun u => decide (¬ (D u &&& m = 0))) (i + 1) := by rw [mk, if_neg (by simp [h2])]
          rw [ex]
          refine aw_iinc1 (lv' := [(3, .int (nI (i + 1))), (0, .ref (ad 18)), (1, .int (nI m)), (2, .int (nI (mk (fun u => decide (¬ (D u &&& m = 0))) (i + 1))))]) d_C_leadingTo_30 rfl (by decide) rfl ?_
          refine aw_goto (tgt := 4) d_C_leadingTo_33 (by decide) ?_
          refine aw_sub (lv' := [(0, .ref (ad 18)), (1, .int (nI m)), (2, .int (nI (mk (fun u => decide (¬ (D u &&& m = 0))) (i + 1)))), (3, .int (nI (i + 1)))]) [1, 2, 3, 0] rfl ?_
          exact ih (i + 1) (by omega) (by omega)
        · have ex : mk (fun u => decide (¬ (D u &&& m = 0))) (i + 1) = mk (fun u => decide (¬ (D u &&& m = 0))) i ||| 2 ^ i := by rw [mk, if_pos (by simp [h2])]
          refine aw_iload_n d_C_leadingTo_23 rfl rfl ?_
          refine aw_iload_n d_C_leadingTo_24 rfl rfl ?_
          refine aw_callSN (av := [.int (nI i)]) (rest := [.int (nI (mk (fun u => decide (¬ (D u &&& m = 0))) i))]) (m_W_only (ad := ad) hg (by omega)) kd_W_only k_228 k_206  d_C_leadingTo_25 rfl ⟨by decide, by decide⟩ (Nat.le_of_ble_eq_true rfl) ⟨by decide, by decide⟩ rfl (fun v3 ws3 hq => ?_)
          obtain ⟨rfl, rfl⟩ := hq
          refine aw_iorN d_C_leadingTo_28 ?_
          refine aw_nmi (z := nI (mk (fun u => decide (¬ (D u &&& m = 0))) (i + 1))) (by rw [ex]) ?_
          refine aw_istore_n (lv' := [(2, .int (nI (mk (fun u => decide (¬ (D u &&& m = 0))) (i + 1)))), (0, .ref (ad 18)), (1, .int (nI m)), (3, .int (nI i))]) d_C_leadingTo_29 rfl (by decide) rfl ?_
          refine aw_iinc1 (lv' := [(3, .int (nI (i + 1))), (2, .int (nI (mk (fun u => decide (¬ (D u &&& m = 0))) (i + 1)))), (0, .ref (ad 18)), (1, .int (nI m))]) d_C_leadingTo_30 rfl (by decide) rfl ?_
          refine aw_goto (tgt := 4) d_C_leadingTo_33 (by decide) ?_
          refine aw_sub (lv' := [(0, .ref (ad 18)), (1, .int (nI m)), (2, .int (nI (mk (fun u => decide (¬ (D u &&& m = 0))) (i + 1)))), (3, .int (nI (i + 1)))]) [2, 3, 1, 0] rfl ?_
          exact ih (i + 1) (by omega) (by omega)
  refine aw_sub (lv' := [(0, .ref (ad 18)), (1, .int (nI m)), (2, .int (nI (mk (fun u => decide (¬ (D u &&& m = 0))) 0))), (3, .int (nI 0))]) [2, 3, 1, 0] rfl ?_
  exact lp (n + 1) 0 (by omega) (by omega)

set_option maxHeartbeats 4000000 in
set_option maxRecDepth 100000 in
theorem m_C_isClosedFrom {g : aw_G} (hg : aw_T g) {ws : va_W} {ad : Nat → Nat} {n q v : Nat} {M L D : Nat → Nat} {O : Nat → Int32} (hC : gC g ws ad q M L O n D) (hok : okD n D) (hv : v < n) : AMet g y_C_isClosedFrom c_C_isClosedFrom 2 (some .boolean) 2 [.ref (ad 18), .int (nI v)] ws (aw_R (.int (bI (clB D n v))) ws) 0 0 := by
  have hn := hok.1
  refine amet_of (by decide +kernel) (Nat.le_of_ble_eq_true rfl) ?_
  refine aw_sub (lv' := [(0, .ref (ad 18)), (1, .int (nI v))]) [0, 1] rfl ?_
  refine aw_aload_n d_C_isClosedFrom_0 rfl rfl ?_
  refine aw_get kc_3 5 (by decide) k_97 d_C_isClosedFrom_1 hC.1 rfl ?_
  refine aw_iload_n d_C_isClosedFrom_4 rfl rfl ?_
  refine aw_ialdA d_C_isClosedFrom_5 hC.2.2.2.2 hg (by omega) (by decide) ?_
  refine aw_aload_n d_C_isClosedFrom_6 rfl rfl ?_
  refine aw_iload_n d_C_isClosedFrom_7 rfl rfl ?_
  refine aw_callSN (av := [.int (nI v)]) (rest := [.ref (ad 18), .int (nI (D v))]) (m_W_only (ad := ad) hg (by omega)) kd_W_only k_228 k_206  d_C_isClosedFrom_8 rfl ⟨by decide, by decide⟩ (Nat.le_of_ble_eq_true rfl) ⟨by decide, by decide⟩ rfl (fun v3 ws3 hq => ?_)
  obtain ⟨rfl, rfl⟩ := hq
  refine aw_callV (av := [.int (nI (2 ^ v))]) (rest := [.int (nI (D v))]) (m_C_leadingTo hg hC hn (fun u hu => hok.lt hu)) kd_C_leadingTo k_229 k_230 ks_C_leadingTo rfl hC.1 d_C_isClosedFrom_11 rfl ⟨by decide, by decide⟩ (Nat.le_of_ble_eq_true rfl) ⟨by decide, by decide⟩ rfl (fun v4 ws4 hq => ?_)
  obtain ⟨rfl, rfl⟩ := hq
  refine aw_iconst (v := -1) d_C_isClosedFrom_14 (by decide) ?_
  refine aw_ixor d_C_isClosedFrom_15 ?_
  refine aw_iand d_C_isClosedFrom_16 ?_
  refine aw_nmi (z := nI (an (D v) (lead D n (2 ^ v)))) (an_eq _ (hok.lt hv) _ (lead_lt hok _)) ?_
  refine aw_if_neN (tgt := 24) d_C_isClosedFrom_17 (by decide) (Nat.lt_trans (an_lt _ (hok.lt hv) _ (lead_lt hok _)) (by decide)) (fun h => ?_) (fun h => ?_)
  · have e : clB D n v = false := by unfold clB; simp [h]
    refine aw_iconst (v := nI 0) d_C_isClosedFrom_24 (by decide) ?_
    exact aw_zret d_C_isClosedFrom_25 rfl (Nat.le_refl 0) (Nat.le_refl 0) ⟨by rw [e]; rfl, rfl⟩
  · have e : clB D n v = true := by unfold clB; simp [h]
    refine aw_iconst (v := nI 1) d_C_isClosedFrom_20 (by decide) ?_
    refine aw_goto (tgt := 25) d_C_isClosedFrom_21 (by decide) ?_
    exact aw_zret d_C_isClosedFrom_25 rfl (Nat.le_refl 0) (Nat.le_refl 0) ⟨by rw [e]; rfl, rfl⟩

def q_addSet (g : aw_G) (ad : Nat → Nat) (ws : va_W) (q : Nat) (M L : Nat → Nat) (O : Nat → Int32) (n : Nat) (D : Nat → Nat) (v : Nat) : Option Value → va_W → Prop := fun r ws' => r = none ∧ fr 18 23 ws ws' ∧ ∃ O' : Nat → Int32, gC g ws' ad (q + 1) (fup M q (D v)) (fup L q v) O' n D ∧ ∀ w, O' w = if w < n ∧ (D v).testBit w = true then nI q else O w

set_option maxHeartbeats 4000000 in
set_option maxRecDepth 100000 in
theorem m_C_addSet {g : aw_G} (hg : aw_T g) {ws : va_W} {ad : Nat → Nat} {n q v : Nat} {M L D : Nat → Nat} {O : Nat → Int32} (hC : gC g ws ad q M L O n D) (hn : n ≤ 5) (hq : q < 5) (hv : v < n) (hD : D v < 32) : AMet g y_C_addSet c_C_addSet 3 none 2 [.ref (ad 18), .int (nI v)] ws (q_addSet g ad ws q M L O n D v) 0 0 := by
  refine amet_of (by decide +kernel) (Nat.le_of_ble_eq_true rfl) ?_
  refine aw_sub (lv' := [(0, .ref (ad 18)), (1, .int (nI v))]) [0, 1] rfl ?_
  refine aw_aload_n d_C_addSet_0 rfl rfl ?_
  refine aw_get kc_3 0 (by decide) k_88 d_C_addSet_1 hC.1 rfl ?_
  refine aw_iconst (v := nI 5) d_C_addSet_4 (by decide) ?_
  refine aw_icmp_ltN (tgt := 9) d_C_addSet_5 (by decide) (by omega) (by omega) (fun h => ?_) (fun h => absurd h (by omega))
  refine aw_aload_n d_C_addSet_9 rfl rfl ?_
  refine aw_get kc_3 1 (by decide) k_90 d_C_addSet_10 hC.1 rfl ?_
  refine aw_aload_n d_C_addSet_13 rfl rfl ?_
  refine aw_get kc_3 0 (by decide) k_88 d_C_addSet_14 hC.1 rfl ?_
  refine aw_aload_n d_C_addSet_17 rfl rfl ?_
  refine aw_get kc_3 5 (by decide) k_97 d_C_addSet_18 hC.1 rfl ?_
  refine aw_iload_n d_C_addSet_21 rfl rfl ?_
  refine aw_ialdA d_C_addSet_22 hC.2.2.2.2 hg (by omega) (by decide) ?_
  refine aw_iastA d_C_addSet_23 hC.2.1 hg (by omega) (by decide) (fun ws1 a2 b3 c4 => ?_)
  have hC2 := hC.putM a2 b3
  have f2 := fr.one (lo := 18) (hi := 23) b3 c4 (by omega) (by omega)
  refine aw_aload_n d_C_addSet_24 rfl rfl ?_
  refine aw_get kc_3 2 (by decide) k_92 d_C_addSet_25 ((b3 18 (by omega)).trans hC.1) rfl ?_
  refine aw_aload_n d_C_addSet_28 rfl rfl ?_
  refine aw_get kc_3 0 (by decide) k_88 d_C_addSet_29 ((b3 18 (by omega)).trans hC.1) rfl ?_
  refine aw_iload_n d_C_addSet_32 rfl rfl ?_
  refine aw_iastA d_C_addSet_33 ((b3 20 (by omega)).trans hC.2.2.1) hg (by omega) (by decide) (fun ws5 a6 b7 c8 => ?_)
  have hC3 := hC2.putL a6 b7
  have f3 := fr.one (lo := 18) (hi := 23) b7 c8 (by omega) (by omega)
  refine aw_iconst (v := nI 0) d_C_addSet_34 (by decide) ?_
  refine aw_istore_n (lv' := [(2, .int (nI 0)), (0, .ref (ad 18)), (1, .int (nI v))]) d_C_addSet_35 rfl (by decide) rfl ?_
  have lp : ∀ (k : Nat) (ws1 : va_W) (O1 : Nat → Int32) (i : Nat), gC g ws1 ad q (fup M q (D v)) (fup L q v) O1 n D → fr 18 23 ws ws1 → i ≤ n → (∀ w, O1 w = if w < i ∧ (D v).testBit w = true then nI q else O w) → n - i < k → AW g y_C_addSet c_C_addSet 3 none (aw_rm 2 0 0) aw_E0 (aw_F g (q_addSet g ad ws q M L O n D v) 0 0) 0 0 36 [(0, .ref (ad 18)), (1, .int (nI v)), (2, .int (nI i))] [] ws1 := by
    intro k
    induction k with
    | zero => intro ws1 O1 i hC1 hf hi hO hk; omega
    | succ k ih =>
      intro ws1 O1 i hC1 hf hi hO hk
      refine aw_iload_n d_C_addSet_36 rfl rfl ?_
      refine aw_aload_n d_C_addSet_37 rfl rfl ?_
      refine aw_get kc_3 4 (by decide) k_96 d_C_addSet_38 hC1.1 rfl ?_
      refine aw_icmp_geN (tgt := 73) d_C_addSet_41 (by decide) (by omega) (by omega) (fun h => ?_) (fun h => ?_)
      · have e : n = i := by omega
        subst e
        refine aw_aload_n d_C_addSet_73 rfl rfl ?_
        refine aw_dup d_C_addSet_74 rfl ?_
        refine aw_get kc_3 0 (by decide) k_88 d_C_addSet_75 hC1.1 rfl ?_
        refine aw_iconst (v := nI 1) d_C_addSet_78 (by decide) ?_
        refine aw_iaddN d_C_addSet_79 ?_
        refine aw_putN kc_3 0 (by decide) k_88 d_C_addSet_80 hC1.1 rfl rfl rfl (Nat.le_of_ble_eq_true rfl) (fun ws9 a10 b11 c12 => ?_)
        have f13 : ws9[18]? = some (ad 18, .inr (3, [.int (nI (q + 1)), .ref (ad 19), .ref (ad 20), .ref (ad 21), .int (nI n), .ref (ad 22)])) := a10
        have hC4 := hC1.putO (q' := q + 1) (n' := n) a10 b11
        have f4 := fr.one (lo := 18) (hi := 23) b11 c12 (by omega) (by omega)
        exact aw_vret d_C_addSet_83 (Nat.le_refl 0) (Nat.le_refl 0) ⟨rfl, hf.tr f4, O1, hC4, hO⟩
      · refine aw_aload_n d_C_addSet_44 rfl rfl ?_
        refine aw_get kc_3 5 (by decide) k_97 d_C_addSet_45 hC1.1 rfl ?_
        refine aw_iload_n d_C_addSet_48 rfl rfl ?_
        refine aw_ialdA d_C_addSet_49 hC1.2.2.2.2 hg (by omega) (by decide) ?_
        refine aw_iload_n d_C_addSet_50 rfl rfl ?_
        refine aw_callSN (av := [.int (nI (D v)), .int (nI i)]) (rest := []) (m_W_has (ad := ad) hg hD (by omega)) kd_W_has k_237 k_221  d_C_addSet_51 rfl ⟨by decide, by decide⟩ (Nat.le_of_ble_eq_true rfl) ⟨by decide, by decide⟩ rfl (fun v3 ws3 hq3 => ?_)
        obtain ⟨rfl, rfl⟩ := hq3
        refine aw_if_eqB (tgt := 67) d_C_addSet_54 (by decide) (fun h2 => ?_) (fun h2 => ?_)
        · refine aw_iinc1 (lv' := [(2, .int (nI (i + 1))), (0, .ref (ad 18)), (1, .int (nI v))]) d_C_addSet_67 rfl (by decide) rfl ?_
          refine aw_goto (tgt := 36) d_C_addSet_70 (by decide) ?_
          refine aw_sub (lv' := [(0, .ref (ad 18)), (1, .int (nI v)), (2, .int (nI (i + 1)))]) [1, 2, 0] rfl ?_
          exact ih _ O1 (i + 1) hC1 hf (by omega) (fun w => by rw [hO w]; by_cases e : w = i; (subst e; rw [if_neg (by omega), if_neg (fun z => by rw [h2] at z; cases z.2)]); exact ite_iff (by constructor <;> (intro z; exact ⟨by omega, z.2⟩))) (by omega)
        · refine aw_aload_n d_C_addSet_57 rfl rfl ?_
          refine aw_get kc_3 3 (by decide) k_94 d_C_addSet_58 hC1.1 rfl ?_
          refine aw_iload_n d_C_addSet_61 rfl rfl ?_
          refine aw_aload_n d_C_addSet_62 rfl rfl ?_
          refine aw_get kc_3 0 (by decide) k_88 d_C_addSet_63 hC1.1 rfl ?_
          refine aw_iastR d_C_addSet_66 hC1.2.2.2.1 hg (by omega) (by decide) (fun ws14 a15 b16 c17 => ?_)
          have hC4 := hC1.putS a15 b16
          have f4 := fr.one (lo := 18) (hi := 23) b16 c17 (by omega) (by omega)
          refine aw_iinc1 (lv' := [(2, .int (nI (i + 1))), (0, .ref (ad 18)), (1, .int (nI v))]) d_C_addSet_67 rfl (by decide) rfl ?_
          refine aw_goto (tgt := 36) d_C_addSet_70 (by decide) ?_
          refine aw_sub (lv' := [(0, .ref (ad 18)), (1, .int (nI v)), (2, .int (nI (i + 1)))]) [1, 2, 0] rfl ?_
          exact ih _ _ (i + 1) hC4 (hf.tr f4) (by omega) (fun w => by unfold fup; by_cases e : w = i; (subst e; rw [if_pos rfl, if_pos ⟨by omega, h2⟩]); rw [if_neg e, hO w]; exact ite_iff (by constructor <;> (intro z; exact ⟨by omega, z.2⟩))) (by omega)
  refine aw_sub (lv' := [(0, .ref (ad 18)), (1, .int (nI v)), (2, .int (nI 0))]) [1, 2, 0] rfl ?_
  exact lp (n + 1) _ O 0 hC3 (f2.tr f3) (by omega) (fun w => by rw [if_neg (by omega)]) (by omega)

def q_renewC (g : aw_G) (ad : Nat → Nat) (ws : va_W) (n : Nat) (X : Nat → Nat) : Option Value → va_W → Prop := fun r ws' => r = none ∧ fr 18 23 ws ws' ∧ ∃ (q : Nat) (M L D : Nat → Nat) (O : Nat → Int32), gC g ws' ad q M L O n D ∧ (∀ u, u < n → D u = Dm X n u) ∧ IC n D n q M L O

set_option maxHeartbeats 4000000 in
set_option maxRecDepth 100000 in
theorem m_C_renew {g : aw_G} (hg : aw_T g) {ws : va_W} {ad : Nat → Nat} {n q0 n0 : Nat} {P : Nat → Nat → Nat} {T X M0 L0 D0 : Nat → Nat} {O0 : Nat → Int32} (hC : gC g ws ad q0 M0 L0 O0 n0 D0) (hS : gS g ws ad n P T X) (hX : okX n X) : AMet g y_C_renew c_C_renew 3 none 4 [.ref (ad 18), .ref (ad 9)] ws (q_renewC g ad ws n X) 0 0 := by
  have hn := hX.1
  refine amet_of (by decide +kernel) (Nat.le_of_ble_eq_true rfl) ?_
  refine aw_sub (lv' := [(0, .ref (ad 18)), (1, .ref (ad 9))]) [0, 1] rfl ?_
  have lq : ∀ (k : Nat) (ws1 : va_W) (q : Nat) (M L D : Nat → Nat) (O : Nat → Int32) (v : Nat), gC g ws1 ad q M L O n D → gS g ws1 ad n P T X → fr 18 23 ws ws1 → (∀ u, u < n → D u = Dm X n u) → IC n D v q M L O → v ≤ n → n - v < k → AW g y_C_renew c_C_renew 3 none (aw_rm 4 0 0) aw_E0 (aw_F g (q_renewC g ad ws n X) 0 0) 0 0 51 [(0, .ref (ad 18)), (1, .ref (ad 9)), (2, .int (nI v))] [] ws1 := by
    intro k
    induction k with
    | zero => intro ws1 q M L D O v hC1 hS1 hf hD hI hv hk; omega
    | succ k ih =>
      intro ws1 q M L D O v hC1 hS1 hf hD hI hv hk
      have hok := okD_of hX hD
      refine aw_iload_n d_C_renew_51 rfl rfl ?_
      refine aw_aload_n d_C_renew_52 rfl rfl ?_
      refine aw_get kc_3 4 (by decide) k_96 d_C_renew_53 hC1.1 rfl ?_
      refine aw_icmp_geN (tgt := 89) d_C_renew_56 (by decide) (by omega) (by omega) (fun h => ?_) (fun h => ?_)
      · have e : v = n := by omega
        subst e
        exact aw_vret d_C_renew_89 (Nat.le_refl 0) (Nat.le_refl 0) ⟨rfl, hf, q, M, L, D, O, hC1, hD, hI⟩
      · have ht := IC_test hok h hI
        refine aw_aload_n d_C_renew_59 rfl rfl ?_
        refine aw_get kc_3 3 (by decide) k_94 d_C_renew_60 hC1.1 rfl ?_
        refine aw_iload_n d_C_renew_63 rfl rfl ?_
        refine aw_ialdR d_C_renew_64 hC1.2.2.2.1 hg (by omega) (by decide) ?_
        refine aw_bipush (v := -3) d_C_renew_65 (by decide) ?_
        refine aw_icmp_ne (tgt := 83) d_C_renew_67 (by decide) (fun h2 => ?_) (fun h2 => ?_)
        · have hl : ldB D n v = false := by cases z : ldB D n v with | false => rfl | true => exact absurd (ht.mpr z).1 h2
          refine aw_iinc1 (lv' := [(2, .int (nI (v + 1))), (0, .ref (ad 18)), (1, .ref (ad 9))]) d_C_renew_83 rfl (by decide) rfl ?_
          refine aw_goto (tgt := 51) d_C_renew_86 (by decide) ?_
          refine aw_sub (lv' := [(0, .ref (ad 18)), (1, .ref (ad 9)), (2, .int (nI (v + 1)))]) [1, 2, 0] rfl ?_
          exact ih _ _ _ _ _ _ (v + 1) hC1 hS1 hf hD (IC_no hI hl) (by omega) (by omega)
        · refine aw_aload_n d_C_renew_70 rfl rfl ?_
          refine aw_iload_n d_C_renew_71 rfl rfl ?_
          refine aw_callV (av := [.int (nI v)]) (rest := []) (m_C_isClosedFrom hg hC1 hok h) kd_C_isClosedFrom k_224 k_226 ks_C_isClosedFrom rfl hC1.1 d_C_renew_72 rfl ⟨by decide, by decide⟩ (Nat.le_of_ble_eq_true rfl) ⟨by decide, by decide⟩ rfl (fun v3 ws3 hq3 => ?_)
          obtain ⟨rfl, rfl⟩ := hq3
          refine aw_if_eqB (tgt := 83) d_C_renew_75 (by decide) (fun h3 => ?_) (fun h3 => ?_)
          · have hl : ldB D n v = false := by cases z : ldB D n v with | false => rfl | true => exact absurd ((ht.mpr z).2) (by rw [h3]; decide)
            refine aw_iinc1 (lv' := [(2, .int (nI (v + 1))), (0, .ref (ad 18)), (1, .ref (ad 9))]) d_C_renew_83 rfl (by decide) rfl ?_
            refine aw_goto (tgt := 51) d_C_renew_86 (by decide) ?_
            refine aw_sub (lv' := [(0, .ref (ad 18)), (1, .ref (ad 9)), (2, .int (nI (v + 1)))]) [1, 2, 0] rfl ?_
            exact ih _ _ _ _ _ _ (v + 1) hC1 hS1 hf hD (IC_no hI hl) (by omega) (by omega)
          · have hl := ht.mp ⟨h2, h3⟩
            have hq5 : q < 5 := by have := cntB_le (ldB D n) v; have := hI.1; omega
            refine aw_aload_n d_C_renew_78 rfl rfl ?_
            refine aw_iload_n d_C_renew_79 rfl rfl ?_
            refine aw_callV (av := [.int (nI v)]) (rest := []) (m_C_addSet hg hC1 hn hq5 h (hok.lt h)) kd_C_addSet k_233 k_235 ks_C_addSet rfl hC1.1 d_C_renew_80 rfl ⟨by decide, by decide⟩ (Nat.le_of_ble_eq_true rfl) ⟨by decide, by decide⟩ rfl (fun v4 ws4 hq4 => ?_)
            obtain ⟨rfl, f4, O4, hC4, hO4⟩ := hq4
            have hS4 := hS1.kept f4 (by omega)
            refine aw_iinc1 (lv' := [(2, .int (nI (v + 1))), (0, .ref (ad 18)), (1, .ref (ad 9))]) d_C_renew_83 rfl (by decide) rfl ?_
            refine aw_goto (tgt := 51) d_C_renew_86 (by decide) ?_
            refine aw_sub (lv' := [(0, .ref (ad 18)), (1, .ref (ad 9)), (2, .int (nI (v + 1)))]) [1, 2, 0] rfl ?_
            exact ih _ _ _ _ _ _ (v + 1) hC4 hS4 (hf.tr f4) hD (IC_add hok h hI hl hO4) (by omega) (by omega)
  have lp : ∀ (k : Nat) (ws1 : va_W) (D : Nat → Nat) (O : Nat → Int32) (v : Nat), gC g ws1 ad 0 M0 L0 O n D → gS g ws1 ad n P T X → fr 18 23 ws ws1 → (∀ u, u < v → D u = Dm X n u) → (∀ u, u < v → O u = -3) → v ≤ n → n - v < k → AW g y_C_renew c_C_renew 3 none (aw_rm 4 0 0) aw_E0 (aw_F g (q_renewC g ad ws n X) 0 0) 0 0 15 [(0, .ref (ad 18)), (1, .ref (ad 9)), (2, .int (nI v))] [] ws1 := by
    intro k
    induction k with
    | zero => intro ws1 D O v hC1 hS1 hf hD hO hv hk; omega
    | succ k ih =>
      intro ws1 D O v hC1 hS1 hf hD hO hv hk
      refine aw_iload_n d_C_renew_15 rfl rfl ?_
      refine aw_aload_n d_C_renew_16 rfl rfl ?_
      refine aw_get kc_3 4 (by decide) k_96 d_C_renew_17 hC1.1 rfl ?_
      refine aw_icmp_geN (tgt := 49) d_C_renew_20 (by decide) (by omega) (by omega) (fun h => ?_) (fun h => ?_)
      · have e : v = n := by omega
        subst e
        refine aw_iconst (v := nI 0) d_C_renew_49 (by decide) ?_
        refine aw_istore_n (lv' := [(2, .int (nI 0)), (0, .ref (ad 18)), (1, .ref (ad 9))]) d_C_renew_50 rfl (by decide) rfl ?_
        refine aw_sub (lv' := [(0, .ref (ad 18)), (1, .ref (ad 9)), (2, .int (nI 0))]) [1, 2, 0] rfl ?_
        exact lq (v + 1) _ _ _ _ _ _ 0 hC1 hS1 hf hD (IC_0 hO) (by omega) (by omega)
      · refine aw_aload_n d_C_renew_23 rfl rfl ?_
        refine aw_get kc_3 5 (by decide) k_97 d_C_renew_24 hC1.1 rfl ?_
        refine aw_iload_n d_C_renew_27 rfl rfl ?_
        refine aw_aload_n d_C_renew_28 rfl rfl ?_
        refine aw_iload_n d_C_renew_29 rfl rfl ?_
        refine aw_iconst (v := nI 0) d_C_renew_30 (by decide) ?_
        refine aw_callV (av := [.int (nI v), .int (nI 0)]) (rest := [.int (nI v), .ref (ad 22)]) (m_S_nodesBehind hg hS1 hn (by omega) hX.lt (by decide)) kd_S_nodesBehind k_212 k_213 ks_S_nodesBehind rfl hS1.1 d_C_renew_31 rfl ⟨by decide, by decide⟩ (Nat.le_of_ble_eq_true rfl) ⟨by decide, by decide⟩ rfl (fun v3 ws3 hq3 => ?_)
        obtain ⟨rfl, rfl⟩ := hq3
        refine aw_iastA d_C_renew_34 hC1.2.2.2.2 hg (by omega) (by decide) (fun ws1 a2 b3 c4 => ?_)
        have hC2 := hC1.putD a2 b3
        have f2 := fr.one (lo := 18) (hi := 23) b3 c4 (by omega) (by omega)
        refine aw_aload_n d_C_renew_35 rfl rfl ?_
        refine aw_get kc_3 3 (by decide) k_94 d_C_renew_36 ((b3 18 (by omega)).trans hC1.1) rfl ?_
        refine aw_iload_n d_C_renew_39 rfl rfl ?_
        refine aw_bipush (v := -3) d_C_renew_40 (by decide) ?_
        refine aw_iastR d_C_renew_42 ((b3 21 (by omega)).trans hC1.2.2.2.1) hg (by omega) (by decide) (fun ws5 a6 b7 c8 => ?_)
        have hC3 := hC2.putS a6 b7
        have f3 := fr.one (lo := 18) (hi := 23) b7 c8 (by omega) (by omega)
        have hS3 := (hS1.kept f2 (by omega)).kept f3 (by omega)
        refine aw_iinc1 (lv' := [(2, .int (nI (v + 1))), (0, .ref (ad 18)), (1, .ref (ad 9))]) d_C_renew_43 rfl (by decide) rfl ?_
        refine aw_goto (tgt := 15) d_C_renew_46 (by decide) ?_
        refine aw_sub (lv' := [(0, .ref (ad 18)), (1, .ref (ad 9)), (2, .int (nI (v + 1)))]) [1, 2, 0] rfl ?_
        exact ih _ _ _ (v + 1) hC3 hS3 ((hf.tr f2).tr f3) (fun u hu => by
          by_cases e : u = v
          · subst e; rw [fup_s]; rfl
          · rw [fup_n e]; exact hD u (by omega)) (fun u hu => by
          by_cases e : u = v
          · subst e; rw [fup_s]
          · rw [fup_n e]; exact hO u (by omega)) (by omega) (by omega)
  refine aw_aload_n d_C_renew_0 rfl rfl ?_
  refine aw_aload_n d_C_renew_1 rfl rfl ?_
  refine aw_get kc_2 0 (by decide) k_61 d_C_renew_2 hS.1 rfl ?_
  refine aw_putN kc_3 4 (by decide) k_96 d_C_renew_5 hC.1 rfl rfl rfl (Nat.le_of_ble_eq_true rfl) (fun ws9 a10 b11 c12 => ?_)
  have f13 : ws9[18]? = some (ad 18, .inr (3, [.int (nI q0), .ref (ad 19), .ref (ad 20), .ref (ad 21), .int (nI n), .ref (ad 22)])) := a10
  have hC2 := hC.putO (q' := q0) (n' := n) a10 b11
  have f2 := fr.one (lo := 18) (hi := 23) b11 c12 (by omega) (by omega)
  refine aw_aload_n d_C_renew_8 rfl rfl ?_
  refine aw_iconst (v := nI 0) d_C_renew_9 (by decide) ?_
  refine aw_putN kc_3 0 (by decide) k_88 d_C_renew_10 f13 rfl rfl rfl (Nat.le_of_ble_eq_true rfl) (fun ws14 a15 b16 c17 => ?_)
  have f18 : ws14[18]? = some (ad 18, .inr (3, [.int (nI 0), .ref (ad 19), .ref (ad 20), .ref (ad 21), .int (nI n), .ref (ad 22)])) := a15
  have hC3 := hC2.putO (q' := 0) (n' := n) a15 b16
  have f3 := fr.one (lo := 18) (hi := 23) b16 c17 (by omega) (by omega)
  have hS3 := (hS.kept f2 (by omega)).kept f3 (by omega)
  refine aw_iconst (v := nI 0) d_C_renew_13 (by decide) ?_
  refine aw_istore_n (lv' := [(2, .int (nI 0)), (0, .ref (ad 18)), (1, .ref (ad 9))]) d_C_renew_14 rfl (by decide) rfl ?_
  refine aw_sub (lv' := [(0, .ref (ad 18)), (1, .ref (ad 9)), (2, .int (nI 0))]) [1, 2, 0] rfl ?_
  exact lp (n + 1) _ _ _ 0 hC3 hS3 (f2.tr f3) (fun u hu => absurd hu (by omega)) (fun u hu => absurd hu (by omega)) (by omega) (by omega)
end
section
-- determinants as the class expands them
def eqZ (P : Nat → Nat → Nat) (T : Nat → Nat) (U : Nat) (u v : Nat) : Int := (if u = v then (if (U.testBit u && U.testBit v) = true then (T u : Int) else 1) else 0) - (if (U.testBit u && U.testBit v) = true then (P u v : Int) else 0)
/-- steps from u right into the goal -/
def gsum (P : Nat → Nat → Nat) (G u n : Nat) : Nat := sN (fun v => if G.testBit v = true then P u v else 0) n
def sg (used : Nat) : Nat → Int
  | 0 => 1
  | c + 1 => if used.testBit c = true then sg used c else - sg used c
def exD (Z : Nat → Nat → Int) (n : Nat) : Nat → Nat → Nat → Int
  | 0, _, _ => 1
  | k + 1, line, used => sZ (fun c => if used.testBit c = true then 0 else sg used c * Z line c * exD Z n k (line + 1) (used ||| 2 ^ c)) n
theorem exD_congr {Z Y : Nat → Nat → Int} {n : Nat} : ∀ (k line used : Nat), line + k ≤ n → (∀ i j, i < n → j < n → Z i j = Y i j) → exD Z n k line used = exD Y n k line used
  | 0, _, _, _, _ => rfl
  | k + 1, line, used, h, e => by
    rw [exD, exD]
    refine sZ_congr (fun c hc => ?_)
    rw [e line c (by omega) hc, exD_congr k (line + 1) (used ||| 2 ^ c) (by omega) e]
/-- rows of numbers, one step on -/
def mv (Z : Nat → Nat → Int) (n : Nat) (A : Nat → Int) : Nat → Int := fun v => sZ (fun u => A u * Z u v) n
def itM (Z : Nat → Nat → Int) (n : Nat) (A : Nat → Int) : Nat → (Nat → Int)
  | 0 => A
  | k + 1 => mv Z n (itM Z n A k)
theorem mv_congr {Z : Nat → Nat → Int} {n : Nat} {A B : Nat → Int} (h : ∀ u, u < n → A u = B u) (v : Nat) : mv Z n A v = mv Z n B v := sZ_congr (fun u hu => by rw [h u hu])
end
section
-- laid by wip/whole/m6.py
def q_eq (g : aw_G) (ad : Nat → Nat) (ws : va_W) (n : Nat) (f : Nat → Nat → Int) : Option Value → va_W → Prop := fun r ws' => r = none ∧ fr 23 30 ws ws' ∧ ∃ Z : Nat → Nat → Int, gE g ws' ad n Z ∧ ∀ i j, i < n → j < n → Z i j = f i j

set_option maxHeartbeats 4000000 in
set_option maxRecDepth 100000 in
theorem m_E_fill {g : aw_G} (hg : aw_T g) {ws : va_W} {ad : Nat → Nat} {n n0 U : Nat} {P : Nat → Nat → Nat} {T X : Nat → Nat} {Z0 : Nat → Nat → Int} (hE : gE g ws ad n0 Z0) (hS : gS g ws ad n P T X) (hn : n ≤ 5) (hU : U < 32) (hb : ∀ i j, i < n → j < n → P i j ≤ 400 ∧ T i ≤ 400) : AMet g y_E_fill c_E_fill 10 none 2 [.ref (ad 23), .ref (ad 9), .int (nI U)] ws (q_eq g ad ws n (eqZ P T U)) 0 0 := by
  refine amet_of (by decide +kernel) (Nat.le_of_ble_eq_true rfl) ?_
  refine aw_sub (lv' := [(0, .ref (ad 23)), (1, .ref (ad 9)), (2, .int (nI U))]) [0, 1, 2] rfl ?_
  have lp : ∀ (k : Nat) (ws1 : va_W) (Z : Nat → Nat → Int) (u : Nat), gE g ws1 ad n Z → gS g ws1 ad n P T X → fr 23 30 ws ws1 → u ≤ n → (∀ i j, i < u → j < n → Z i j = eqZ P T U i j) → n - u < k → AW g y_E_fill c_E_fill 10 none (aw_rm 2 0 0) aw_E0 (aw_F g (q_eq g ad ws n (eqZ P T U)) 0 0) 0 0 10 [(0, .ref (ad 23)), (1, .ref (ad 9)), (2, .int (nI U)), (3, .int (nI u))] [] ws1 := by
    intro k
    induction k with
    | zero => intro ws1 Z u hE1 hS1 hf hu hr hk; omega
    | succ k ih =>
      intro ws1 Z u hE1 hS1 hf hu hr hk
      have ihu := ih
      refine aw_iload_n d_E_fill_10 rfl rfl ?_
      refine aw_aload_n d_E_fill_11 rfl rfl ?_
      refine aw_get kc_4 0 (by decide) k_119 d_E_fill_12 hE1.1 rfl ?_
      refine aw_icmp_geN (tgt := 129) d_E_fill_15 (by decide) (by omega) (by omega) (fun h => ?_) (fun h => ?_)
      · have e : n = u := by omega
        subst e
        exact aw_vret d_E_fill_129 (Nat.le_refl 0) (Nat.le_refl 0) ⟨rfl, hf, Z, hE1, hr⟩
      · refine aw_iconst (v := nI 0) d_E_fill_18 (by decide) ?_
        refine aw_istore (lv' := [(4, .int (nI 0)), (0, .ref (ad 23)), (1, .ref (ad 9)), (2, .int (nI U)), (3, .int (nI u))]) d_E_fill_19 (by decide) rfl ?_
        have lq : ∀ (k : Nat) (ws2 : va_W) (Y : Nat → Nat → Int) (v : Nat), gE g ws2 ad n Y → gS g ws2 ad n P T X → fr 23 30 ws ws2 → v ≤ n → (∀ i j, (i < u ∧ j < n) ∨ (i = u ∧ j < v) → Y i j = eqZ P T U i j) → n - v < k → AW g y_E_fill c_E_fill 10 none (aw_rm 2 0 0) aw_E0 (aw_F g (q_eq g ad ws n (eqZ P T U)) 0 0) 0 0 21 [(0, .ref (ad 23)), (1, .ref (ad 9)), (2, .int (nI U)), (3, .int (nI u)), (4, .int (nI v))] [] ws2 := by
          intro k
          induction k with
          | zero => intro ws2 Y v hE2 hS2 hf2 hv hr2 hk2; omega
          | succ k ih =>
            intro ws2 Y v hE2 hS2 hf2 hv hr2 hk2
            refine aw_iload d_E_fill_21 rfl ?_
            refine aw_aload_n d_E_fill_23 rfl rfl ?_
            refine aw_get kc_4 0 (by decide) k_119 d_E_fill_24 hE2.1 rfl ?_
            refine aw_icmp_geN (tgt := 123) d_E_fill_27 (by decide) (by omega) (by omega) (fun h1 => ?_) (fun h1 => ?_)
            · refine aw_iinc1 (lv' := [(3, .int (nI (u + 1))), (0, .ref (ad 23)), (1, .ref (ad 9)), (2, .int (nI U)), (4, .int (nI v))]) d_E_fill_123 rfl (by decide) rfl ?_
              refine aw_goto (tgt := 10) d_E_fill_126 (by decide) ?_
              refine aw_sub (lv' := [(0, .ref (ad 23)), (1, .ref (ad 9)), (2, .int (nI U)), (3, .int (nI (u + 1)))]) [1, 2, 3, 0] rfl ?_
              exact ihu ws2 Y (u + 1) hE2 hS2 hf2 (by omega) (fun i j hi hj => hr2 i j (by omega)) (by omega)
            · have hb1 := hb u v h h1
              refine aw_iload_n d_E_fill_30 rfl rfl ?_
              refine aw_iload_n d_E_fill_31 rfl rfl ?_
              refine aw_callSN (av := [.int (nI U), .int (nI u)]) (rest := []) (m_W_has (ad := ad) hg hU (by omega)) kd_W_has k_305 k_221  d_E_fill_32 rfl ⟨by decide, by decide⟩ (Nat.le_of_ble_eq_true rfl) ⟨by decide, by decide⟩ rfl (fun v3 ws3 hq3 => ?_)
              obtain ⟨rfl, rfl⟩ := hq3
              refine aw_if_eqB (tgt := 51) d_E_fill_35 (by decide) (fun h2 => ?_) (fun h2 => ?_)
              · refine aw_iconst (v := nI 0) d_E_fill_51 (by decide) ?_
                refine aw_istore (lv' := [(5, .int (nI 0)), (0, .ref (ad 23)), (1, .ref (ad 9)), (2, .int (nI U)), (3, .int (nI u)), (4, .int (nI v))]) d_E_fill_52 (by decide) rfl ?_
                refine aw_iload d_E_fill_54 rfl ?_
                refine aw_if_eqN (tgt := 69) d_E_fill_56 (by decide) (by omega) (fun hx => ?_) (fun hx => absurd hx (by omega))
                refine aw_lconst (v := lI 1) d_E_fill_69 (by decide) ?_
                refine aw_lstore (lv' := [(6, .long (lI 1)), (5, .int (nI 0)), (0, .ref (ad 23)), (1, .ref (ad 9)), (2, .int (nI U)), (3, .int (nI u)), (4, .int (nI v))]) d_E_fill_70 (by decide) rfl ?_
                refine aw_iload d_E_fill_72 rfl ?_
                refine aw_if_eqN (tgt := 90) d_E_fill_74 (by decide) (by omega) (fun hx => ?_) (fun hx => absurd hx (by omega))
                refine aw_lconst (v := lI 0) d_E_fill_90 (by decide) ?_
                refine aw_lstore (lv' := [(8, .long (lI 0)), (6, .long (lI 1)), (5, .int (nI 0)), (0, .ref (ad 23)), (1, .ref (ad 9)), (2, .int (nI U)), (3, .int (nI u)), (4, .int (nI v))]) d_E_fill_91 (by decide) rfl ?_
                refine aw_aload_n d_E_fill_93 rfl rfl ?_
                refine aw_get kc_4 1 (by decide) k_120 d_E_fill_94 hE2.1 rfl ?_
                refine aw_iload_n d_E_fill_97 rfl rfl ?_
                refine aw_aaldL d_E_fill_98 hE2.2.1 hg (by omega) ?_
                refine aw_iload d_E_fill_99 rfl ?_
                refine aw_iload_n d_E_fill_101 rfl rfl ?_
                refine aw_iload d_E_fill_102 rfl ?_
                refine aw_icmp_neN (tgt := 112) d_E_fill_104 (by decide) (by omega) (by omega) (fun h4 => ?_) (fun h4 => ?_)
                · refine aw_lconst (v := lI 0) d_E_fill_112 (by decide) ?_
                  refine aw_lload d_E_fill_113 rfl ?_
                  refine aw_lsubI d_E_fill_115 ?_
                  refine aw_lastA d_E_fill_116 (hE2.2.2 u (by omega)) hg (by omega) (by decide) (fun zws1 za2 zb3 zc4 => ?_)
                  have zF5 := fam_putL (lo := 25) hE2.2.2 za2 zb3
                  have hE3 := hE2.putZ (by omega) za2 zb3
                  have f3 := fr.one (lo := 23) (hi := 30) zb3 zc4 (by omega) (by omega)
                  have hS3 := hS2.kept f3 (by omega)
                  refine aw_iinc1 (lv' := [(4, .int (nI (v + 1))), (8, .long (lI 0)), (6, .long (lI 1)), (5, .int (nI 0)), (0, .ref (ad 23)), (1, .ref (ad 9)), (2, .int (nI U)), (3, .int (nI u))]) d_E_fill_117 rfl (by decide) rfl ?_
                  refine aw_goto (tgt := 21) d_E_fill_120 (by decide) ?_
                  refine aw_sub (lv' := [(0, .ref (ad 23)), (1, .ref (ad 9)), (2, .int (nI U)), (3, .int (nI u)), (4, .int (nI (v + 1)))]) [4, 5, 6, 7, 0] rfl ?_
                  exact ih _ _ (v + 1) hE3 hS3 (hf2.tr f3) (by omega) (fun i j hij => by
              unfold fup2
              by_cases e : i = u ∧ j = v
              · rw [if_pos e, e.1, e.2]; simp [eqZ, h4, h2]
              · rw [if_neg e]; exact hr2 i j (by omega)) (by omega)
                · refine aw_lload d_E_fill_107 rfl ?_
                  refine aw_goto (tgt := 113) d_E_fill_109 (by decide) ?_
                  refine aw_lload d_E_fill_113 rfl ?_
                  refine aw_lsubI d_E_fill_115 ?_
                  refine aw_lastA d_E_fill_116 (hE2.2.2 u (by omega)) hg (by omega) (by decide) (fun zws6 za7 zb8 zc9 => ?_)
                  have zF10 := fam_putL (lo := 25) hE2.2.2 za7 zb8
                  have hE3 := hE2.putZ (by omega) za7 zb8
                  have f3 := fr.one (lo := 23) (hi := 30) zb8 zc9 (by omega) (by omega)
                  have hS3 := hS2.kept f3 (by omega)
                  refine aw_iinc1 (lv' := [(4, .int (nI (v + 1))), (8, .long (lI 0)), (6, .long (lI 1)), (5, .int (nI 0)), (0, .ref (ad 23)), (1, .ref (ad 9)), (2, .int (nI U)), (3, .int (nI u))]) d_E_fill_117 rfl (by decide) rfl ?_
                  refine aw_goto (tgt := 21) d_E_fill_120 (by decide) ?_
                  refine aw_sub (lv' := [(0, .ref (ad 23)), (1, .ref (ad 9)), (2, .int (nI U)), (3, .int (nI u)), (4, .int (nI (v + 1)))]) [4, 5, 6, 7, 0] rfl ?_
                  exact ih _ _ (v + 1) hE3 hS3 (hf2.tr f3) (by omega) (fun i j hij => by
              unfold fup2
              by_cases e : i = u ∧ j = v
              · rw [if_pos e, e.1, e.2]; subst h4; simp [eqZ, h2]
              · rw [if_neg e]; exact hr2 i j (by omega)) (by omega)
              · refine aw_iload_n d_E_fill_38 rfl rfl ?_
                refine aw_iload d_E_fill_39 rfl ?_
                refine aw_callSN (av := [.int (nI U), .int (nI v)]) (rest := []) (m_W_has (ad := ad) hg hU (by omega)) kd_W_has k_305 k_221  d_E_fill_41 rfl ⟨by decide, by decide⟩ (Nat.le_of_ble_eq_true rfl) ⟨by decide, by decide⟩ rfl (fun v3 ws3 hq3 => ?_)
                obtain ⟨rfl, rfl⟩ := hq3
                refine aw_if_eqB (tgt := 51) d_E_fill_44 (by decide) (fun h3 => ?_) (fun h3 => ?_)
                · refine aw_iconst (v := nI 0) d_E_fill_51 (by decide) ?_
                  refine aw_istore (lv' := [(5, .int (nI 0)), (0, .ref (ad 23)), (1, .ref (ad 9)), (2, .int (nI U)), (3, .int (nI u)), (4, .int (nI v))]) d_E_fill_52 (by decide) rfl ?_
                  refine aw_iload d_E_fill_54 rfl ?_
                  refine aw_if_eqN (tgt := 69) d_E_fill_56 (by decide) (by omega) (fun hx => ?_) (fun hx => absurd hx (by omega))
                  refine aw_lconst (v := lI 1) d_E_fill_69 (by decide) ?_
                  refine aw_lstore (lv' := [(6, .long (lI 1)), (5, .int (nI 0)), (0, .ref (ad 23)), (1, .ref (ad 9)), (2, .int (nI U)), (3, .int (nI u)), (4, .int (nI v))]) d_E_fill_70 (by decide) rfl ?_
                  refine aw_iload d_E_fill_72 rfl ?_
                  refine aw_if_eqN (tgt := 90) d_E_fill_74 (by decide) (by omega) (fun hx => ?_) (fun hx => absurd hx (by omega))
                  refine aw_lconst (v := lI 0) d_E_fill_90 (by decide) ?_
                  refine aw_lstore (lv' := [(8, .long (lI 0)), (6, .long (lI 1)), (5, .int (nI 0)), (0, .ref (ad 23)), (1, .ref (ad 9)), (2, .int (nI U)), (3, .int (nI u)), (4, .int (nI v))]) d_E_fill_91 (by decide) rfl ?_
                  refine aw_aload_n d_E_fill_93 rfl rfl ?_
                  refine aw_get kc_4 1 (by decide) k_120 d_E_fill_94 hE2.1 rfl ?_
                  refine aw_iload_n d_E_fill_97 rfl rfl ?_
                  refine aw_aaldL d_E_fill_98 hE2.2.1 hg (by omega) ?_
                  refine aw_iload d_E_fill_99 rfl ?_
                  refine aw_iload_n d_E_fill_101 rfl rfl ?_
                  refine aw_iload d_E_fill_102 rfl ?_
                  refine aw_icmp_neN (tgt := 112) d_E_fill_104 (by decide) (by omega) (by omega) (fun h4 => ?_) (fun h4 => ?_)
                  · refine aw_lconst (v := lI 0) d_E_fill_112 (by decide) ?_
                    refine aw_lload d_E_fill_113 rfl ?_
                    refine aw_lsubI d_E_fill_115 ?_
                    refine aw_lastA d_E_fill_116 (hE2.2.2 u (by omega)) hg (by omega) (by decide) (fun zws11 za12 zb13 zc14 => ?_)
                    have zF15 := fam_putL (lo := 25) hE2.2.2 za12 zb13
                    have hE3 := hE2.putZ (by omega) za12 zb13
                    have f3 := fr.one (lo := 23) (hi := 30) zb13 zc14 (by omega) (by omega)
                    have hS3 := hS2.kept f3 (by omega)
                    refine aw_iinc1 (lv' := [(4, .int (nI (v + 1))), (8, .long (lI 0)), (6, .long (lI 1)), (5, .int (nI 0)), (0, .ref (ad 23)), (1, .ref (ad 9)), (2, .int (nI U)), (3, .int (nI u))]) d_E_fill_117 rfl (by decide) rfl ?_
                    refine aw_goto (tgt := 21) d_E_fill_120 (by decide) ?_
                    refine aw_sub (lv' := [(0, .ref (ad 23)), (1, .ref (ad 9)), (2, .int (nI U)), (3, .int (nI u)), (4, .int (nI (v + 1)))]) [4, 5, 6, 7, 0] rfl ?_
                    exact ih _ _ (v + 1) hE3 hS3 (hf2.tr f3) (by omega) (fun i j hij => by
              unfold fup2
              by_cases e : i = u ∧ j = v
              · rw [if_pos e, e.1, e.2]; simp [eqZ, h4, h2, h3]
              · rw [if_neg e]; exact hr2 i j (by omega)) (by omega)
                  · refine aw_lload d_E_fill_107 rfl ?_
                    refine aw_goto (tgt := 113) d_E_fill_109 (by decide) ?_
                    refine aw_lload d_E_fill_113 rfl ?_
                    refine aw_lsubI d_E_fill_115 ?_
                    refine aw_lastA d_E_fill_116 (hE2.2.2 u (by omega)) hg (by omega) (by decide) (fun zws16 za17 zb18 zc19 => ?_)
                    have zF20 := fam_putL (lo := 25) hE2.2.2 za17 zb18
                    have hE3 := hE2.putZ (by omega) za17 zb18
                    have f3 := fr.one (lo := 23) (hi := 30) zb18 zc19 (by omega) (by omega)
                    have hS3 := hS2.kept f3 (by omega)
                    refine aw_iinc1 (lv' := [(4, .int (nI (v + 1))), (8, .long (lI 0)), (6, .long (lI 1)), (5, .int (nI 0)), (0, .ref (ad 23)), (1, .ref (ad 9)), (2, .int (nI U)), (3, .int (nI u))]) d_E_fill_117 rfl (by decide) rfl ?_
                    refine aw_goto (tgt := 21) d_E_fill_120 (by decide) ?_
                    refine aw_sub (lv' := [(0, .ref (ad 23)), (1, .ref (ad 9)), (2, .int (nI U)), (3, .int (nI u)), (4, .int (nI (v + 1)))]) [4, 5, 6, 7, 0] rfl ?_
                    exact ih _ _ (v + 1) hE3 hS3 (hf2.tr f3) (by omega) (fun i j hij => by
              unfold fup2
              by_cases e : i = u ∧ j = v
              · rw [if_pos e, e.1, e.2]; subst h4; rw [h2] at h3; cases h3
              · rw [if_neg e]; exact hr2 i j (by omega)) (by omega)
                · refine aw_iconst (v := nI 1) d_E_fill_47 (by decide) ?_
                  refine aw_goto (tgt := 52) d_E_fill_48 (by decide) ?_
                  refine aw_istore (lv' := [(5, .int (nI 1)), (0, .ref (ad 23)), (1, .ref (ad 9)), (2, .int (nI U)), (3, .int (nI u)), (4, .int (nI v))]) d_E_fill_52 (by decide) rfl ?_
                  refine aw_iload d_E_fill_54 rfl ?_
                  refine aw_if_eqN (tgt := 69) d_E_fill_56 (by decide) (by omega) (fun hx => absurd hx (by omega)) (fun hx => ?_)
                  refine aw_aload_n d_E_fill_59 rfl rfl ?_
                  refine aw_get kc_2 2 (by decide) k_69 d_E_fill_60 hS2.1 rfl ?_
                  refine aw_iload_n d_E_fill_63 rfl rfl ?_
                  refine aw_ialdA d_E_fill_64 hS2.2.2.2.1 hg (by omega) (by decide) ?_
                  refine aw_i2lN d_E_fill_65 (by omega) ?_
                  refine aw_goto (tgt := 70) d_E_fill_66 (by decide) ?_
                  refine aw_lstore (lv' := [(6, .long (lI (T u : Nat))), (5, .int (nI 1)), (0, .ref (ad 23)), (1, .ref (ad 9)), (2, .int (nI U)), (3, .int (nI u)), (4, .int (nI v))]) d_E_fill_70 (by decide) rfl ?_
                  refine aw_iload d_E_fill_72 rfl ?_
                  refine aw_if_eqN (tgt := 90) d_E_fill_74 (by decide) (by omega) (fun hx => absurd hx (by omega)) (fun hx => ?_)
                  refine aw_aload_n d_E_fill_77 rfl rfl ?_
                  refine aw_get kc_2 1 (by decide) k_65 d_E_fill_78 hS2.1 rfl ?_
                  refine aw_iload_n d_E_fill_81 rfl rfl ?_
                  refine aw_aaldI d_E_fill_82 hS2.2.1 hg (by omega) ?_
                  refine aw_iload d_E_fill_83 rfl ?_
                  refine aw_ialdA d_E_fill_85 (hS2.2.2.1 u (by omega)) hg (by omega) (by decide) ?_
                  refine aw_i2lN d_E_fill_86 (by omega) ?_
                  refine aw_goto (tgt := 91) d_E_fill_87 (by decide) ?_
                  refine aw_lstore (lv' := [(8, .long (lI (P u v : Nat))), (6, .long (lI (T u : Nat))), (5, .int (nI 1)), (0, .ref (ad 23)), (1, .ref (ad 9)), (2, .int (nI U)), (3, .int (nI u)), (4, .int (nI v))]) d_E_fill_91 (by decide) rfl ?_
                  refine aw_aload_n d_E_fill_93 rfl rfl ?_
                  refine aw_get kc_4 1 (by decide) k_120 d_E_fill_94 hE2.1 rfl ?_
                  refine aw_iload_n d_E_fill_97 rfl rfl ?_
                  refine aw_aaldL d_E_fill_98 hE2.2.1 hg (by omega) ?_
                  refine aw_iload d_E_fill_99 rfl ?_
                  refine aw_iload_n d_E_fill_101 rfl rfl ?_
                  refine aw_iload d_E_fill_102 rfl ?_
                  refine aw_icmp_neN (tgt := 112) d_E_fill_104 (by decide) (by omega) (by omega) (fun h4 => ?_) (fun h4 => ?_)
                  · refine aw_lconst (v := lI 0) d_E_fill_112 (by decide) ?_
                    refine aw_lload d_E_fill_113 rfl ?_
                    refine aw_lsubI d_E_fill_115 ?_
                    refine aw_lastA d_E_fill_116 (hE2.2.2 u (by omega)) hg (by omega) (by decide) (fun zws21 za22 zb23 zc24 => ?_)
                    have zF25 := fam_putL (lo := 25) hE2.2.2 za22 zb23
                    have hE3 := hE2.putZ (by omega) za22 zb23
                    have f3 := fr.one (lo := 23) (hi := 30) zb23 zc24 (by omega) (by omega)
                    have hS3 := hS2.kept f3 (by omega)
                    refine aw_iinc1 (lv' := [(4, .int (nI (v + 1))), (8, .long (lI (P u v : Nat))), (6, .long (lI (T u : Nat))), (5, .int (nI 1)), (0, .ref (ad 23)), (1, .ref (ad 9)), (2, .int (nI U)), (3, .int (nI u))]) d_E_fill_117 rfl (by decide) rfl ?_
                    refine aw_goto (tgt := 21) d_E_fill_120 (by decide) ?_
                    refine aw_sub (lv' := [(0, .ref (ad 23)), (1, .ref (ad 9)), (2, .int (nI U)), (3, .int (nI u)), (4, .int (nI (v + 1)))]) [4, 5, 6, 7, 0] rfl ?_
                    exact ih _ _ (v + 1) hE3 hS3 (hf2.tr f3) (by omega) (fun i j hij => by
              unfold fup2
              by_cases e : i = u ∧ j = v
              · rw [if_pos e, e.1, e.2]; simp [eqZ, h4, h2, h3]
              · rw [if_neg e]; exact hr2 i j (by omega)) (by omega)
                  · refine aw_lload d_E_fill_107 rfl ?_
                    refine aw_goto (tgt := 113) d_E_fill_109 (by decide) ?_
                    refine aw_lload d_E_fill_113 rfl ?_
                    refine aw_lsubI d_E_fill_115 ?_
                    refine aw_lastA d_E_fill_116 (hE2.2.2 u (by omega)) hg (by omega) (by decide) (fun zws26 za27 zb28 zc29 => ?_)
                    have zF30 := fam_putL (lo := 25) hE2.2.2 za27 zb28
                    have hE3 := hE2.putZ (by omega) za27 zb28
                    have f3 := fr.one (lo := 23) (hi := 30) zb28 zc29 (by omega) (by omega)
                    have hS3 := hS2.kept f3 (by omega)
                    refine aw_iinc1 (lv' := [(4, .int (nI (v + 1))), (8, .long (lI (P u v : Nat))), (6, .long (lI (T u : Nat))), (5, .int (nI 1)), (0, .ref (ad 23)), (1, .ref (ad 9)), (2, .int (nI U)), (3, .int (nI u))]) d_E_fill_117 rfl (by decide) rfl ?_
                    refine aw_goto (tgt := 21) d_E_fill_120 (by decide) ?_
                    refine aw_sub (lv' := [(0, .ref (ad 23)), (1, .ref (ad 9)), (2, .int (nI U)), (3, .int (nI u)), (4, .int (nI (v + 1)))]) [4, 5, 6, 7, 0] rfl ?_
                    exact ih _ _ (v + 1) hE3 hS3 (hf2.tr f3) (by omega) (fun i j hij => by
              unfold fup2
              by_cases e : i = u ∧ j = v
              · rw [if_pos e, e.1, e.2]; subst h4; simp [eqZ, h2, h3]
              · rw [if_neg e]; exact hr2 i j (by omega)) (by omega)
        refine aw_sub (lv' := [(0, .ref (ad 23)), (1, .ref (ad 9)), (2, .int (nI U)), (3, .int (nI u)), (4, .int (nI 0))]) [1, 2, 3, 4, 0] rfl ?_
        exact lq (n + 1) ws1 Z 0 hE1 hS1 hf (by omega) (fun i j hij => hr i j (by omega) (by omega)) (by omega)
  refine aw_aload_n d_E_fill_0 rfl rfl ?_
  refine aw_aload_n d_E_fill_1 rfl rfl ?_
  refine aw_get kc_2 0 (by decide) k_62 d_E_fill_2 hS.1 rfl ?_
  refine aw_putN kc_4 0 (by decide) k_119 d_E_fill_5 hE.1 rfl rfl rfl (Nat.le_of_ble_eq_true rfl) (fun zws31 za32 zb33 zc34 => ?_)
  have zf35 : zws31[23]? = some (ad 23, .inr (4, [.int (nI n), .ref (ad 24)])) := za32
  have hE2 := hE.putO (n' := n) za32 zb33
  have f2 := fr.one (lo := 23) (hi := 30) zb33 zc34 (by omega) (by omega)
  have hS2 := hS.kept f2 (by omega)
  refine aw_iconst (v := nI 0) d_E_fill_8 (by decide) ?_
  refine aw_istore_n (lv' := [(3, .int (nI 0)), (0, .ref (ad 23)), (1, .ref (ad 9)), (2, .int (nI U))]) d_E_fill_9 rfl (by decide) rfl ?_
  refine aw_sub (lv' := [(0, .ref (ad 23)), (1, .ref (ad 9)), (2, .int (nI U)), (3, .int (nI 0))]) [1, 2, 3, 0] rfl ?_
  exact lp (n + 1) _ Z0 0 hE2 hS2 f2 (by omega) (fun i j hi _ => absurd hi (by omega)) (by omega)

set_option maxHeartbeats 4000000 in
set_option maxRecDepth 100000 in
theorem m_E_putChances {g : aw_G} (hg : aw_T g) {ws : va_W} {ad : Nat → Nat} {n U G a : Nat} {P : Nat → Nat → Nat} {T X : Nat → Nat} {Z0 : Nat → Nat → Int} (hE : gE g ws ad n Z0) (hS : gS g ws ad n P T X) (hn : n ≤ 5) (hU : U < 32) (hG : G < 32) (ha : a < 5) (hb : ∀ i j, i < n → j < n → P i j ≤ 400) : AMet g y_E_putChances c_E_putChances 7 none 2 [.ref (ad 23), .ref (ad 9), .int (nI U), .int (nI G), .int (nI a)] ws (q_eq g ad ws n (fun i j => if j = a then (if U.testBit i = true then (gsum P G i n : Int) else 0) else Z0 i j)) 0 0 := by
  refine amet_of (by decide +kernel) (Nat.le_of_ble_eq_true rfl) ?_
  refine aw_sub (lv' := [(0, .ref (ad 23)), (1, .ref (ad 9)), (2, .int (nI U)), (3, .int (nI G)), (4, .int (nI a))]) [0, 1, 2, 3, 4] rfl ?_
  refine aw_iconst (v := nI 0) d_E_putChances_0 (by decide) ?_
  refine aw_istore (lv' := [(5, .int (nI 0)), (0, .ref (ad 23)), (1, .ref (ad 9)), (2, .int (nI U)), (3, .int (nI G)), (4, .int (nI a))]) d_E_putChances_1 (by decide) rfl ?_
  have lp : ∀ (k : Nat) (ws1 : va_W) (Z : Nat → Nat → Int) (u : Nat), gE g ws1 ad n Z → gS g ws1 ad n P T X → fr 23 30 ws ws1 → u ≤ n → (∀ i j, i < u → j < n → Z i j = (if j = a then (if U.testBit i = true then (gsum P G i n : Int) else 0) else Z0 i j)) → (∀ i j, u ≤ i → Z i j = Z0 i j) → n - u < k → AW g y_E_putChances c_E_putChances 7 none (aw_rm 2 0 0) aw_E0 (aw_F g (q_eq g ad ws n (fun i j => if j = a then (if U.testBit i = true then (gsum P G i n : Int) else 0) else Z0 i j)) 0 0) 0 0 3 [(0, .ref (ad 23)), (1, .ref (ad 9)), (2, .int (nI U)), (3, .int (nI G)), (4, .int (nI a)), (5, .int (nI u))] [] ws1 := by
    intro k
    induction k with
    | zero => intro ws1 Z u hE1 hS1 hf hu hr hr0 hk; omega
    | succ k ih =>
      intro ws1 Z u hE1 hS1 hf hu hr hr0 hk
      have ihu := ih
      refine aw_iload d_E_putChances_3 rfl ?_
      refine aw_aload_n d_E_putChances_5 rfl rfl ?_
      refine aw_get kc_4 0 (by decide) k_119 d_E_putChances_6 hE1.1 rfl ?_
      refine aw_icmp_geN (tgt := 89) d_E_putChances_9 (by decide) (by omega) (by omega) (fun h => ?_) (fun h => ?_)
      · have e : n = u := by omega
        subst e
        exact aw_vret d_E_putChances_89 (Nat.le_refl 0) (Nat.le_refl 0) ⟨rfl, hf, Z, hE1, hr⟩
      · refine aw_aload_n d_E_putChances_12 rfl rfl ?_
        refine aw_get kc_4 1 (by decide) k_120 d_E_putChances_13 hE1.1 rfl ?_
        refine aw_iload d_E_putChances_16 rfl ?_
        refine aw_aaldL d_E_putChances_18 hE1.2.1 hg (by omega) ?_
        refine aw_iload d_E_putChances_19 rfl ?_
        refine aw_lconst (v := lI 0) d_E_putChances_21 (by decide) ?_
        refine aw_lastA d_E_putChances_22 (hE1.2.2 u (by omega)) hg (by omega) (by decide) (fun zws1 za2 zb3 zc4 => ?_)
        have zF5 := fam_putL (lo := 25) hE1.2.2 za2 zb3
        have hE2 := hE1.putZ (by omega) za2 zb3
        have f2 := fr.one (lo := 23) (hi := 30) zb3 zc4 (by omega) (by omega)
        have hS2 := hS1.kept f2 (by omega)
        refine aw_iconst (v := nI 0) d_E_putChances_23 (by decide) ?_
        refine aw_istore (lv' := [(6, .int (nI 0)), (0, .ref (ad 23)), (1, .ref (ad 9)), (2, .int (nI U)), (3, .int (nI G)), (4, .int (nI a)), (5, .int (nI u))]) d_E_putChances_24 (by decide) rfl ?_
        have lq : ∀ (k : Nat) (ws3 : va_W) (Y : Nat → Nat → Int) (v : Nat), gE g ws3 ad n Y → gS g ws3 ad n P T X → fr 23 30 ws ws3 → v ≤ n → (∀ i j, i ≠ u ∨ j ≠ a → Y i j = Z i j) → Y u a = (if U.testBit u = true then (sN (fun v => if G.testBit v = true then P u v else 0) v : Int) else 0) → n - v < k → AW g y_E_putChances c_E_putChances 7 none (aw_rm 2 0 0) aw_E0 (aw_F g (q_eq g ad ws n (fun i j => if j = a then (if U.testBit i = true then (gsum P G i n : Int) else 0) else Z0 i j)) 0 0) 0 0 26 [(0, .ref (ad 23)), (1, .ref (ad 9)), (2, .int (nI U)), (3, .int (nI G)), (4, .int (nI a)), (5, .int (nI u)), (6, .int (nI v))] [] ws3 := by
          intro k
          induction k with
          | zero => intro ws3 Y v hE3 hS3 hf3 hv hY hYu hk3; omega
          | succ k ih =>
            intro ws3 Y v hE3 hS3 hf3 hv hY hYu hk3
            refine aw_iload d_E_putChances_26 rfl ?_
            refine aw_aload_n d_E_putChances_28 rfl rfl ?_
            refine aw_get kc_4 0 (by decide) k_119 d_E_putChances_29 hE3.1 rfl ?_
            refine aw_icmp_geN (tgt := 83) d_E_putChances_32 (by decide) (by omega) (by omega) (fun h1 => ?_) (fun h1 => ?_)
            · have e : v = n := by omega
              rw [e] at hYu
              refine aw_iinc1 (lv' := [(5, .int (nI (u + 1))), (0, .ref (ad 23)), (1, .ref (ad 9)), (2, .int (nI U)), (3, .int (nI G)), (4, .int (nI a)), (6, .int (nI v))]) d_E_putChances_83 rfl (by decide) rfl ?_
              refine aw_goto (tgt := 3) d_E_putChances_86 (by decide) ?_
              refine aw_sub (lv' := [(0, .ref (ad 23)), (1, .ref (ad 9)), (2, .int (nI U)), (3, .int (nI G)), (4, .int (nI a)), (5, .int (nI (u + 1)))]) [1, 2, 3, 4, 5, 0] rfl ?_
              exact ihu ws3 Y (u + 1) hE3 hS3 hf3 (by omega) (fun i j hi hj => by
          by_cases e : i = u ∧ j = a
          · rw [e.1, e.2, hYu, if_pos rfl]; rfl
          · rw [hY i j (by omega)]
            by_cases e2 : i = u
            · rw [hr0 i j (by omega), if_neg (fun z => e ⟨e2, z⟩)]
            · exact hr i j (by omega) hj) (fun i j hi => by rw [hY i j (Or.inl (by omega))]; exact hr0 i j (by omega)) (by omega)
            · have hb1 := hb u v h h1
              refine aw_iload_n d_E_putChances_35 rfl rfl ?_
              refine aw_iload d_E_putChances_36 rfl ?_
              refine aw_callSN (av := [.int (nI U), .int (nI u)]) (rest := []) (m_W_has (ad := ad) hg hU (by omega)) kd_W_has k_305 k_221  d_E_putChances_38 rfl ⟨by decide, by decide⟩ (Nat.le_of_ble_eq_true rfl) ⟨by decide, by decide⟩ rfl (fun v3 ws4 hq3 => ?_)
              obtain ⟨rfl, rfl⟩ := hq3
              refine aw_if_eqB (tgt := 77) d_E_putChances_41 (by decide) (fun h2 => ?_) (fun h2 => ?_)
              · refine aw_iinc1 (lv' := [(6, .int (nI (v + 1))), (0, .ref (ad 23)), (1, .ref (ad 9)), (2, .int (nI U)), (3, .int (nI G)), (4, .int (nI a)), (5, .int (nI u))]) d_E_putChances_77 rfl (by decide) rfl ?_
                refine aw_goto (tgt := 26) d_E_putChances_80 (by decide) ?_
                refine aw_sub (lv' := [(0, .ref (ad 23)), (1, .ref (ad 9)), (2, .int (nI U)), (3, .int (nI G)), (4, .int (nI a)), (5, .int (nI u)), (6, .int (nI (v + 1)))]) [1, 2, 3, 4, 5, 6, 0] rfl ?_
                exact ih ws3 Y (v + 1) hE3 hS3 hf3 (by omega) hY (by rw [hYu, if_neg (by rw [h2]; decide), if_neg (by rw [h2]; decide)]) (by omega)
              · refine aw_iload_n d_E_putChances_44 rfl rfl ?_
                refine aw_iload d_E_putChances_45 rfl ?_
                refine aw_callSN (av := [.int (nI G), .int (nI v)]) (rest := []) (m_W_has (ad := ad) hg hG (by omega)) kd_W_has k_305 k_221  d_E_putChances_47 rfl ⟨by decide, by decide⟩ (Nat.le_of_ble_eq_true rfl) ⟨by decide, by decide⟩ rfl (fun v3 ws4 hq3 => ?_)
                obtain ⟨rfl, rfl⟩ := hq3
                refine aw_if_eqB (tgt := 77) d_E_putChances_50 (by decide) (fun h3 => ?_) (fun h3 => ?_)
                · refine aw_iinc1 (lv' := [(6, .int (nI (v + 1))), (0, .ref (ad 23)), (1, .ref (ad 9)), (2, .int (nI U)), (3, .int (nI G)), (4, .int (nI a)), (5, .int (nI u))]) d_E_putChances_77 rfl (by decide) rfl ?_
                  refine aw_goto (tgt := 26) d_E_putChances_80 (by decide) ?_
                  refine aw_sub (lv' := [(0, .ref (ad 23)), (1, .ref (ad 9)), (2, .int (nI U)), (3, .int (nI G)), (4, .int (nI a)), (5, .int (nI u)), (6, .int (nI (v + 1)))]) [1, 2, 3, 4, 5, 6, 0] rfl ?_
                  exact ih ws3 Y (v + 1) hE3 hS3 hf3 (by omega) hY (by rw [hYu, if_pos h2, if_pos h2, sN, if_neg (by rw [h3]; decide)]; rfl) (by omega)
                · refine aw_aload_n d_E_putChances_53 rfl rfl ?_
                  refine aw_get kc_4 1 (by decide) k_120 d_E_putChances_54 hE3.1 rfl ?_
                  refine aw_iload d_E_putChances_57 rfl ?_
                  refine aw_aaldL d_E_putChances_59 hE3.2.1 hg (by omega) ?_
                  refine aw_iload d_E_putChances_60 rfl ?_
                  refine aw_dup2_11 d_E_putChances_62 rfl rfl ?_
                  refine aw_laldA d_E_putChances_63 (hE3.2.2 u (by omega)) hg (by omega) (by decide) ?_
                  refine aw_aload_n d_E_putChances_64 rfl rfl ?_
                  refine aw_get kc_2 1 (by decide) k_65 d_E_putChances_65 hS3.1 rfl ?_
                  refine aw_iload d_E_putChances_68 rfl ?_
                  refine aw_aaldI d_E_putChances_70 hS3.2.1 hg (by omega) ?_
                  refine aw_iload d_E_putChances_71 rfl ?_
                  refine aw_ialdA d_E_putChances_73 (hS3.2.2.1 u (by omega)) hg (by omega) (by decide) ?_
                  refine aw_i2lN d_E_putChances_74 (by omega) ?_
                  refine aw_laddI d_E_putChances_75 ?_
                  refine aw_lastA d_E_putChances_76 (hE3.2.2 u (by omega)) hg (by omega) (by decide) (fun zws6 za7 zb8 zc9 => ?_)
                  have zF10 := fam_putL (lo := 25) hE3.2.2 za7 zb8
                  have hE4 := hE3.putZ (by omega) za7 zb8
                  have f4 := fr.one (lo := 23) (hi := 30) zb8 zc9 (by omega) (by omega)
                  have hS4 := hS3.kept f4 (by omega)
                  refine aw_iinc1 (lv' := [(6, .int (nI (v + 1))), (0, .ref (ad 23)), (1, .ref (ad 9)), (2, .int (nI U)), (3, .int (nI G)), (4, .int (nI a)), (5, .int (nI u))]) d_E_putChances_77 rfl (by decide) rfl ?_
                  refine aw_goto (tgt := 26) d_E_putChances_80 (by decide) ?_
                  refine aw_sub (lv' := [(0, .ref (ad 23)), (1, .ref (ad 9)), (2, .int (nI U)), (3, .int (nI G)), (4, .int (nI a)), (5, .int (nI u)), (6, .int (nI (v + 1)))]) [1, 2, 3, 4, 5, 6, 0] rfl ?_
                  exact ih _ _ (v + 1) hE4 hS4 (hf3.tr f4) (by omega) (fun i j hij => by
              unfold fup2
              rw [if_neg (by omega)]; exact hY i j hij) (by
              unfold fup2
              rw [if_pos ⟨rfl, rfl⟩, hYu, if_pos h2, if_pos h2, sN, if_pos h3, Int.natCast_add]) (by omega)
        refine aw_sub (lv' := [(0, .ref (ad 23)), (1, .ref (ad 9)), (2, .int (nI U)), (3, .int (nI G)), (4, .int (nI a)), (5, .int (nI u)), (6, .int (nI 0))]) [1, 2, 3, 4, 5, 6, 0] rfl ?_
        exact lq (n + 1) _ _ 0 hE2 hS2 (hf.tr f2) (by omega) (fun i j hij => by unfold fup2; rw [if_neg (by omega)]) (by unfold fup2; rw [if_pos ⟨rfl, rfl⟩]; split <;> rfl) (by omega)
  refine aw_sub (lv' := [(0, .ref (ad 23)), (1, .ref (ad 9)), (2, .int (nI U)), (3, .int (nI G)), (4, .int (nI a)), (5, .int (nI 0))]) [1, 2, 3, 4, 5, 0] rfl ?_
  exact lp (n + 1) ws Z0 0 hE hS fr.rf (by omega) (fun i j hi _ => absurd hi (by omega)) (fun _ _ _ => rfl) (by omega)

set_option maxHeartbeats 4000000 in
set_option maxRecDepth 100000 in
theorem m_E_putStepCounts {g : aw_G} (hg : aw_T g) {ws : va_W} {ad : Nat → Nat} {n U a : Nat} {P : Nat → Nat → Nat} {T X : Nat → Nat} {Z0 : Nat → Nat → Int} (hE : gE g ws ad n Z0) (hS : gS g ws ad n P T X) (hn : n ≤ 5) (hU : U < 32) (ha : a < 5) (hb : ∀ i, i < n → T i ≤ 400) : AMet g y_E_putStepCounts c_E_putStepCounts 5 none 2 [.ref (ad 23), .ref (ad 9), .int (nI U), .int (nI a)] ws (q_eq g ad ws n (fun i j => if j = a then (if U.testBit i = true then (T i : Int) else 0) else Z0 i j)) 0 0 := by
  refine amet_of (by decide +kernel) (Nat.le_of_ble_eq_true rfl) ?_
  refine aw_sub (lv' := [(0, .ref (ad 23)), (1, .ref (ad 9)), (2, .int (nI U)), (3, .int (nI a))]) [0, 1, 2, 3] rfl ?_
  refine aw_iconst (v := nI 0) d_E_putStepCounts_0 (by decide) ?_
  refine aw_istore (lv' := [(4, .int (nI 0)), (0, .ref (ad 23)), (1, .ref (ad 9)), (2, .int (nI U)), (3, .int (nI a))]) d_E_putStepCounts_1 (by decide) rfl ?_
  have lp : ∀ (k : Nat) (ws1 : va_W) (Z : Nat → Nat → Int) (u : Nat), gE g ws1 ad n Z → gS g ws1 ad n P T X → fr 23 30 ws ws1 → u ≤ n → (∀ i j, i < u → j < n → Z i j = (if j = a then (if U.testBit i = true then (T i : Int) else 0) else Z0 i j)) → (∀ i j, u ≤ i → Z i j = Z0 i j) → n - u < k → AW g y_E_putStepCounts c_E_putStepCounts 5 none (aw_rm 2 0 0) aw_E0 (aw_F g (q_eq g ad ws n (fun i j => if j = a then (if U.testBit i = true then (T i : Int) else 0) else Z0 i j)) 0 0) 0 0 3 [(0, .ref (ad 23)), (1, .ref (ad 9)), (2, .int (nI U)), (3, .int (nI a)), (4, .int (nI u))] [] ws1 := by
    intro k
    induction k with
    | zero => intro ws1 Z u hE1 hS1 hf hu hr hr0 hk; omega
    | succ k ih =>
      intro ws1 Z u hE1 hS1 hf hu hr hr0 hk
      refine aw_iload d_E_putStepCounts_3 rfl ?_
      refine aw_aload_n d_E_putStepCounts_5 rfl rfl ?_
      refine aw_get kc_4 0 (by decide) k_119 d_E_putStepCounts_6 hE1.1 rfl ?_
      refine aw_icmp_geN (tgt := 48) d_E_putStepCounts_9 (by decide) (by omega) (by omega) (fun h => ?_) (fun h => ?_)
      · have e : n = u := by omega
        subst e
        exact aw_vret d_E_putStepCounts_48 (Nat.le_refl 0) (Nat.le_refl 0) ⟨rfl, hf, Z, hE1, hr⟩
      · have hb1 := hb u h
        refine aw_aload_n d_E_putStepCounts_12 rfl rfl ?_
        refine aw_get kc_4 1 (by decide) k_120 d_E_putStepCounts_13 hE1.1 rfl ?_
        refine aw_iload d_E_putStepCounts_16 rfl ?_
        refine aw_aaldL d_E_putStepCounts_18 hE1.2.1 hg (by omega) ?_
        refine aw_iload_n d_E_putStepCounts_19 rfl rfl ?_
        refine aw_iload_n d_E_putStepCounts_20 rfl rfl ?_
        refine aw_iload d_E_putStepCounts_21 rfl ?_
        refine aw_callSN (av := [.int (nI U), .int (nI u)]) (rest := [.int (nI a), .ref (ad (25 + u))]) (m_W_has (ad := ad) hg hU (by omega)) kd_W_has k_305 k_221  d_E_putStepCounts_23 rfl ⟨by decide, by decide⟩ (Nat.le_of_ble_eq_true rfl) ⟨by decide, by decide⟩ rfl (fun v3 ws4 hq3 => ?_)
        obtain ⟨rfl, rfl⟩ := hq3
        refine aw_if_eqB (tgt := 40) d_E_putStepCounts_26 (by decide) (fun h2 => ?_) (fun h2 => ?_)
        · refine aw_lconst (v := lI 0) d_E_putStepCounts_40 (by decide) ?_
          refine aw_lastA d_E_putStepCounts_41 (hE1.2.2 u (by omega)) hg (by omega) (by decide) (fun zws1 za2 zb3 zc4 => ?_)
          have zF5 := fam_putL (lo := 25) hE1.2.2 za2 zb3
          have hE2 := hE1.putZ (by omega) za2 zb3
          have f2 := fr.one (lo := 23) (hi := 30) zb3 zc4 (by omega) (by omega)
          have hS2 := hS1.kept f2 (by omega)
          refine aw_iinc1 (lv' := [(4, .int (nI (u + 1))), (0, .ref (ad 23)), (1, .ref (ad 9)), (2, .int (nI U)), (3, .int (nI a))]) d_E_putStepCounts_42 rfl (by decide) rfl ?_
          refine aw_goto (tgt := 3) d_E_putStepCounts_45 (by decide) ?_
          refine aw_sub (lv' := [(0, .ref (ad 23)), (1, .ref (ad 9)), (2, .int (nI U)), (3, .int (nI a)), (4, .int (nI (u + 1)))]) [1, 2, 3, 4, 0] rfl ?_
          exact ih _ _ (u + 1) hE2 hS2 (hf.tr f2) (by omega) (fun i j hi hj => by
            unfold fup2
            by_cases e : i = u ∧ j = a
            · rw [if_pos e, e.1, e.2, if_pos rfl, if_neg (by rw [h2]; decide)]
            · rw [if_neg e]
              by_cases e2 : i = u
              · rw [hr0 i j (by omega), if_neg (fun z => e ⟨e2, z⟩)]
              · exact hr i j (by omega) hj) (fun i j hi => by unfold fup2; rw [if_neg (by omega)]; exact hr0 i j (by omega)) (by omega)
        · refine aw_aload_n d_E_putStepCounts_29 rfl rfl ?_
          refine aw_get kc_2 2 (by decide) k_69 d_E_putStepCounts_30 hS1.1 rfl ?_
          refine aw_iload d_E_putStepCounts_33 rfl ?_
          refine aw_ialdA d_E_putStepCounts_35 hS1.2.2.2.1 hg (by omega) (by decide) ?_
          refine aw_i2lN d_E_putStepCounts_36 (by omega) ?_
          refine aw_goto (tgt := 41) d_E_putStepCounts_37 (by decide) ?_
          refine aw_lastA d_E_putStepCounts_41 (hE1.2.2 u (by omega)) hg (by omega) (by decide) (fun zws6 za7 zb8 zc9 => ?_)
          have zF10 := fam_putL (lo := 25) hE1.2.2 za7 zb8
          have hE2 := hE1.putZ (by omega) za7 zb8
          have f2 := fr.one (lo := 23) (hi := 30) zb8 zc9 (by omega) (by omega)
          have hS2 := hS1.kept f2 (by omega)
          refine aw_iinc1 (lv' := [(4, .int (nI (u + 1))), (0, .ref (ad 23)), (1, .ref (ad 9)), (2, .int (nI U)), (3, .int (nI a))]) d_E_putStepCounts_42 rfl (by decide) rfl ?_
          refine aw_goto (tgt := 3) d_E_putStepCounts_45 (by decide) ?_
          refine aw_sub (lv' := [(0, .ref (ad 23)), (1, .ref (ad 9)), (2, .int (nI U)), (3, .int (nI a)), (4, .int (nI (u + 1)))]) [1, 2, 3, 4, 0] rfl ?_
          exact ih _ _ (u + 1) hE2 hS2 (hf.tr f2) (by omega) (fun i j hi hj => by
            unfold fup2
            by_cases e : i = u ∧ j = a
            · rw [if_pos e, e.1, e.2, if_pos rfl, if_pos h2]
            · rw [if_neg e]
              by_cases e2 : i = u
              · rw [hr0 i j (by omega), if_neg (fun z => e ⟨e2, z⟩)]
              · exact hr i j (by omega) hj) (fun i j hi => by unfold fup2; rw [if_neg (by omega)]; exact hr0 i j (by omega)) (by omega)
  refine aw_sub (lv' := [(0, .ref (ad 23)), (1, .ref (ad 9)), (2, .int (nI U)), (3, .int (nI a)), (4, .int (nI 0))]) [1, 2, 3, 4, 0] rfl ?_
  exact lp (n + 1) ws Z0 0 hE hS fr.rf (by omega) (fun i j hi _ => absurd hi (by omega)) (fun _ _ _ => rfl) (by omega)

set_option maxHeartbeats 4000000 in
set_option maxRecDepth 100000 in
theorem m_E_expand {g : aw_G} (hg : aw_T g) {ws : va_W} {ad : Nat → Nat} {n : Nat} {Z : Nat → Nat → Int} (hE : gE g ws ad n Z) (hn : n ≤ 5) (hb : ∀ i j, i < n → j < n → -2 ^ 62 ≤ Z i j ∧ Z i j ≤ 2 ^ 62) : ∀ (k line used : Nat), line + k = n → used < 32 → AMet g y_E_expand c_E_expand 11 (some .long) (k + 2) [.ref (ad 24), .int (nI n), .int (nI line), .int (nI used)] ws (aw_R (.long (lI (exD Z n k line used))) ws) 0 0 := by
  intro k
  induction k with
  | zero =>
    intro line used hl hu
    refine amet_of (by decide +kernel) (Nat.le_of_ble_eq_true rfl) ?_
    refine aw_sub (lv' := [(0, .ref (ad 24)), (1, .int (nI n)), (2, .int (nI line)), (3, .int (nI used))]) [0, 1, 2, 3] rfl ?_
    refine aw_iload_n d_E_expand_0 rfl rfl ?_
    refine aw_iload_n d_E_expand_1 rfl rfl ?_
    refine aw_icmp_ltN (tgt := 7) d_E_expand_2 (by decide) (by omega) (by omega) (fun h => absurd h (by omega)) (fun h => ?_)
    refine aw_lconst (v := lI 1) d_E_expand_5 (by decide) ?_
    exact aw_lret d_E_expand_6 (Nat.le_refl 0) (Nat.le_refl 0) ⟨rfl, rfl⟩
  | succ k ihk =>
    intro line used hl hu
    refine amet_of (by decide +kernel) (Nat.le_of_ble_eq_true rfl) ?_
    refine aw_sub (lv' := [(0, .ref (ad 24)), (1, .int (nI n)), (2, .int (nI line)), (3, .int (nI used))]) [0, 1, 2, 3] rfl ?_
    refine aw_iload_n d_E_expand_0 rfl rfl ?_
    refine aw_iload_n d_E_expand_1 rfl rfl ?_
    refine aw_icmp_ltN (tgt := 7) d_E_expand_2 (by decide) (by omega) (by omega) (fun h => ?_) (fun h => absurd h (by omega))
    refine aw_lconst (v := lI 0) d_E_expand_7 (by decide) ?_
    refine aw_lstore (lv' := [(4, .long (lI 0)), (0, .ref (ad 24)), (1, .int (nI n)), (2, .int (nI line)), (3, .int (nI used))]) d_E_expand_8 (by decide) rfl ?_
    refine aw_lconst (v := lI 1) d_E_expand_10 (by decide) ?_
    refine aw_lstore (lv' := [(6, .long (lI 1)), (4, .long (lI 0)), (0, .ref (ad 24)), (1, .int (nI n)), (2, .int (nI line)), (3, .int (nI used))]) d_E_expand_11 (by decide) rfl ?_
    refine aw_iconst (v := nI 0) d_E_expand_13 (by decide) ?_
    refine aw_istore (lv' := [(8, .int (nI 0)), (6, .long (lI 1)), (4, .long (lI 0)), (0, .ref (ad 24)), (1, .int (nI n)), (2, .int (nI line)), (3, .int (nI used))]) d_E_expand_14 (by decide) rfl ?_
    have lp : ∀ (k2 : Nat) (c : Nat), c ≤ n → n - c < k2 → AW g y_E_expand c_E_expand 11 (some .long) (aw_rm (k + 1 + 2) 0 0) aw_E0 (aw_F g (aw_R (.long (lI (exD Z n (k + 1) line used))) ws) 0 0) 0 0 16 [(0, .ref (ad 24)), (1, .int (nI n)), (2, .int (nI line)), (3, .int (nI used)), (4, .long (lI (sZ (fun c => if used.testBit c = true then 0 else sg used c * Z line c * exD Z n k (line + 1) (used ||| 2 ^ c)) c))), (6, .long (lI (sg used c))), (8, .int (nI c))] [] ws := by
      intro k2
      induction k2 with
      | zero => intro c hc hk; omega
      | succ k2 ih =>
        intro c hc hk
        refine aw_iload d_E_expand_16 rfl ?_
        refine aw_iload_n d_E_expand_18 rfl rfl ?_
        refine aw_icmp_geN (tgt := 86) d_E_expand_19 (by decide) (by omega) (by omega) (fun h => ?_) (fun h => ?_)
        · have e : n = c := by omega
          subst e
          refine aw_lload d_E_expand_86 rfl ?_
          exact aw_lret d_E_expand_88 (Nat.le_refl 0) (Nat.le_refl 0) ⟨rfl, rfl⟩
        · refine aw_iload_n d_E_expand_22 rfl rfl ?_
          refine aw_iload d_E_expand_23 rfl ?_
          refine aw_callSN (av := [.int (nI used), .int (nI c)]) (rest := []) (m_W_has (ad := ad) hg hu (by omega)) kd_W_has k_305 k_221  d_E_expand_25 rfl ⟨by simp only [aw_rm]; omega, by simp only [aw_rm]; omega⟩ (Nat.le_of_ble_eq_true rfl) ⟨by simp only [aw_rm]; omega, by simp only [aw_rm]; omega⟩ rfl (fun v3 ws4 hq3 => ?_)
          obtain ⟨rfl, rfl⟩ := hq3
          refine aw_if_eqB (tgt := 34) d_E_expand_28 (by decide) (fun h2 => ?_) (fun h2 => ?_)
          · have hz := hb line c (by omega) h
            have eg : sg used (c + 1) = - sg used c := by rw [sg, if_neg (by rw [h2]; decide)]
            have es : sZ (fun c => if used.testBit c = true then 0 else sg used c * Z line c * exD Z n k (line + 1) (used ||| 2 ^ c)) (c + 1) = sZ (fun c => if used.testBit c = true then 0 else sg used c * Z line c * exD Z n k (line + 1) (used ||| 2 ^ c)) c + sg used c * Z line c * exD Z n k (line + 1) (used ||| 2 ^ c) := by rw [sZ, if_neg (by rw [h2]; decide)]
            refine aw_aload_n d_E_expand_34 rfl rfl ?_
            refine aw_iload_n d_E_expand_35 rfl rfl ?_
            refine aw_aaldL d_E_expand_36 hE.2.1 hg (by omega) ?_
            refine aw_iload d_E_expand_37 rfl ?_
            refine aw_laldA d_E_expand_39 (hE.2.2 line (by omega)) hg (by omega) (by decide) ?_
            refine aw_lstore (lv' := [(9, .long (lI (Z line c))), (0, .ref (ad 24)), (1, .int (nI n)), (2, .int (nI line)), (3, .int (nI used)), (4, .long (lI (sZ (fun c => if used.testBit c = true then 0 else sg used c * Z line c * exD Z n k (line + 1) (used ||| 2 ^ c)) c))), (6, .long (lI (sg used c))), (8, .int (nI c))]) d_E_expand_40 (by decide) rfl ?_
            refine aw_lload d_E_expand_42 rfl ?_
            refine aw_lconst (v := lI 0) d_E_expand_44 (by decide) ?_
            refine aw_lcmpI d_E_expand_45 (by omega) (by omega) (by omega) (by omega) ?_
            refine aw_if_eqC (tgt := 75) d_E_expand_46 (by decide) (fun h3 => ?_) (fun h3 => ?_)
            · have e0 : sZ (fun c => if used.testBit c = true then 0 else sg used c * Z line c * exD Z n k (line + 1) (used ||| 2 ^ c)) c = sZ (fun c => if used.testBit c = true then 0 else sg used c * Z line c * exD Z n k (line + 1) (used ||| 2 ^ c)) (c + 1) := by rw [es, h3, Int.mul_zero, Int.zero_mul, Int.add_zero]
              rw [e0]
              refine aw_lload d_E_expand_75 rfl ?_
              refine aw_lnegI d_E_expand_77 ?_
              refine aw_nml (z := lI (sg used (c + 1))) (by rw [eg]) ?_
              refine aw_lstore (lv' := [(6, .long (lI (sg used (c + 1)))), (9, .long (lI (Z line c))), (0, .ref (ad 24)), (1, .int (nI n)), (2, .int (nI line)), (3, .int (nI used)), (4, .long (lI (sZ (fun c => if used.testBit c = true then 0 else sg used c * Z line c * exD Z n k (line + 1) (used ||| 2 ^ c)) (c + 1)))), (8, .int (nI c))]) d_E_expand_78 (by decide) rfl ?_
              refine aw_iinc1 (lv' := [(8, .int (nI (c + 1))), (6, .long (lI (sg used (c + 1)))), (9, .long (lI (Z line c))), (0, .ref (ad 24)), (1, .int (nI n)), (2, .int (nI line)), (3, .int (nI used)), (4, .long (lI (sZ (fun c => if used.testBit c = true then 0 else sg used c * Z line c * exD Z n k (line + 1) (used ||| 2 ^ c)) (c + 1))))]) d_E_expand_80 rfl (by decide) rfl ?_
              refine aw_goto (tgt := 16) d_E_expand_83 (by decide) ?_
              refine aw_sub (lv' := [(0, .ref (ad 24)), (1, .int (nI n)), (2, .int (nI line)), (3, .int (nI used)), (4, .long (lI (sZ (fun c => if used.testBit c = true then 0 else sg used c * Z line c * exD Z n k (line + 1) (used ||| 2 ^ c)) (c + 1)))), (6, .long (lI (sg used (c + 1)))), (8, .int (nI (c + 1)))]) [3, 4, 5, 6, 7, 1, 0] rfl ?_
              exact ih (c + 1) (by omega) (by omega)
            · refine aw_lload d_E_expand_49 rfl ?_
              refine aw_lload d_E_expand_51 rfl ?_
              refine aw_lload d_E_expand_53 rfl ?_
              refine aw_lmulI d_E_expand_55 ?_
              refine aw_aload_n d_E_expand_56 rfl rfl ?_
              refine aw_iload_n d_E_expand_57 rfl rfl ?_
              refine aw_iload_n d_E_expand_58 rfl rfl ?_
              refine aw_iconst (v := nI 1) d_E_expand_59 (by decide) ?_
              refine aw_iaddN d_E_expand_60 ?_
              refine aw_iload_n d_E_expand_61 rfl rfl ?_
              refine aw_iload d_E_expand_62 rfl ?_
              refine aw_callSN (av := [.int (nI c)]) (rest := [.int (nI used), .int (nI (line + 1)), .int (nI n), .ref (ad 24), .long (lI ((sg used c) * (Z line c))), .long (lI (sZ (fun c => if used.testBit c = true then 0 else sg used c * Z line c * exD Z n k (line + 1) (used ||| 2 ^ c)) c))]) (m_W_only (ad := ad) hg (by omega)) kd_W_only k_313 k_206  d_E_expand_64 rfl ⟨by simp only [aw_rm]; omega, by simp only [aw_rm]; omega⟩ (Nat.le_of_ble_eq_true rfl) ⟨by simp only [aw_rm]; omega, by simp only [aw_rm]; omega⟩ rfl (fun v5 ws5 hq5 => ?_)
              obtain ⟨rfl, rfl⟩ := hq5
              refine aw_iorN d_E_expand_67 ?_
              refine aw_callS (av := [.ref (ad 24), .int (nI n), .int (nI (line + 1)), .int (nI (used ||| (2 ^ c)))]) (rest := [.long (lI ((sg used c) * (Z line c))), .long (lI (sZ (fun c => if used.testBit c = true then 0 else sg used c * Z line c * exD Z n k (line + 1) (used ||| 2 ^ c)) c))]) (ihk (line + 1) (used ||| 2 ^ c) (by omega) (or_32 hu (pow_32 (by omega)))) kd_E_expand k_310 k_311  d_E_expand_68 rfl ⟨by simp only [aw_rm]; omega, by simp only [aw_rm]; omega⟩ (Nat.le_of_ble_eq_true rfl) ⟨by simp only [aw_rm]; omega, by simp only [aw_rm]; omega⟩ rfl (fun v6 ws6 hq6 => ?_)
              obtain ⟨rfl, rfl⟩ := hq6
              refine aw_lmulI d_E_expand_71 ?_
              refine aw_laddI d_E_expand_72 ?_
              refine aw_nml (z := lI (sZ (fun c => if used.testBit c = true then 0 else sg used c * Z line c * exD Z n k (line + 1) (used ||| 2 ^ c)) (c + 1))) (by rw [es]) ?_
              refine aw_lstore (lv' := [(4, .long (lI (sZ (fun c => if used.testBit c = true then 0 else sg used c * Z line c * exD Z n k (line + 1) (used ||| 2 ^ c)) (c + 1)))), (9, .long (lI (Z line c))), (0, .ref (ad 24)), (1, .int (nI n)), (2, .int (nI line)), (3, .int (nI used)), (6, .long (lI (sg used c))), (8, .int (nI c))]) d_E_expand_73 (by decide) rfl ?_
              refine aw_lload d_E_expand_75 rfl ?_
              refine aw_lnegI d_E_expand_77 ?_
              refine aw_nml (z := lI (sg used (c + 1))) (by rw [eg]) ?_
              refine aw_lstore (lv' := [(6, .long (lI (sg used (c + 1)))), (4, .long (lI (sZ (fun c => if used.testBit c = true then 0 else sg used c * Z line c * exD Z n k (line + 1) (used ||| 2 ^ c)) (c + 1)))), (9, .long (lI (Z line c))), (0, .ref (ad 24)), (1, .int (nI n)), (2, .int (nI line)), (3, .int (nI used)), (8, .int (nI c))]) d_E_expand_78 (by decide) rfl ?_
              refine aw_iinc1 (lv' := [(8, .int (nI (c + 1))), (6, .long (lI (sg used (c + 1)))), (4, .long (lI (sZ (fun c => if used.testBit c = true then 0 else sg used c * Z line c * exD Z n k (line + 1) (used ||| 2 ^ c)) (c + 1)))), (9, .long (lI (Z line c))), (0, .ref (ad 24)), (1, .int (nI n)), (2, .int (nI line)), (3, .int (nI used))]) d_E_expand_80 rfl (by decide) rfl ?_
              refine aw_goto (tgt := 16) d_E_expand_83 (by decide) ?_
              refine aw_sub (lv' := [(0, .ref (ad 24)), (1, .int (nI n)), (2, .int (nI line)), (3, .int (nI used)), (4, .long (lI (sZ (fun c => if used.testBit c = true then 0 else sg used c * Z line c * exD Z n k (line + 1) (used ||| 2 ^ c)) (c + 1)))), (6, .long (lI (sg used (c + 1)))), (8, .int (nI (c + 1)))]) [4, 5, 6, 7, 2, 1, 0] rfl ?_
              exact ih (c + 1) (by omega) (by omega)
          · have eg : sg used c = sg used (c + 1) := by rw [sg, if_pos h2]
            have e0 : sZ (fun c => if used.testBit c = true then 0 else sg used c * Z line c * exD Z n k (line + 1) (used ||| 2 ^ c)) c = sZ (fun c => if used.testBit c = true then 0 else sg used c * Z line c * exD Z n k (line + 1) (used ||| 2 ^ c)) (c + 1) := by rw [sZ, if_pos h2, Int.add_zero]
            rw [e0, eg]
            refine aw_goto (tgt := 80) d_E_expand_31 (by decide) ?_
            refine aw_iinc1 (lv' := [(8, .int (nI (c + 1))), (0, .ref (ad 24)), (1, .int (nI n)), (2, .int (nI line)), (3, .int (nI used)), (4, .long (lI (sZ (fun c => if used.testBit c = true then 0 else sg used c * Z line c * exD Z n k (line + 1) (used ||| 2 ^ c)) (c + 1)))), (6, .long (lI (sg used (c + 1))))]) d_E_expand_80 rfl (by decide) rfl ?_
            refine aw_goto (tgt := 16) d_E_expand_83 (by decide) ?_
            refine aw_sub (lv' := [(0, .ref (ad 24)), (1, .int (nI n)), (2, .int (nI line)), (3, .int (nI used)), (4, .long (lI (sZ (fun c => if used.testBit c = true then 0 else sg used c * Z line c * exD Z n k (line + 1) (used ||| 2 ^ c)) (c + 1)))), (6, .long (lI (sg used (c + 1)))), (8, .int (nI (c + 1)))]) [1, 2, 3, 4, 5, 6, 0] rfl ?_
            exact ih (c + 1) (by omega) (by omega)
    refine aw_sub (lv' := [(0, .ref (ad 24)), (1, .int (nI n)), (2, .int (nI line)), (3, .int (nI used)), (4, .long (lI (sZ (fun c => if used.testBit c = true then 0 else sg used c * Z line c * exD Z n k (line + 1) (used ||| 2 ^ c)) 0))), (6, .long (lI (sg used 0))), (8, .int (nI 0))]) [3, 4, 5, 6, 2, 1, 0] rfl ?_
    exact lp (n + 1) 0 (by omega) (by omega)

set_option maxHeartbeats 4000000 in
set_option maxRecDepth 100000 in
theorem m_E_determinant {g : aw_G} (hg : aw_T g) {ws : va_W} {ad : Nat → Nat} {n : Nat} {Z : Nat → Nat → Int} (hE : gE g ws ad n Z) (hn : n ≤ 5) (hb : ∀ i j, i < n → j < n → -2 ^ 62 ≤ Z i j ∧ Z i j ≤ 2 ^ 62) : AMet g y_E_determinant c_E_determinant 1 (some .long) 8 [.ref (ad 23)] ws (aw_R (.long (lI (exD Z n n 0 0))) ws) 0 0 := by
  refine amet_of (by decide +kernel) (Nat.le_of_ble_eq_true rfl) ?_
  refine aw_sub (lv' := [(0, .ref (ad 23))]) [0] rfl ?_
  refine aw_aload_n d_E_determinant_0 rfl rfl ?_
  refine aw_get kc_4 1 (by decide) k_120 d_E_determinant_1 hE.1 rfl ?_
  refine aw_aload_n d_E_determinant_4 rfl rfl ?_
  refine aw_get kc_4 0 (by decide) k_119 d_E_determinant_5 hE.1 rfl ?_
  refine aw_iconst (v := nI 0) d_E_determinant_8 (by decide) ?_
  refine aw_iconst (v := nI 0) d_E_determinant_9 (by decide) ?_
  refine aw_callS (av := [.ref (ad 24), .int (nI n), .int (nI 0), .int (nI 0)]) (rest := []) (m_E_expand hg hE hn hb n 0 0 (by omega) (by decide)) kd_E_expand k_310 k_311  d_E_determinant_10 rfl ⟨by simp only [aw_rm]; omega, by simp only [aw_rm]; omega⟩ (Nat.le_of_ble_eq_true rfl) ⟨by simp only [aw_rm]; omega, by simp only [aw_rm]; omega⟩ rfl (fun v3 ws3 hq3 => ?_)
  obtain ⟨rfl, rfl⟩ := hq3
  exact aw_lret d_E_determinant_13 (Nat.le_refl 0) (Nat.le_refl 0) ⟨rfl, rfl⟩
end
section
-- laid by wip/whole/m7.py
def q_fac (g : aw_G) (ad : Nat → Nat) (ws : va_W) (n p q : Nat) (A B : Nat → Int) (f : Nat → Nat → Int) : Option Value → va_W → Prop := fun r ws' => r = none ∧ fr 30 39 ws ws' ∧ ∃ Z : Nat → Nat → Int, gP g ws' ad p q A B n Z ∧ ∀ i j, i < n → j < n → Z i j = f i j

set_option maxHeartbeats 4000000 in
set_option maxRecDepth 100000 in
theorem m_P_fillByWeights {g : aw_G} (hg : aw_T g) {ws : va_W} {ad : Nat → Nat} {n n0 p q x y : Nat} {W : Nat → Nat → Nat} {J : Nat → Nat} {A B : Nat → Int} {Z0 : Nat → Nat → Int} (hP : gP g ws ad p q A B n0 Z0) (hG : gG g ws ad n x y W J) (hn : n ≤ 5) (hb : ∀ i j, i < n → j < n → W i j ≤ 2) : AMet g y_P_fillByWeights c_P_fillByWeights 4 none 0 [.ref (ad 30), .ref (ad 1)] ws (q_fac g ad ws n p q A B (fun i j => (W i j : Int))) 0 0 := by
  refine amet_of (by decide +kernel) (Nat.le_of_ble_eq_true rfl) ?_
  refine aw_sub (lv' := [(0, .ref (ad 30)), (1, .ref (ad 1))]) [0, 1] rfl ?_
  have lp : ∀ (k : Nat) (ws1 : va_W) (Z : Nat → Nat → Int) (u : Nat), gP g ws1 ad p q A B n Z → gG g ws1 ad n x y W J → fr 30 39 ws ws1 → u ≤ n → (∀ i j, i < u → j < n → Z i j = (W i j : Int)) → n - u < k → AW g y_P_fillByWeights c_P_fillByWeights 4 none (aw_rm 0 0 0) aw_E0 (aw_F g (q_fac g ad ws n p q A B (fun i j => (W i j : Int))) 0 0) 0 0 10 [(0, .ref (ad 30)), (1, .ref (ad 1)), (2, .int (nI u))] [] ws1 := by
    intro k
    induction k with
    | zero => intro ws1 Z u hP1 hG1 hf hu hr hk; omega
    | succ k ih =>
      intro ws1 Z u hP1 hG1 hf hu hr hk
      have ihu := ih
      refine aw_iload_n d_P_fillByWeights_10 rfl rfl ?_
      refine aw_aload_n d_P_fillByWeights_11 rfl rfl ?_
      refine aw_get kc_5 2 (by decide) k_136 d_P_fillByWeights_12 hP1.2.1 rfl ?_
      refine aw_icmp_geN (tgt := 57) d_P_fillByWeights_15 (by decide) (by omega) (by omega) (fun h => ?_) (fun h => ?_)
      · have e : n = u := by omega
        subst e
        exact aw_vret d_P_fillByWeights_57 (Nat.le_refl 0) (Nat.le_refl 0) ⟨rfl, hf, Z, hP1, hr⟩
      · refine aw_iconst (v := nI 0) d_P_fillByWeights_18 (by decide) ?_
        refine aw_istore_n (lv' := [(3, .int (nI 0)), (0, .ref (ad 30)), (1, .ref (ad 1)), (2, .int (nI u))]) d_P_fillByWeights_19 rfl (by decide) rfl ?_
        have lq : ∀ (k : Nat) (ws2 : va_W) (Y : Nat → Nat → Int) (v : Nat), gP g ws2 ad p q A B n Y → gG g ws2 ad n x y W J → fr 30 39 ws ws2 → v ≤ n → (∀ i j, (i < u ∧ j < n) ∨ (i = u ∧ j < v) → Y i j = (W i j : Int)) → n - v < k → AW g y_P_fillByWeights c_P_fillByWeights 4 none (aw_rm 0 0 0) aw_E0 (aw_F g (q_fac g ad ws n p q A B (fun i j => (W i j : Int))) 0 0) 0 0 20 [(0, .ref (ad 30)), (1, .ref (ad 1)), (2, .int (nI u)), (3, .int (nI v))] [] ws2 := by
          intro k
          induction k with
          | zero => intro ws2 Y v hP2 hG2 hf2 hv hr2 hk2; omega
          | succ k ih =>
            intro ws2 Y v hP2 hG2 hf2 hv hr2 hk2
            refine aw_iload_n d_P_fillByWeights_20 rfl rfl ?_
            refine aw_aload_n d_P_fillByWeights_21 rfl rfl ?_
            refine aw_get kc_5 2 (by decide) k_136 d_P_fillByWeights_22 hP2.2.1 rfl ?_
            refine aw_icmp_geN (tgt := 51) d_P_fillByWeights_25 (by decide) (by omega) (by omega) (fun h1 => ?_) (fun h1 => ?_)
            · refine aw_iinc1 (lv' := [(2, .int (nI (u + 1))), (0, .ref (ad 30)), (1, .ref (ad 1)), (3, .int (nI v))]) d_P_fillByWeights_51 rfl (by decide) rfl ?_
              refine aw_goto (tgt := 10) d_P_fillByWeights_54 (by decide) ?_
              refine aw_sub (lv' := [(0, .ref (ad 30)), (1, .ref (ad 1)), (2, .int (nI (u + 1)))]) [1, 2, 0] rfl ?_
              exact ihu ws2 Y (u + 1) hP2 hG2 hf2 (by omega) (fun i j hi hj => hr2 i j (by omega)) (by omega)
            · have hb1 := hb u v h h1
              refine aw_aload_n d_P_fillByWeights_28 rfl rfl ?_
              refine aw_get kc_5 3 (by decide) k_137 d_P_fillByWeights_29 hP2.2.1 rfl ?_
              refine aw_iload_n d_P_fillByWeights_32 rfl rfl ?_
              refine aw_aaldL d_P_fillByWeights_33 hP2.2.2.2.2.1 hg (by omega) ?_
              refine aw_iload_n d_P_fillByWeights_34 rfl rfl ?_
              refine aw_aload_n d_P_fillByWeights_35 rfl rfl ?_
              refine aw_get kc_1 3 (by decide) k_35 d_P_fillByWeights_36 hG2.1 rfl ?_
              refine aw_iload_n d_P_fillByWeights_39 rfl rfl ?_
              refine aw_aaldI d_P_fillByWeights_40 hG2.2.1 hg (by omega) ?_
              refine aw_iload_n d_P_fillByWeights_41 rfl rfl ?_
              refine aw_ialdA d_P_fillByWeights_42 (hG2.2.2.1 u (by omega)) hg (by omega) (by decide) ?_
              refine aw_i2lN d_P_fillByWeights_43 (by omega) ?_
              refine aw_lastA d_P_fillByWeights_44 (hP2.2.2.2.2.2 u (by omega)) hg (by omega) (by decide) (fun zws1 za2 zb3 zc4 => ?_)
              have zF5 := fam_putL (lo := 34) hP2.2.2.2.2.2 za2 zb3
              have hP3 := hP2.putZ (by omega) za2 zb3
              have f3 := fr.one (lo := 30) (hi := 39) zb3 zc4 (by omega) (by omega)
              have hG3 := hG2.kept f3 (by omega)
              refine aw_iinc1 (lv' := [(3, .int (nI (v + 1))), (0, .ref (ad 30)), (1, .ref (ad 1)), (2, .int (nI u))]) d_P_fillByWeights_45 rfl (by decide) rfl ?_
              refine aw_goto (tgt := 20) d_P_fillByWeights_48 (by decide) ?_
              refine aw_sub (lv' := [(0, .ref (ad 30)), (1, .ref (ad 1)), (2, .int (nI u)), (3, .int (nI (v + 1)))]) [1, 2, 3, 0] rfl ?_
              exact ih _ _ (v + 1) hP3 hG3 (hf2.tr f3) (by omega) (fun i j hij => by
            unfold fup2
            by_cases e : i = u ∧ j = v
            · rw [if_pos e, e.1, e.2]
            · rw [if_neg e]; exact hr2 i j (by omega)) (by omega)
        refine aw_sub (lv' := [(0, .ref (ad 30)), (1, .ref (ad 1)), (2, .int (nI u)), (3, .int (nI 0))]) [1, 2, 3, 0] rfl ?_
        exact lq (n + 1) ws1 Z 0 hP1 hG1 hf (by omega) (fun i j hij => hr i j (by omega) (by omega)) (by omega)
  refine aw_aload_n d_P_fillByWeights_0 rfl rfl ?_
  refine aw_aload_n d_P_fillByWeights_1 rfl rfl ?_
  refine aw_get kc_1 0 (by decide) k_26 d_P_fillByWeights_2 hG.1 rfl ?_
  refine aw_putN kc_5 2 (by decide) k_136 d_P_fillByWeights_5 hP.2.1 rfl rfl rfl (Nat.le_of_ble_eq_true rfl) (fun zws6 za7 zb8 zc9 => ?_)
  have zf10 : zws6[30]? = some (ad 30, .inr (5, [.ref (ad p), .ref (ad q), .int (nI n), .ref (ad 33)])) := za7
  have hP2 := hP.putO (n' := n) za7 zb8
  have f2 := fr.one (lo := 30) (hi := 39) zb8 zc9 (by omega) (by omega)
  have hG2 := hG.kept f2 (by omega)
  refine aw_iconst (v := nI 0) d_P_fillByWeights_8 (by decide) ?_
  refine aw_istore_n (lv' := [(2, .int (nI 0)), (0, .ref (ad 30)), (1, .ref (ad 1))]) d_P_fillByWeights_9 rfl (by decide) rfl ?_
  refine aw_sub (lv' := [(0, .ref (ad 30)), (1, .ref (ad 1)), (2, .int (nI 0))]) [1, 2, 0] rfl ?_
  exact lp (n + 1) _ Z0 0 hP2 hG2 f2 (by omega) (fun i j hi _ => absurd hi (by omega)) (by omega)

set_option maxHeartbeats 4000000 in
set_option maxRecDepth 100000 in
theorem m_P_fillBySteps {g : aw_G} (hg : aw_T g) {ws : va_W} {ad : Nat → Nat} {n n0 p q m : Nat} {P : Nat → Nat → Nat} {T X : Nat → Nat} {A B : Nat → Int} {Z0 : Nat → Nat → Int} (hP : gP g ws ad p q A B n0 Z0) (hS : gS g ws ad n P T X) (hn : n ≤ 5) (hm : m < 2 ^ 62) (hb : ∀ i j, i < n → j < n → P i j ≤ 400) (hT : ∀ i, i < n → 0 < T i ∧ T i ≤ 400) : AMet g y_P_fillBySteps c_P_fillBySteps 8 none 0 [.ref (ad 30), .ref (ad 9), .long (lI (m : Int))] ws (q_fac g ad ws n p q A B (fun i j => ((m / T i : Nat) : Int) * (P i j : Int))) 0 0 := by
  refine amet_of (by decide +kernel) (Nat.le_of_ble_eq_true rfl) ?_
  refine aw_sub (lv' := [(0, .ref (ad 30)), (1, .ref (ad 9)), (2, .long (lI (m : Int)))]) [0, 1, 2] rfl ?_
  have lp : ∀ (k : Nat) (ws1 : va_W) (Z : Nat → Nat → Int) (u : Nat), gP g ws1 ad p q A B n Z → gS g ws1 ad n P T X → fr 30 39 ws ws1 → u ≤ n → (∀ i j, i < u → j < n → Z i j = ((m / T i : Nat) : Int) * (P i j : Int)) → n - u < k → AW g y_P_fillBySteps c_P_fillBySteps 8 none (aw_rm 0 0 0) aw_E0 (aw_F g (q_fac g ad ws n p q A B (fun i j => ((m / T i : Nat) : Int) * (P i j : Int))) 0 0) 0 0 11 [(0, .ref (ad 30)), (1, .ref (ad 9)), (2, .long (lI (m : Int))), (4, .int (nI u))] [] ws1 := by
    intro k
    induction k with
    | zero => intro ws1 Z u hP1 hS1 hf hu hr hk; omega
    | succ k ih =>
      intro ws1 Z u hP1 hS1 hf hu hr hk
      have ihu := ih
      refine aw_iload d_P_fillBySteps_11 rfl ?_
      refine aw_aload_n d_P_fillBySteps_13 rfl rfl ?_
      refine aw_get kc_5 2 (by decide) k_136 d_P_fillBySteps_14 hP1.2.1 rfl ?_
      refine aw_icmp_geN (tgt := 94) d_P_fillBySteps_17 (by decide) (by omega) (by omega) (fun h => ?_) (fun h => ?_)
      · have e : n = u := by omega
        subst e
        exact aw_vret d_P_fillBySteps_94 (Nat.le_refl 0) (Nat.le_refl 0) ⟨rfl, hf, Z, hP1, hr⟩
      · have hT1 := hT u h
        refine aw_aload_n d_P_fillBySteps_20 rfl rfl ?_
        refine aw_get kc_2 2 (by decide) k_70 d_P_fillBySteps_21 hS1.1 rfl ?_
        refine aw_iload d_P_fillBySteps_24 rfl ?_
        refine aw_ialdA d_P_fillBySteps_26 hS1.2.2.2.1 hg (by omega) (by decide) ?_
        refine aw_if_leN (tgt := 43) d_P_fillBySteps_27 (by decide) (by omega) (fun h0 => absurd h0 (by omega)) (fun h0 => ?_)
        refine aw_lload_n d_P_fillBySteps_30 rfl rfl ?_
        refine aw_aload_n d_P_fillBySteps_31 rfl rfl ?_
        refine aw_get kc_2 2 (by decide) k_70 d_P_fillBySteps_32 hS1.1 rfl ?_
        refine aw_iload d_P_fillBySteps_35 rfl ?_
        refine aw_ialdA d_P_fillBySteps_37 hS1.2.2.2.1 hg (by omega) (by decide) ?_
        refine aw_i2lN d_P_fillBySteps_38 (by omega) ?_
        refine aw_ldivI (a := m) (b := (T u)) d_P_fillBySteps_39 (by omega) (by omega) (by omega) ?_
        refine aw_goto (tgt := 44) d_P_fillBySteps_40 (by decide) ?_
        refine aw_lstore (lv' := [(5, .long (lI ((m / (T u) : Nat) : Int))), (0, .ref (ad 30)), (1, .ref (ad 9)), (2, .long (lI (m : Int))), (4, .int (nI u))]) d_P_fillBySteps_44 (by decide) rfl ?_
        refine aw_iconst (v := nI 0) d_P_fillBySteps_46 (by decide) ?_
        refine aw_istore (lv' := [(7, .int (nI 0)), (5, .long (lI ((m / (T u) : Nat) : Int))), (0, .ref (ad 30)), (1, .ref (ad 9)), (2, .long (lI (m : Int))), (4, .int (nI u))]) d_P_fillBySteps_47 (by decide) rfl ?_
        have lq : ∀ (k : Nat) (ws2 : va_W) (Y : Nat → Nat → Int) (v : Nat), gP g ws2 ad p q A B n Y → gS g ws2 ad n P T X → fr 30 39 ws ws2 → v ≤ n → (∀ i j, (i < u ∧ j < n) ∨ (i = u ∧ j < v) → Y i j = ((m / T i : Nat) : Int) * (P i j : Int)) → n - v < k → AW g y_P_fillBySteps c_P_fillBySteps 8 none (aw_rm 0 0 0) aw_E0 (aw_F g (q_fac g ad ws n p q A B (fun i j => ((m / T i : Nat) : Int) * (P i j : Int))) 0 0) 0 0 49 [(0, .ref (ad 30)), (1, .ref (ad 9)), (2, .long (lI (m : Int))), (4, .int (nI u)), (5, .long (lI ((m / (T u) : Nat) : Int))), (7, .int (nI v))] [] ws2 := by
          intro k
          induction k with
          | zero => intro ws2 Y v hP2 hS2 hf2 hv hr2 hk2; omega
          | succ k ih =>
            intro ws2 Y v hP2 hS2 hf2 hv hr2 hk2
            refine aw_iload d_P_fillBySteps_49 rfl ?_
            refine aw_aload_n d_P_fillBySteps_51 rfl rfl ?_
            refine aw_get kc_5 2 (by decide) k_136 d_P_fillBySteps_52 hP2.2.1 rfl ?_
            refine aw_icmp_geN (tgt := 88) d_P_fillBySteps_55 (by decide) (by omega) (by omega) (fun h1 => ?_) (fun h1 => ?_)
            · refine aw_iinc1 (lv' := [(4, .int (nI (u + 1))), (0, .ref (ad 30)), (1, .ref (ad 9)), (2, .long (lI (m : Int))), (5, .long (lI ((m / (T u) : Nat) : Int))), (7, .int (nI v))]) d_P_fillBySteps_88 rfl (by decide) rfl ?_
              refine aw_goto (tgt := 11) d_P_fillBySteps_91 (by decide) ?_
              refine aw_sub (lv' := [(0, .ref (ad 30)), (1, .ref (ad 9)), (2, .long (lI (m : Int))), (4, .int (nI (u + 1)))]) [1, 2, 3, 0] rfl ?_
              exact ihu ws2 Y (u + 1) hP2 hS2 hf2 (by omega) (fun i j hi hj => hr2 i j (by omega)) (by omega)
            · have hb1 := hb u v h h1
              refine aw_aload_n d_P_fillBySteps_58 rfl rfl ?_
              refine aw_get kc_5 3 (by decide) k_137 d_P_fillBySteps_59 hP2.2.1 rfl ?_
              refine aw_iload d_P_fillBySteps_62 rfl ?_
              refine aw_aaldL d_P_fillBySteps_64 hP2.2.2.2.2.1 hg (by omega) ?_
              refine aw_iload d_P_fillBySteps_65 rfl ?_
              refine aw_lload d_P_fillBySteps_67 rfl ?_
              refine aw_aload_n d_P_fillBySteps_69 rfl rfl ?_
              refine aw_get kc_2 1 (by decide) k_66 d_P_fillBySteps_70 hS2.1 rfl ?_
              refine aw_iload d_P_fillBySteps_73 rfl ?_
              refine aw_aaldI d_P_fillBySteps_75 hS2.2.1 hg (by omega) ?_
              refine aw_iload d_P_fillBySteps_76 rfl ?_
              refine aw_ialdA d_P_fillBySteps_78 (hS2.2.2.1 u (by omega)) hg (by omega) (by decide) ?_
              refine aw_i2lN d_P_fillBySteps_79 (by omega) ?_
              refine aw_lmulI d_P_fillBySteps_80 ?_
              refine aw_lastA d_P_fillBySteps_81 (hP2.2.2.2.2.2 u (by omega)) hg (by omega) (by decide) (fun zws1 za2 zb3 zc4 => ?_)
              have zF5 := fam_putL (lo := 34) hP2.2.2.2.2.2 za2 zb3
              have hP3 := hP2.putZ (by omega) za2 zb3
              have f3 := fr.one (lo := 30) (hi := 39) zb3 zc4 (by omega) (by omega)
              have hS3 := hS2.kept f3 (by omega)
              refine aw_iinc1 (lv' := [(7, .int (nI (v + 1))), (0, .ref (ad 30)), (1, .ref (ad 9)), (2, .long (lI (m : Int))), (4, .int (nI u)), (5, .long (lI ((m / (T u) : Nat) : Int)))]) d_P_fillBySteps_82 rfl (by decide) rfl ?_
              refine aw_goto (tgt := 49) d_P_fillBySteps_85 (by decide) ?_
              refine aw_sub (lv' := [(0, .ref (ad 30)), (1, .ref (ad 9)), (2, .long (lI (m : Int))), (4, .int (nI u)), (5, .long (lI ((m / (T u) : Nat) : Int))), (7, .int (nI (v + 1)))]) [1, 2, 3, 4, 5, 0] rfl ?_
              exact ih _ _ (v + 1) hP3 hS3 (hf2.tr f3) (by omega) (fun i j hij => by
            unfold fup2
            by_cases e : i = u ∧ j = v
            · rw [if_pos e, e.1, e.2]
            · rw [if_neg e]; exact hr2 i j (by omega)) (by omega)
        refine aw_sub (lv' := [(0, .ref (ad 30)), (1, .ref (ad 9)), (2, .long (lI (m : Int))), (4, .int (nI u)), (5, .long (lI ((m / (T u) : Nat) : Int))), (7, .int (nI 0))]) [2, 3, 4, 5, 1, 0] rfl ?_
        exact lq (n + 1) ws1 Z 0 hP1 hS1 hf (by omega) (fun i j hij => hr i j (by omega) (by omega)) (by omega)
  refine aw_aload_n d_P_fillBySteps_0 rfl rfl ?_
  refine aw_aload_n d_P_fillBySteps_1 rfl rfl ?_
  refine aw_get kc_2 0 (by decide) k_63 d_P_fillBySteps_2 hS.1 rfl ?_
  refine aw_putN kc_5 2 (by decide) k_136 d_P_fillBySteps_5 hP.2.1 rfl rfl rfl (Nat.le_of_ble_eq_true rfl) (fun zws6 za7 zb8 zc9 => ?_)
  have zf10 : zws6[30]? = some (ad 30, .inr (5, [.ref (ad p), .ref (ad q), .int (nI n), .ref (ad 33)])) := za7
  have hP2 := hP.putO (n' := n) za7 zb8
  have f2 := fr.one (lo := 30) (hi := 39) zb8 zc9 (by omega) (by omega)
  have hS2 := hS.kept f2 (by omega)
  refine aw_iconst (v := nI 0) d_P_fillBySteps_8 (by decide) ?_
  refine aw_istore (lv' := [(4, .int (nI 0)), (0, .ref (ad 30)), (1, .ref (ad 9)), (2, .long (lI (m : Int)))]) d_P_fillBySteps_9 (by decide) rfl ?_
  refine aw_sub (lv' := [(0, .ref (ad 30)), (1, .ref (ad 9)), (2, .long (lI (m : Int))), (4, .int (nI 0))]) [1, 2, 3, 0] rfl ?_
  exact lp (n + 1) _ Z0 0 hP2 hS2 f2 (by omega) (fun i j hi _ => absurd hi (by omega)) (by omega)

set_option maxHeartbeats 4000000 in
set_option maxRecDepth 100000 in
theorem m_P_numberAt {g : aw_G} (hg : aw_T g) {ws : va_W} {ad : Nat → Nat} {n p q v : Nat} {A B : Nat → Int} {Z : Nat → Nat → Int} (hP : gP g ws ad p q A B n Z) (hv : v < 5) : AMet g y_P_numberAt c_P_numberAt 2 (some .long) 0 [.ref (ad 30), .int (nI v)] ws (aw_R (.long (lI (A v))) ws) 0 0 := by
  refine amet_of (by decide +kernel) (Nat.le_of_ble_eq_true rfl) ?_
  refine aw_sub (lv' := [(0, .ref (ad 30)), (1, .int (nI v))]) [0, 1] rfl ?_
  refine aw_aload_n d_P_numberAt_0 rfl rfl ?_
  refine aw_get kc_5 0 (by decide) k_134 d_P_numberAt_1 hP.2.1 rfl ?_
  refine aw_iload_n d_P_numberAt_4 rfl rfl ?_
  refine aw_laldA d_P_numberAt_5 hP.2.2.1 hg (by omega) (by decide) ?_
  exact aw_lret d_P_numberAt_6 (Nat.le_refl 0) (Nat.le_refl 0) ⟨rfl, rfl⟩

def q_move (g : aw_G) (ad : Nat → Nat) (ws : va_W) (n p q : Nat) (A : Nat → Int) (Z : Nat → Nat → Int) : Option Value → va_W → Prop := fun r ws' => r = none ∧ fr 30 39 ws ws' ∧ ∃ B : Nat → Int, gP g ws' ad q p B A n Z ∧ ∀ v, v < n → B v = mv Z n A v

set_option maxHeartbeats 4000000 in
set_option maxRecDepth 100000 in
theorem m_P_move {g : aw_G} (hg : aw_T g) {ws : va_W} {ad : Nat → Nat} {n p q : Nat} {A B : Nat → Int} {Z : Nat → Nat → Int} (hP : gP g ws ad p q A B n Z) (hn : n ≤ 5) : AMet g y_P_move c_P_move 3 none 0 [.ref (ad 30)] ws (q_move g ad ws n p q A Z) 0 0 := by
  have hpq := hP.1
  refine amet_of (by decide +kernel) (Nat.le_of_ble_eq_true rfl) ?_
  refine aw_sub (lv' := [(0, .ref (ad 30))]) [0] rfl ?_
  refine aw_iconst (v := nI 0) d_P_move_0 (by decide) ?_
  refine aw_istore_n (lv' := [(1, .int (nI 0)), (0, .ref (ad 30))]) d_P_move_1 rfl (by decide) rfl ?_
  have lp : ∀ (k : Nat) (ws1 : va_W) (B1 : Nat → Int) (v : Nat), gP g ws1 ad p q A B1 n Z → fr 30 39 ws ws1 → v ≤ n → (∀ i, i < v → B1 i = mv Z n A i) → n - v < k → AW g y_P_move c_P_move 3 none (aw_rm 0 0 0) aw_E0 (aw_F g (q_move g ad ws n p q A Z) 0 0) 0 0 2 [(0, .ref (ad 30)), (1, .int (nI v))] [] ws1 := by
    intro k
    induction k with
    | zero => intro ws1 B1 v hP1 hf hv hr hk; omega
    | succ k ih =>
      intro ws1 B1 v hP1 hf hv hr hk
      have ihu := ih
      refine aw_iload_n d_P_move_2 rfl rfl ?_
      refine aw_aload_n d_P_move_3 rfl rfl ?_
      refine aw_get kc_5 2 (by decide) k_136 d_P_move_4 hP1.2.1 rfl ?_
      refine aw_icmp_geN (tgt := 63) d_P_move_7 (by decide) (by omega) (by omega) (fun h => ?_) (fun h => ?_)
      · have e : n = v := by omega
        subst e
        refine aw_aload_n d_P_move_63 rfl rfl ?_
        refine aw_get kc_5 0 (by decide) k_134 d_P_move_64 hP1.2.1 rfl ?_
        refine aw_astore_n (lv' := [(1, .ref (ad p)), (0, .ref (ad 30))]) d_P_move_67 rfl (by decide) rfl ?_
        refine aw_aload_n d_P_move_68 rfl rfl ?_
        refine aw_aload_n d_P_move_69 rfl rfl ?_
        refine aw_get kc_5 1 (by decide) k_135 d_P_move_70 hP1.2.1 rfl ?_
        refine aw_putN kc_5 0 (by decide) k_134 d_P_move_73 hP1.2.1 rfl rfl rfl (Nat.le_of_ble_eq_true rfl) (fun zws1 za2 zb3 zc4 => ?_)
        have zf5 : zws1[30]? = some (ad 30, .inr (5, [.ref (ad q), .ref (ad q), .int (nI n), .ref (ad 33)])) := za2
        refine aw_aload_n d_P_move_76 rfl rfl ?_
        refine aw_aload_n d_P_move_77 rfl rfl ?_
        refine aw_putN kc_5 1 (by decide) k_135 d_P_move_78 zf5 rfl rfl rfl (Nat.le_of_ble_eq_true rfl) (fun zws6 za7 zb8 zc9 => ?_)
        have zf10 : zws6[30]? = some (ad 30, .inr (5, [.ref (ad q), .ref (ad p), .int (nI n), .ref (ad 33)])) := za7
        have f3 := (hf.tr (fr.one (lo := 30) (hi := 39) zb3 zc4 (by have := hP.1; omega) (by have := hP.1; omega))).tr (fr.one (lo := 30) (hi := 39) zb8 zc9 (by have := hP.1; omega) (by have := hP.1; omega))
        exact aw_vret d_P_move_81 (Nat.le_refl 0) (Nat.le_refl 0) ⟨rfl, f3, B1, ⟨by omega, za7, (zb8 q (by omega)).trans ((zb3 q (by omega)).trans hP1.2.2.2.1), (zb8 p (by omega)).trans ((zb3 p (by omega)).trans hP1.2.2.1), (zb8 33 (by omega)).trans ((zb3 33 (by omega)).trans hP1.2.2.2.2.1), fun i hi => (zb8 _ (by omega)).trans ((zb3 _ (by omega)).trans (hP1.2.2.2.2.2 i hi))⟩, hr⟩
      · refine aw_aload_n d_P_move_10 rfl rfl ?_
        refine aw_get kc_5 1 (by decide) k_135 d_P_move_11 hP1.2.1 rfl ?_
        refine aw_iload_n d_P_move_14 rfl rfl ?_
        refine aw_lconst (v := lI 0) d_P_move_15 (by decide) ?_
        refine aw_lastA d_P_move_16 hP1.2.2.2.1 hg (by omega) (by decide) (fun zws11 za12 zb13 zc14 => ?_)
        have hP2 := hP1.putB za12 zb13
        have f2 := fr.one (lo := 30) (hi := 39) zb13 zc14 (by have := hP.1; omega) (by have := hP.1; omega)
        refine aw_iconst (v := nI 0) d_P_move_17 (by decide) ?_
        refine aw_istore_n (lv' := [(2, .int (nI 0)), (0, .ref (ad 30)), (1, .int (nI v))]) d_P_move_18 rfl (by decide) rfl ?_
        have lq : ∀ (k : Nat) (ws2 : va_W) (B2 : Nat → Int) (u : Nat), gP g ws2 ad p q A B2 n Z → fr 30 39 ws ws2 → u ≤ n → (∀ i, i ≠ v → B2 i = B1 i) → B2 v = sZ (fun u => A u * Z u v) u → n - u < k → AW g y_P_move c_P_move 3 none (aw_rm 0 0 0) aw_E0 (aw_F g (q_move g ad ws n p q A Z) 0 0) 0 0 19 [(0, .ref (ad 30)), (1, .int (nI v)), (2, .int (nI u))] [] ws2 := by
          intro k
          induction k with
          | zero => intro ws2 B2 u hP3 hf2 hu hr2 hu2 hk2; omega
          | succ k ih =>
            intro ws2 B2 u hP3 hf2 hu hr2 hu2 hk2
            refine aw_iload_n d_P_move_19 rfl rfl ?_
            refine aw_aload_n d_P_move_20 rfl rfl ?_
            refine aw_get kc_5 2 (by decide) k_136 d_P_move_21 hP3.2.1 rfl ?_
            refine aw_icmp_geN (tgt := 57) d_P_move_24 (by decide) (by omega) (by omega) (fun h1 => ?_) (fun h1 => ?_)
            · have e : u = n := by omega
              rw [e] at hu2
              refine aw_iinc1 (lv' := [(1, .int (nI (v + 1))), (0, .ref (ad 30)), (2, .int (nI u))]) d_P_move_57 rfl (by decide) rfl ?_
              refine aw_goto (tgt := 2) d_P_move_60 (by decide) ?_
              refine aw_sub (lv' := [(0, .ref (ad 30)), (1, .int (nI (v + 1)))]) [1, 0] rfl ?_
              exact ihu ws2 B2 (v + 1) hP3 hf2 (by omega) (fun i hi => by
            by_cases e : i = v
            · rw [e, hu2]; rfl
            · rw [hr2 i e]; exact hr i (by omega)) (by omega)
            · refine aw_aload_n d_P_move_27 rfl rfl ?_
              refine aw_get kc_5 1 (by decide) k_135 d_P_move_28 hP3.2.1 rfl ?_
              refine aw_iload_n d_P_move_31 rfl rfl ?_
              refine aw_dup2_11 d_P_move_32 rfl rfl ?_
              refine aw_laldA d_P_move_33 hP3.2.2.2.1 hg (by omega) (by decide) ?_
              refine aw_aload_n d_P_move_34 rfl rfl ?_
              refine aw_get kc_5 0 (by decide) k_134 d_P_move_35 hP3.2.1 rfl ?_
              refine aw_iload_n d_P_move_38 rfl rfl ?_
              refine aw_laldA d_P_move_39 hP3.2.2.1 hg (by omega) (by decide) ?_
              refine aw_aload_n d_P_move_40 rfl rfl ?_
              refine aw_get kc_5 3 (by decide) k_137 d_P_move_41 hP3.2.1 rfl ?_
              refine aw_iload_n d_P_move_44 rfl rfl ?_
              refine aw_aaldL d_P_move_45 hP3.2.2.2.2.1 hg (by omega) ?_
              refine aw_iload_n d_P_move_46 rfl rfl ?_
              refine aw_laldA d_P_move_47 (hP3.2.2.2.2.2 u (by omega)) hg (by omega) (by decide) ?_
              refine aw_lmulI d_P_move_48 ?_
              refine aw_laddI d_P_move_49 ?_
              refine aw_lastA d_P_move_50 hP3.2.2.2.1 hg (by omega) (by decide) (fun zws15 za16 zb17 zc18 => ?_)
              have hP4 := hP3.putB za16 zb17
              have f4 := fr.one (lo := 30) (hi := 39) zb17 zc18 (by have := hP.1; omega) (by have := hP.1; omega)
              refine aw_iinc1 (lv' := [(2, .int (nI (u + 1))), (0, .ref (ad 30)), (1, .int (nI v))]) d_P_move_51 rfl (by decide) rfl ?_
              refine aw_goto (tgt := 19) d_P_move_54 (by decide) ?_
              refine aw_sub (lv' := [(0, .ref (ad 30)), (1, .int (nI v)), (2, .int (nI (u + 1)))]) [1, 2, 0] rfl ?_
              exact ih _ _ (u + 1) hP4 (hf2.tr f4) (by omega) (fun i hi => by rw [fup_n hi]; exact hr2 i hi) (by rw [fup_s, hu2]; rfl) (by omega)
        refine aw_sub (lv' := [(0, .ref (ad 30)), (1, .int (nI v)), (2, .int (nI 0))]) [1, 2, 0] rfl ?_
        exact lq (n + 1) _ _ 0 hP2 (hf.tr f2) (by omega) (fun i hi => fup_n hi) (by rw [fup_s]; rfl) (by omega)
  refine aw_sub (lv' := [(0, .ref (ad 30)), (1, .int (nI 0))]) [1, 0] rfl ?_
  exact lp (n + 1) ws B 0 hP fr.rf (by omega) (fun i hi => absurd hi (by omega)) (by omega)

def q_run (g : aw_G) (ad : Nat → Nat) (ws : va_W) (n : Nat) (Z : Nat → Nat → Int) (A : Nat → Int) (m : Nat) : Option Value → va_W → Prop := fun r ws' => r = none ∧ fr 30 39 ws ws' ∧ ∃ (p q : Nat) (A' B' : Nat → Int), gP g ws' ad p q A' B' n Z ∧ ∀ v, v < n → A' v = itM Z n A m v
def dl (u : Nat) : Nat → Int := fun v => if v = u then 1 else 0

set_option maxHeartbeats 4000000 in
set_option maxRecDepth 100000 in
theorem m_P_run {g : aw_G} (hg : aw_T g) {ws : va_W} {ad : Nat → Nat} {n p q u m : Nat} {A B : Nat → Int} {Z : Nat → Nat → Int} (hP : gP g ws ad p q A B n Z) (hn : n ≤ 5) (hu : u < n) (hm : m ≤ 12) : AMet g y_P_run c_P_run 4 none 1 [.ref (ad 30), .int (nI u), .int (nI m)] ws (q_run g ad ws n Z (dl u) m) 0 0 := by
  refine amet_of (by decide +kernel) (Nat.le_of_ble_eq_true rfl) ?_
  refine aw_sub (lv' := [(0, .ref (ad 30)), (1, .int (nI u)), (2, .int (nI m))]) [0, 1, 2] rfl ?_
  have lq : ∀ (k : Nat) (ws1 : va_W) (p1 q1 : Nat) (A1 B1 : Nat → Int) (i : Nat), gP g ws1 ad p1 q1 A1 B1 n Z → fr 30 39 ws ws1 → i ≤ m → (∀ v, v < n → A1 v = itM Z n (dl u) i v) → m - i < k → AW g y_P_run c_P_run 4 none (aw_rm 1 0 0) aw_E0 (aw_F g (q_run g ad ws n Z (dl u) m) 0 0) 0 0 34 [(0, .ref (ad 30)), (1, .int (nI u)), (2, .int (nI m)), (3, .int (nI i))] [] ws1 := by
    intro k
    induction k with
    | zero => intro ws1 p1 q1 A1 B1 i hP1 hf hi hr hk; omega
    | succ k ih =>
      intro ws1 p1 q1 A1 B1 i hP1 hf hi hr hk
      refine aw_iload_n d_P_run_34 rfl rfl ?_
      refine aw_iload_n d_P_run_35 rfl rfl ?_
      refine aw_icmp_geN (tgt := 49) d_P_run_36 (by decide) (by omega) (by omega) (fun h => ?_) (fun h => ?_)
      · have e : m = i := by omega
        subst e
        exact aw_vret d_P_run_49 (Nat.le_refl 0) (Nat.le_refl 0) ⟨rfl, hf, p1, q1, A1, B1, hP1, hr⟩
      · refine aw_aload_n d_P_run_39 rfl rfl ?_
        refine aw_callV (av := []) (rest := []) (m_P_move hg hP1 hn) kd_P_move k_372 k_374 ks_P_move rfl hP1.2.1 d_P_run_40 rfl ⟨by decide, by decide⟩ (Nat.le_of_ble_eq_true rfl) ⟨by decide, by decide⟩ rfl (fun v2 ws2 hq2 => ?_)
        obtain ⟨rfl, f2, B2, hP2, hB2⟩ := hq2
        refine aw_iinc1 (lv' := [(3, .int (nI (i + 1))), (0, .ref (ad 30)), (1, .int (nI u)), (2, .int (nI m))]) d_P_run_43 rfl (by decide) rfl ?_
        refine aw_goto (tgt := 34) d_P_run_46 (by decide) ?_
        refine aw_sub (lv' := [(0, .ref (ad 30)), (1, .int (nI u)), (2, .int (nI m)), (3, .int (nI (i + 1)))]) [1, 2, 3, 0] rfl ?_
        exact ih _ _ _ _ _ (i + 1) hP2 (hf.tr f2) (by omega) (fun v hv => by rw [hB2 v hv]; exact mv_congr hr v) (by omega)
  refine aw_iconst (v := nI 0) d_P_run_0 (by decide) ?_
  refine aw_istore_n (lv' := [(3, .int (nI 0)), (0, .ref (ad 30)), (1, .int (nI u)), (2, .int (nI m))]) d_P_run_1 rfl (by decide) rfl ?_
  have lp : ∀ (k : Nat) (ws1 : va_W) (A1 : Nat → Int) (v : Nat), gP g ws1 ad p q A1 B n Z → fr 30 39 ws ws1 → v ≤ n → (∀ i, i < v → A1 i = dl u i) → n - v < k → AW g y_P_run c_P_run 4 none (aw_rm 1 0 0) aw_E0 (aw_F g (q_run g ad ws n Z (dl u) m) 0 0) 0 0 2 [(0, .ref (ad 30)), (1, .int (nI u)), (2, .int (nI m)), (3, .int (nI v))] [] ws1 := by
    intro k
    induction k with
    | zero => intro ws1 A1 v hP1 hf hv hr hk; omega
    | succ k ih =>
      intro ws1 A1 v hP1 hf hv hr hk
      refine aw_iload_n d_P_run_2 rfl rfl ?_
      refine aw_aload_n d_P_run_3 rfl rfl ?_
      refine aw_get kc_5 2 (by decide) k_136 d_P_run_4 hP1.2.1 rfl ?_
      refine aw_icmp_geN (tgt := 32) d_P_run_7 (by decide) (by omega) (by omega) (fun h => ?_) (fun h => ?_)
      · have e : v = n := by omega
        rw [e] at hr
        refine aw_iconst (v := nI 0) d_P_run_32 (by decide) ?_
        refine aw_istore_n (lv' := [(3, .int (nI 0)), (0, .ref (ad 30)), (1, .int (nI u)), (2, .int (nI m))]) d_P_run_33 rfl (by decide) rfl ?_
        refine aw_sub (lv' := [(0, .ref (ad 30)), (1, .int (nI u)), (2, .int (nI m)), (3, .int (nI 0))]) [1, 2, 3, 0] rfl ?_
        exact lq (m + 1) _ _ _ _ _ 0 hP1 hf (by omega) hr (by omega)
      · refine aw_aload_n d_P_run_10 rfl rfl ?_
        refine aw_get kc_5 0 (by decide) k_134 d_P_run_11 hP1.2.1 rfl ?_
        refine aw_iload_n d_P_run_14 rfl rfl ?_
        refine aw_iload_n d_P_run_15 rfl rfl ?_
        refine aw_iload_n d_P_run_16 rfl rfl ?_
        refine aw_icmp_neN (tgt := 24) d_P_run_17 (by decide) (by omega) (by omega) (fun h2 => ?_) (fun h2 => ?_)
        · refine aw_lconst (v := lI 0) d_P_run_24 (by decide) ?_
          refine aw_lastA d_P_run_25 hP1.2.2.1 hg (by omega) (by decide) (fun zws1 za2 zb3 zc4 => ?_)
          have hP2 := hP1.putA za2 zb3
          have f2 := fr.one (lo := 30) (hi := 39) zb3 zc4 (by have := hP.1; omega) (by have := hP.1; omega)
          refine aw_iinc1 (lv' := [(3, .int (nI (v + 1))), (0, .ref (ad 30)), (1, .int (nI u)), (2, .int (nI m))]) d_P_run_26 rfl (by decide) rfl ?_
          refine aw_goto (tgt := 2) d_P_run_29 (by decide) ?_
          refine aw_sub (lv' := [(0, .ref (ad 30)), (1, .int (nI u)), (2, .int (nI m)), (3, .int (nI (v + 1)))]) [1, 2, 3, 0] rfl ?_
          exact ih _ _ (v + 1) hP2 (hf.tr f2) (by omega) (fun i hi => by
            by_cases e : i = v
            · rw [e, fup_s]; unfold dl; rw [if_neg h2]
            · rw [fup_n e]; exact hr i (by omega)) (by omega)
        · refine aw_lconst (v := lI 1) d_P_run_20 (by decide) ?_
          refine aw_goto (tgt := 25) d_P_run_21 (by decide) ?_
          refine aw_lastA d_P_run_25 hP1.2.2.1 hg (by omega) (by decide) (fun zws5 za6 zb7 zc8 => ?_)
          have hP2 := hP1.putA za6 zb7
          have f2 := fr.one (lo := 30) (hi := 39) zb7 zc8 (by have := hP.1; omega) (by have := hP.1; omega)
          refine aw_iinc1 (lv' := [(3, .int (nI (v + 1))), (0, .ref (ad 30)), (1, .int (nI u)), (2, .int (nI m))]) d_P_run_26 rfl (by decide) rfl ?_
          refine aw_goto (tgt := 2) d_P_run_29 (by decide) ?_
          refine aw_sub (lv' := [(0, .ref (ad 30)), (1, .int (nI u)), (2, .int (nI m)), (3, .int (nI (v + 1)))]) [1, 2, 3, 0] rfl ?_
          exact ih _ _ (v + 1) hP2 (hf.tr f2) (by omega) (fun i hi => by
            by_cases e : i = v
            · rw [e, fup_s]; unfold dl; rw [if_pos h2]
            · rw [fup_n e]; exact hr i (by omega)) (by omega)
  refine aw_sub (lv' := [(0, .ref (ad 30)), (1, .int (nI u)), (2, .int (nI m)), (3, .int (nI 0))]) [1, 2, 3, 0] rfl ?_
  exact lp (n + 1) ws A 0 hP fr.rf (by omega) (fun i hi => absurd hi (by omega)) (by omega)
end
section
-- the whole class between two calls
/-- what is beside the graph, of any content -/
def gRest (g : aw_G) (ws : va_W) (ad : Nat → Nat) : Prop := (∃ (m : Nat) (P : Nat → Nat → Nat) (T X : Nat → Nat), gS g ws ad m P T X) ∧ (∃ (q m : Nat) (M L D : Nat → Nat) (O : Nat → Int32), gC g ws ad q M L O m D) ∧ (∃ (m : Nat) (Z : Nat → Nat → Int), gE g ws ad m Z) ∧ (∃ (p q m : Nat) (A B : Nat → Int) (Z : Nat → Nat → Int), gP g ws ad p q A B m Z) ∧ ∃ A : Nat → Int, gH g ws ad A
def gK (g : aw_G) (ws : va_W) (ad : Nat → Nat) (n x y : Nat) (W : Nat → Nat → Nat) (J : Nat → Nat) (P : Nat → Nat → Nat) (T X : Nat → Nat) (q : Nat) (M L : Nat → Nat) (O : Nat → Int32) (D : Nat → Nat) : Prop :=
  gW ws ad ∧ gG g ws ad n x y W J ∧ okG n x y W J ∧ gS g ws ad n P T X ∧ okS n x y W J P T X ∧ gC g ws ad q M L O n D ∧ (∀ u, u < n → D u = Dm X n u) ∧ IC n D n q M L O ∧ (∃ (m : Nat) (Z : Nat → Nat → Int), gE g ws ad m Z) ∧ (∃ (p q m : Nat) (A B : Nat → Int) (Z : Nat → Nat → Int), gP g ws ad p q A B m Z) ∧ ∃ A : Nat → Int, gH g ws ad A
theorem gK.rest {g : aw_G} {ws : va_W} {ad : Nat → Nat} {n x y : Nat} {W : Nat → Nat → Nat} {J : Nat → Nat} {P : Nat → Nat → Nat} {T X : Nat → Nat} {q : Nat} {M L : Nat → Nat} {O : Nat → Int32} {D : Nat → Nat} (h : gK g ws ad n x y W J P T X q M L O D) : gRest g ws ad :=
  ⟨⟨_, _, _, _, h.2.2.2.1⟩, ⟨_, _, _, _, _, _, h.2.2.2.2.2.1⟩, h.2.2.2.2.2.2.2.2.1, h.2.2.2.2.2.2.2.2.2.1, h.2.2.2.2.2.2.2.2.2.2⟩
theorem gRest.kept {g : aw_G} {ws ws' : va_W} {ad : Nat → Nat} (h : gRest g ws ad) {hi : Nat} (f : fr 1 hi ws ws') (hh : hi ≤ 9) : gRest g ws' ad := by
  obtain ⟨⟨m, P, T, X, h1⟩, ⟨q, m2, M, L, D, O, h2⟩, ⟨m3, Z, h3⟩, ⟨p, q4, m4, A, B, Z4, h4⟩, ⟨A5, h5⟩⟩ := h
  exact ⟨⟨m, P, T, X, h1.kept f (by omega)⟩, ⟨q, m2, M, L, D, O, h2.kept f (by omega)⟩, ⟨m3, Z, h3.kept f (by omega)⟩, ⟨p, q4, m4, A, B, Z4, h4.kept f (by omega)⟩, ⟨A5, (f.1 39 (by omega)).trans h5⟩⟩
def qMut (g : aw_G) (ad : Nat → Nat) (ws : va_W) (r0 : Option Value) (n x y : Nat) (W : Nat → Nat → Nat) (J : Nat → Nat) : Option Value → va_W → Prop := fun r ws' => r = r0 ∧ fr 0 40 ws ws' ∧ ∃ (P : Nat → Nat → Nat) (T X : Nat → Nat) (q : Nat) (M L : Nat → Nat) (O : Nat → Int32) (D : Nat → Nat), gK g ws' ad n x y W J P T X q M L O D
def qQry (g : aw_G) (ad : Nat → Nat) (ws : va_W) (v0 : Value) (n x y : Nat) (W : Nat → Nat → Nat) (J : Nat → Nat) (P : Nat → Nat → Nat) (T X : Nat → Nat) (q : Nat) (M L : Nat → Nat) (O : Nat → Int32) (D : Nat → Nat) : Option Value → va_W → Prop := fun r ws' => r = some v0 ∧ fr 0 40 ws ws' ∧ gK g ws' ad n x y W J P T X q M L O D
theorem okS.X {n x y : Nat} {W : Nat → Nat → Nat} {J : Nat → Nat} {P : Nat → Nat → Nat} {T X : Nat → Nat} (h : okS n x y W J P T X) (hn : n ≤ 5) : okX n X := ⟨hn, fun u hu => by
  rw [(h u hu).2.2]
  refine ⟨mk_32 _ hn, fun j hj => ?_⟩
  rw [mk_bit] at hj
  simp at hj
  exact hj.1⟩
theorem okS.P4 {n x y : Nat} {W : Nat → Nat → Nat} {J : Nat → Nat} {P : Nat → Nat → Nat} {T X : Nat → Nat} (h : okS n x y W J P T X) (hg : okG n x y W J) {i j : Nat} (hi : i < n) (hj : j < n) : P i j ≤ 400 ∧ T i ≤ 400 := by
  obtain ⟨h1, h2, -⟩ := h i hi
  obtain ⟨-, n4, -⟩ := nr_ok hg hi
  rw [h1 j hj, h2]
  exact ⟨Nat.le_trans (nr_le hj) n4, n4⟩
/-- is there such a node (set, place) -/
def nb (n : Nat) (x : Int32) : Bool := decide (¬ x < 0 ∧ ¬ nI n ≤ x)
theorem nb_true {n : Nat} {x : Int32} (hn : n ≤ 5) (h : nb n x = true) : ∃ j, j < n ∧ x = nI j := by
  unfold nb at h
  rw [decide_eq_true_eq] at h
  rcases pk_ix x (n := n) (by omega) with q | q | q
  · exact absurd q h.1
  · exact absurd q h.2
  · exact q
def pb (x : Int32) : Bool := decide (x = 0 ∨ x = 1)
theorem pb_true {x : Int32} (h : pb x = true) : ∃ j, j < 2 ∧ x = nI j := by
  unfold pb at h
  rw [decide_eq_true_eq] at h
  rcases h with h | h
  · exact ⟨0, by decide, h⟩
  · exact ⟨1, by decide, h⟩
/-- is it in 0 .. m -/
def ib (m : Nat) (x : Int32) : Bool := decide (¬ x < 0 ∧ x ≤ nI m)
theorem ib_true {m : Nat} {x : Int32} (hm : m < 2 ^ 30) (h : ib m x = true) : ∃ j, j ≤ m ∧ x = nI j := by
  unfold ib at h
  rw [decide_eq_true_eq] at h
  exact nI_of2 (nI_toInt (by omega)) h.1 h.2
theorem ib_lt {m : Nat} {x : Int32} (h : x < 0) : ib m x = false := by unfold ib; simp [h]
theorem ib_gt {m : Nat} {x : Int32} (h : ¬ x ≤ nI m) : ib m x = false := by unfold ib; simp [h]
theorem ib_in {m : Nat} {x : Int32} (h1 : ¬ x < 0) (h2 : x ≤ nI m) : ib m x = true := by unfold ib; simp [h1, h2]
def ix (x : Int32) : Nat := x.toNatClampNeg
theorem ix_nI {j : Nat} (h : j < 2 ^ 31) : ix (nI j) = j := nI_clamp h
-- the answers of the calls that read or change the graph
def nodeW (n : Nat) (W : Nat → Nat → Nat) : Nat → Nat → Nat := fun i j => if (i = n ∧ j ≤ n) ∨ (j = n ∧ i ≤ n) then 0 else W i j
def aWeight (n : Nat) (W : Nat → Nat → Nat) (u v w : Int32) : Int32 := if nb n u = true ∧ nb n v = true then (if ib 2 w = true then nI (W (ix u) (ix v)) else -2) else -1
def wWeight (n : Nat) (W : Nat → Nat → Nat) (u v w : Int32) : Nat → Nat → Nat := if nb n u = true ∧ nb n v = true ∧ ib 2 w = true then fup2 W (ix u) (ix v) (ix w) else W
def aJump (n : Nat) (J : Nat → Nat) (v w : Int32) : Int32 := if nb n v = true then (if ib 2 w = true then nI (J (ix v)) else -2) else -1
def jJump (n : Nat) (J : Nat → Nat) (v w : Int32) : Nat → Nat := if nb n v = true ∧ ib 2 w = true then fup J (ix v) (ix w) else J
def kb (x y : Int32) : Bool := decide (¬ y < 1 ∧ ¬ 4 < y ∧ ¬ x < 0 ∧ x ≤ y)
theorem kb_true {x y : Int32} (h : kb x y = true) : ∃ a b, a ≤ b ∧ 1 ≤ b ∧ b ≤ 4 ∧ x = nI a ∧ y = nI b := by
  unfold kb at h
  rw [decide_eq_true_eq] at h
  obtain ⟨h1, h2, h3, h4⟩ := h
  have h0 : ¬ y < 0 := fun q => h1 (Int32.lt_trans q (by decide))
  obtain ⟨b, hb, rfl⟩ := nI_of h0
  obtain ⟨a, ha, rfl⟩ := nI_of h3
  have e1 : (1 : Int32) = nI 1 := rfl
  have e4 : (4 : Int32) = nI 4 := rfl
  rw [e1, nI_ltI hb (by decide)] at h1
  rw [e4, nI_ltI (by decide) hb] at h2
  rw [nI_leI ha hb] at h4
  exact ⟨a, b, h4, by omega, by omega, rfl, rfl⟩
def aRow (n x y : Nat) (W : Nat → Nat → Nat) (J : Nat → Nat) (u v : Int32) : Int32 := if nb n u = true ∧ nb n v = true then nI (nr n x y W J (ix u) (ix v)) else -1
def aTotal (n x y : Nat) (W : Nat → Nat → Nat) (J : Nat → Nat) (u : Int32) : Int32 := if nb n u = true then nI (tt n x y W J (ix u)) else -1
end
section
-- drawing; walks; chances behind some steps
def pkF (f : Nat → Nat) (t : Nat) : Nat → Nat → Nat
  | 0, v => v
  | k + 1, v => if t < sN f (v + 1) then v else pkF f t k (v + 1)
theorem pkF_ok {f : Nat → Nat} {t n : Nat} (hn : t < sN f n) : ∀ {k v : Nat}, v + k = n → sN f v ≤ t → pkF f t k v < n ∧ sN f (pkF f t k v) ≤ t ∧ t < sN f (pkF f t k v + 1)
  | 0, v, h, h1 => by
    have : v = n := by omega
    subst this; omega
  | k + 1, v, h, h1 => by
    rw [pkF]
    by_cases e : t < sN f (v + 1)
    · rw [if_pos e]; exact ⟨by omega, h1, e⟩
    · rw [if_neg e]; exact pkF_ok hn (by omega) (by omega)
theorem pkF_eq {f : Nat → Nat} {t n v : Nat} (hv : v < n) (h1 : sN f v ≤ t) (h2 : t < sN f (v + 1)) : pkF f t n 0 = v := by
  have hn : t < sN f n := Nat.lt_of_lt_of_le h2 (sN_mono f (by omega))
  obtain ⟨-, a, b⟩ := pkF_ok hn (k := n) (v := 0) (by omega) (Nat.zero_le t)
  exact pick_uniq a b h1 h2
/-- half of a seed, as the machine moves it -/
def hz (z : Int32) : Nat := z.toBitVec.toNat / 2
theorem hz_lt (z : Int32) : hz z < 2 ^ 31 := by
  unfold hz
  have := z.toBitVec.isLt
  omega
theorem hz_eq (z : Int32) : (z.toUInt32 >>> ((nI 1).toUInt32 &&& Int32.toUInt32 31)).toInt32 = nI (hz z) := by
  apply Int32.toBitVec.inj
  apply BitVec.eq_of_toNat_eq
  rw [pk_ushr z (nI 1) 1 (by decide), pk_tn (by have := hz_lt z; omega)]
  rfl
/-- the next seed -/
def nz (z : Int32) : Int32 := z * 1664525 + 1013904223
/-- the node at which a drawn walk is behind k steps -/
def dwG (F : Nat → Int32 → Nat) (N : Int32 → Int32) : Nat → Nat → Int32 → Nat
  | 0, a, _ => a
  | k + 1, a, z => dwG F N k (F a (N z)) (N z)
theorem dwG_congr {F H : Nat → Int32 → Nat} {N : Int32 → Int32} {p : Nat → Prop} (h : ∀ a z, p a → F a z = H a z ∧ p (H a z)) : ∀ {k a : Nat} {z : Int32}, p a → dwG F N k a z = dwG H N k a z
  | 0, _, _, _ => rfl
  | k + 1, a, z, ha => by
    rw [dwG, dwG, (h a (N z) ha).1]
    exact dwG_congr h (h a (N z) ha).2
def drF (N : Nat → Nat → Nat) (T : Nat → Nat) (n : Nat) (a : Nat) (z : Int32) : Nat := pkF (N a) (hz z % T a) n 0
def dwS (N : Nat → Nat → Nat) (T : Nat → Nat) (n k a : Nat) (z : Int32) : Nat := dwG (drF N T n) nz k a z
theorem dwS_succ {N : Nat → Nat → Nat} {T : Nat → Nat} {n k a : Nat} {z : Int32} : dwS N T n (k + 1) a z = dwS N T n k (drF N T n a (nz z)) (nz z) := by
  unfold dwS
  rw [dwG]
theorem dwS_congr {N P : Nat → Nat → Nat} {T U : Nat → Nat} {n k a : Nat} {z : Int32} (ha : a < n) (h : ∀ u, u < n → (∀ v, v < n → N u v = P u v) ∧ T u = U u ∧ 0 < U u ∧ sN (P u) n = U u) : dwS N T n k a z = dwS P U n k a z := by
  unfold dwS
  refine dwG_congr (p := fun a => a < n) (fun a z ha => ?_) ha
  obtain ⟨e1, e2, e3, e4⟩ := h a ha
  have hl := Nat.mod_lt (hz z) e3
  unfold drF
  rw [e2]
  obtain ⟨q1, q2, q3⟩ := pkF_ok (f := P a) (t := hz z % U a) (n := n) (by rw [e4]; exact hl) (k := n) (v := 0) (by omega) (Nat.zero_le _)
  exact ⟨pkF_eq q1 (by rw [sN_congr (h := P a) (fun i hi => e1 i (by omega))]; exact q2) (by rw [sN_congr (h := P a) (fun i hi => e1 i (by omega))]; exact q3), q1⟩
/-- numbers instead of Ints -/
def mvN (Z : Nat → Nat → Nat) (n : Nat) (A : Nat → Nat) : Nat → Nat := fun v => sN (fun u => A u * Z u v) n
def itN (Z : Nat → Nat → Nat) (n : Nat) (A : Nat → Nat) : Nat → (Nat → Nat)
  | 0 => A
  | k + 1 => mvN Z n (itN Z n A k)
def dlN (u : Nat) : Nat → Nat := fun v => if v = u then 1 else 0
theorem sZ_cast (f : Nat → Nat) : ∀ n, sZ (fun i => (f i : Int)) n = (sN f n : Int)
  | 0 => rfl
  | n + 1 => by rw [sZ, sN, sZ_cast f n, Int.natCast_add]
theorem mv_cast {Z : Nat → Nat → Int} {Y : Nat → Nat → Nat} {n : Nat} {A : Nat → Int} {B : Nat → Nat} (hA : ∀ u, u < n → A u = (B u : Int)) {v : Nat} (hZ : ∀ u, u < n → Z u v = (Y u v : Int)) : mv Z n A v = (mvN Y n B v : Int) := by
  unfold mv mvN
  rw [← sZ_cast]
  refine sZ_congr (fun u hu => ?_)
  rw [hA u hu, hZ u hu, Int.natCast_mul]
theorem itM_cast {Z : Nat → Nat → Int} {Y : Nat → Nat → Nat} {n u : Nat} (hZ : ∀ i j, i < n → j < n → Z i j = (Y i j : Int)) : ∀ {k v : Nat}, v < n → itM Z n (dl u) k v = (itN Y n (dlN u) k v : Int)
  | 0, v, _ => by
    show dl u v = (dlN u v : Int)
    unfold dl dlN
    split <;> rfl
  | k + 1, v, hv => mv_cast (fun i hi => itM_cast hZ hi) (fun i hi => hZ i v hi hv)
theorem itN_congr {Z Y : Nat → Nat → Nat} {n : Nat} {A : Nat → Nat} (h : ∀ i j, i < n → j < n → Z i j = Y i j) : ∀ {k v : Nat}, v < n → itN Z n A k v = itN Y n A k v
  | 0, _, _ => rfl
  | k + 1, v, hv => sN_congr (fun i hi => by rw [itN_congr h hi, h i v hi hv])
theorem itN_le {Z : Nat → Nat → Nat} {n c : Nat} {u : Nat} (hn : n ≤ 5) (h : ∀ i j, i < n → j < n → Z i j ≤ c) : ∀ {k v : Nat}, v < n → itN Z n (dlN u) k v ≤ (5 * c) ^ k
  | 0, v, _ => by
    show dlN u v ≤ (5 * c) ^ 0
    unfold dlN
    split
    · exact Nat.le_refl 1
    · exact Nat.zero_le _
  | k + 1, v, hv => by
    have h1 := sN_le (f := fun i => itN Z n (dlN u) k i * Z i v) (b := (5 * c) ^ k * c) (n := n) (fun i hi => Nat.mul_le_mul (itN_le hn h hi) (h i v hi hv))
    have h2 : n * ((5 * c) ^ k * c) ≤ 5 * ((5 * c) ^ k * c) := Nat.mul_le_mul_right _ hn
    have h3 : (5 * c) ^ (k + 1) = 5 * ((5 * c) ^ k * c) := by rw [Nat.pow_succ, ← Nat.mul_assoc, Nat.mul_comm _ 5, Nat.mul_assoc]
    rw [h3]
    exact Nat.le_trans h1 h2
def aWalks (n : Nat) (W : Nat → Nat → Nat) (u v k : Int32) : Int64 := if nb n u = true ∧ nb n v = true then (if ib 12 k = true then lI (itN W n (dlN (ix u)) (ix k) (ix v) : Int) else -2) else -1
def uN (n x y : Nat) (W : Nat → Nat → Nat) (J : Nat → Nat) : Nat := lcmT (tt n x y W J) n
def fN (n x y : Nat) (W : Nat → Nat → Nat) (J : Nat → Nat) : Nat → Nat → Nat := fun i j => uN n x y W J / tt n x y W J i * nr n x y W J i j
def aAfter (n x y : Nat) (W : Nat → Nat → Nat) (J : Nat → Nat) (u v k p : Int32) : Int64 := if nb n u = true ∧ nb n v = true then (if ib 3 k = true ∧ pb p = true then lI (fracN (itN (fN n x y W J) n (dlN (ix u)) (ix k) (ix v)) (uN n x y W J ^ ix k) (ix p) : Int) else -2) else -1
def aDrawn (n x y : Nat) (W : Nat → Nat → Nat) (J : Nat → Nat) (u z k : Int32) : Int32 := if nb n u = true then (if ib 200 k = true then nI (dwS (nr n x y W J) (tt n x y W J) n (ix k) (ix u) z) else -2) else -1
theorem fN_le {n x y : Nat} {W : Nat → Nat → Nat} {J : Nat → Nat} (h : okG n x y W J) {i j : Nat} (hi : i < n) (hj : j < n) : fN n x y W J i j ≤ 10080 := by
  obtain ⟨u0, u1⟩ := unit_ok h (Nat.le_refl n)
  unfold fN
  have h1 : nr n x y W J i j ≤ tt n x y W J i := nr_le hj
  have h2 : uN n x y W J / tt n x y W J i * nr n x y W J i j ≤ uN n x y W J / tt n x y W J i * tt n x y W J i := Nat.mul_le_mul_left _ h1
  have h3 : uN n x y W J / tt n x y W J i * tt n x y W J i ≤ uN n x y W J := Nat.div_mul_le_self _ _
  have h4 : uN n x y W J ≤ 10080 := u1
  omega
end
section
-- laid by wip/whole/m8.py
set_option maxHeartbeats 4000000 in
set_option maxRecDepth 100000 in
theorem m_W_isNode {g : aw_G} (hg : aw_T g) {ws : va_W} {ad : Nat → Nat} {n x y : Nat} {W : Nat → Nat → Nat} {J : Nat → Nat} {a : Int32} (hW : gW ws ad) (hG : gG g ws ad n x y W J) : AMet g y_W_isNode c_W_isNode 2 (some .boolean) 0 [.ref (ad 0), .int a] ws (aw_R (.int (bI (nb n a))) ws) 0 0 := by
  refine amet_of (by decide +kernel) (Nat.le_of_ble_eq_true rfl) ?_
  refine aw_sub (lv' := [(0, .ref (ad 0)), (1, .int a)]) [0, 1] rfl ?_
  refine aw_iload_n d_W_isNode_0 rfl rfl ?_
  refine aw_if_lt (tgt := 19) d_W_isNode_1 (by decide) (fun h => ?_) (fun h => ?_)
  · have e : nb n a = false := by unfold nb; simp [h]
    refine aw_iconst (v := nI 0) d_W_isNode_19 (by decide) ?_
    exact aw_zret d_W_isNode_20 rfl (Nat.le_refl 0) (Nat.le_refl 0) ⟨by rw [e]; rfl, rfl⟩
  · refine aw_iload_n d_W_isNode_4 rfl rfl ?_
    refine aw_aload_n d_W_isNode_5 rfl rfl ?_
    refine aw_get kc_0 0 (by decide) k_147 d_W_isNode_6 hW rfl ?_
    refine aw_get kc_1 0 (by decide) k_27 d_W_isNode_9 hG.1 rfl ?_
    refine aw_icmp_ge (tgt := 19) d_W_isNode_12 (by decide) (fun h2 => ?_) (fun h2 => ?_)
    · have e : nb n a = false := by unfold nb; simp [h2]
      refine aw_iconst (v := nI 0) d_W_isNode_19 (by decide) ?_
      exact aw_zret d_W_isNode_20 rfl (Nat.le_refl 0) (Nat.le_refl 0) ⟨by rw [e]; rfl, rfl⟩
    · have e : nb n a = true := by unfold nb; simp [h, h2]
      refine aw_iconst (v := nI 1) d_W_isNode_15 (by decide) ?_
      refine aw_goto (tgt := 20) d_W_isNode_16 (by decide) ?_
      exact aw_zret d_W_isNode_20 rfl (Nat.le_refl 0) (Nat.le_refl 0) ⟨by rw [e]; rfl, rfl⟩

set_option maxHeartbeats 4000000 in
set_option maxRecDepth 100000 in
theorem m_W_isSet {g : aw_G} (hg : aw_T g) {ws : va_W} {ad : Nat → Nat} {n q : Nat} {M L D : Nat → Nat} {O : Nat → Int32} {a : Int32} (hW : gW ws ad) (hC : gC g ws ad q M L O n D) : AMet g y_W_isSet c_W_isSet 2 (some .boolean) 0 [.ref (ad 0), .int a] ws (aw_R (.int (bI (nb q a))) ws) 0 0 := by
  refine amet_of (by decide +kernel) (Nat.le_of_ble_eq_true rfl) ?_
  refine aw_sub (lv' := [(0, .ref (ad 0)), (1, .int a)]) [0, 1] rfl ?_
  refine aw_iload_n d_W_isSet_0 rfl rfl ?_
  refine aw_if_lt (tgt := 19) d_W_isSet_1 (by decide) (fun h => ?_) (fun h => ?_)
  · have e : nb q a = false := by unfold nb; simp [h]
    refine aw_iconst (v := nI 0) d_W_isSet_19 (by decide) ?_
    exact aw_zret d_W_isSet_20 rfl (Nat.le_refl 0) (Nat.le_refl 0) ⟨by rw [e]; rfl, rfl⟩
  · refine aw_iload_n d_W_isSet_4 rfl rfl ?_
    refine aw_aload_n d_W_isSet_5 rfl rfl ?_
    refine aw_get kc_0 2 (by decide) k_149 d_W_isSet_6 hW rfl ?_
    refine aw_get kc_3 0 (by decide) k_89 d_W_isSet_9 hC.1 rfl ?_
    refine aw_icmp_ge (tgt := 19) d_W_isSet_12 (by decide) (fun h2 => ?_) (fun h2 => ?_)
    · have e : nb q a = false := by unfold nb; simp [h2]
      refine aw_iconst (v := nI 0) d_W_isSet_19 (by decide) ?_
      exact aw_zret d_W_isSet_20 rfl (Nat.le_refl 0) (Nat.le_refl 0) ⟨by rw [e]; rfl, rfl⟩
    · have e : nb q a = true := by unfold nb; simp [h, h2]
      refine aw_iconst (v := nI 1) d_W_isSet_15 (by decide) ?_
      refine aw_goto (tgt := 20) d_W_isSet_16 (by decide) ?_
      exact aw_zret d_W_isSet_20 rfl (Nat.le_refl 0) (Nat.le_refl 0) ⟨by rw [e]; rfl, rfl⟩

set_option maxHeartbeats 4000000 in
set_option maxRecDepth 100000 in
theorem m_W_isPart {g : aw_G} (hg : aw_T g) {ws : va_W} {ad : Nat → Nat} {a : Int32} : AMet g y_W_isPart c_W_isPart 1 (some .boolean) 0 [.int a] ws (aw_R (.int (bI (pb a))) ws) 0 0 := by
  refine amet_of (by decide +kernel) (Nat.le_of_ble_eq_true rfl) ?_
  refine aw_sub (lv' := [(0, .int a)]) [0] rfl ?_
  refine aw_iload_n d_W_isPart_0 rfl rfl ?_
  refine aw_if_eq (tgt := 9) d_W_isPart_1 (by decide) (fun h => ?_) (fun h => ?_)
  · have e : pb a = true := by unfold pb; simp [h]
    refine aw_iconst (v := nI 1) d_W_isPart_9 (by decide) ?_
    refine aw_goto (tgt := 14) d_W_isPart_10 (by decide) ?_
    exact aw_zret d_W_isPart_14 rfl (Nat.le_refl 0) (Nat.le_refl 0) ⟨by rw [e]; rfl, rfl⟩
  · refine aw_iload_n d_W_isPart_4 rfl rfl ?_
    refine aw_iconst (v := nI 1) d_W_isPart_5 (by decide) ?_
    refine aw_icmp_ne (tgt := 13) d_W_isPart_6 (by decide) (fun h2 => ?_) (fun h2 => ?_)
    · have e : pb a = false := by unfold pb; simp [h, show ¬ a = 1 from h2]
      refine aw_iconst (v := nI 0) d_W_isPart_13 (by decide) ?_
      exact aw_zret d_W_isPart_14 rfl (Nat.le_refl 0) (Nat.le_refl 0) ⟨by rw [e]; rfl, rfl⟩
    · have e : pb a = true := by unfold pb; simp [show a = 1 from h2]
      refine aw_iconst (v := nI 1) d_W_isPart_9 (by decide) ?_
      refine aw_goto (tgt := 14) d_W_isPart_10 (by decide) ?_
      exact aw_zret d_W_isPart_14 rfl (Nat.le_refl 0) (Nat.le_refl 0) ⟨by rw [e]; rfl, rfl⟩

set_option maxHeartbeats 4000000 in
set_option maxRecDepth 100000 in
theorem m_W_renew {g : aw_G} (hg : aw_T g) {ws : va_W} {ad : Nat → Nat} {n x y : Nat} {W : Nat → Nat → Nat} {J : Nat → Nat} (hW : gW ws ad) (hG : gG g ws ad n x y W J) (hok : okG n x y W J) (hR : gRest g ws ad) : AMet g y_W_renew c_W_renew 1 none 5 [.ref (ad 0)] ws (qMut g ad ws none n x y W J) 0 0 := by
  obtain ⟨⟨m1, P, T, X, hS⟩, ⟨q, m2, M, L, D, O, hC⟩, ⟨m3, Z3, hE⟩, ⟨p4, q4, m4, A4, B4, Z4, hP⟩, ⟨A5, hH⟩⟩ := hR
  refine amet_of (by decide +kernel) (Nat.le_of_ble_eq_true rfl) ?_
  refine aw_sub (lv' := [(0, .ref (ad 0))]) [0] rfl ?_
  refine aw_aload_n d_W_renew_0 rfl rfl ?_
  refine aw_get kc_0 1 (by decide) k_148 d_W_renew_1 hW rfl ?_
  refine aw_aload_n d_W_renew_4 rfl rfl ?_
  refine aw_get kc_0 0 (by decide) k_147 d_W_renew_5 hW rfl ?_
  refine aw_callV (av := [.ref (ad 1)]) (rest := []) (m_S_renew hg hG hS hok) kd_S_renew k_178 k_179 ks_S_renew rfl hS.1 d_W_renew_8 rfl ⟨by decide, by decide⟩ (Nat.le_of_ble_eq_true rfl) ⟨by decide, by decide⟩ rfl (fun v2 ws2 hq2 => ?_)
  obtain ⟨rfl, f2, P2, T2, X2, hS2, ho2⟩ := hq2
  have hG2 := hG.kept f2 (by omega)
  have hC2 := hC.kept f2 (by omega)
  have hW2 : gW ws2 ad := (f2.1 0 (by omega)).trans hW
  refine aw_aload_n d_W_renew_11 rfl rfl ?_
  refine aw_get kc_0 2 (by decide) k_149 d_W_renew_12 hW2 rfl ?_
  refine aw_aload_n d_W_renew_15 rfl rfl ?_
  refine aw_get kc_0 1 (by decide) k_148 d_W_renew_16 hW2 rfl ?_
  refine aw_callV (av := [.ref (ad 9)]) (rest := []) (m_C_renew hg hC2 hS2 (ho2.X hok.1)) kd_C_renew k_208 k_209 ks_C_renew rfl hC2.1 d_W_renew_19 rfl ⟨by decide, by decide⟩ (Nat.le_of_ble_eq_true rfl) ⟨by decide, by decide⟩ rfl (fun v3 ws3 hq3 => ?_)
  obtain ⟨rfl, f3, q3, M3, L3, D3, O3, hC3, hD3, hI3⟩ := hq3
  have f := (f2.wide (lo' := 0) (hi' := 40) (by omega) (by omega)).tr (f3.wide (lo' := 0) (hi' := 40) (by omega) (by omega))
  exact aw_vret d_W_renew_22 (Nat.le_refl 0) (Nat.le_refl 0) ⟨rfl, f, P2, T2, X2, q3, M3, L3, O3, D3, (f3.1 0 (by omega)).trans hW2, hG2.kept f3 (by omega), hok, hS2.kept f3 (by omega), ho2, hC3, hD3, hI3, ⟨m3, Z3, (hE.kept f2 (by omega)).kept f3 (by omega)⟩, ⟨p4, q4, m4, A4, B4, Z4, (hP.kept f2 (by omega)).kept f3 (by omega)⟩, ⟨A5, (f3.1 39 (by omega)).trans ((f2.1 39 (by omega)).trans hH)⟩⟩

theorem okG_node {n x y : Nat} {W : Nat → Nat → Nat} {J : Nat → Nat} (h : okG n x y W J) (hn : n < 5) : okG (n + 1) x y (nodeW n W) (fup J n 1) := by
  obtain ⟨h1, h2, h3, h4, h5, h6⟩ := h
  refine ⟨by omega, h2, h3, h4, fun u v hu hv => ?_, fun v hv => ?_⟩
  · unfold nodeW
    split
    · omega
    · exact h5 u v hu hv
  · unfold fup
    split
    · omega
    · exact h6 v hv
theorem okG_weight {n x y : Nat} {W : Nat → Nat → Nat} {J : Nat → Nat} (h : okG n x y W J) (a b c : Nat) (hc : c ≤ 2) : okG n x y (fup2 W a b c) J := by
  obtain ⟨h1, h2, h3, h4, h5, h6⟩ := h
  refine ⟨h1, h2, h3, h4, fun u v hu hv => ?_, h6⟩
  unfold fup2
  split
  · omega
  · exact h5 u v hu hv
theorem okG_jump {n x y : Nat} {W : Nat → Nat → Nat} {J : Nat → Nat} (h : okG n x y W J) (a c : Nat) (hc : c ≤ 2) : okG n x y W (fup J a c) := by
  obtain ⟨h1, h2, h3, h4, h5, h6⟩ := h
  refine ⟨h1, h2, h3, h4, h5, fun v hv => ?_⟩
  unfold fup
  split
  · omega
  · exact h6 v hv
def qNode (g : aw_G) (ad : Nat → Nat) (ws : va_W) (n x y : Nat) (W : Nat → Nat → Nat) (J : Nat → Nat) : Option Value → va_W → Prop := if n < 5 then qMut g ad ws (some (.int (nI n))) (n + 1) x y (nodeW n W) (fup J n 1) else qMut g ad ws (some (.int (-4))) n x y W J

set_option maxHeartbeats 4000000 in
set_option maxRecDepth 100000 in
theorem m_W_node {g : aw_G} (hg : aw_T g) {ws : va_W} {ad : Nat → Nat} {n x y q : Nat} {W P : Nat → Nat → Nat} {J T X M L D : Nat → Nat} {O : Nat → Int32} (hK : gK g ws ad n x y W J P T X q M L O D) : AMet g y_W_node c_W_node 2 (some .int) 6 [.ref (ad 0)] ws (qNode g ad ws n x y W J) 0 0 := by
  obtain ⟨hW, hG, hok, hS, hoS, hC, hD, hI, hE0, hP0, hH0⟩ := id hK
  have hn := hok.1
  refine amet_of (by decide +kernel) (Nat.le_of_ble_eq_true rfl) ?_
  refine aw_sub (lv' := [(0, .ref (ad 0))]) [0] rfl ?_
  unfold qNode
  refine aw_aload_n d_W_node_0 rfl rfl ?_
  refine aw_get kc_0 0 (by decide) k_147 d_W_node_1 hW rfl ?_
  refine aw_get kc_1 0 (by decide) k_27 d_W_node_4 hG.1 rfl ?_
  refine aw_iconst (v := nI 5) d_W_node_7 (by decide) ?_
  refine aw_icmp_ltN (tgt := 14) d_W_node_8 (by decide) (by omega) (by omega) (fun h => ?_) (fun h => ?_)
  · rw [if_pos h]
    refine aw_aload_n d_W_node_14 rfl rfl ?_
    refine aw_get kc_0 0 (by decide) k_147 d_W_node_15 hW rfl ?_
    refine aw_callV (av := []) (rest := []) (m_G_addNode hg hG h) kd_G_addNode k_170 k_171 ks_G_addNode rfl hG.1 d_W_node_18 rfl ⟨by decide, by decide⟩ (Nat.le_of_ble_eq_true rfl) ⟨by decide, by decide⟩ rfl (fun v2 ws2 hq2 => ?_)
    obtain ⟨rfl, f2, W2, hG2, hW2⟩ := hq2
    have eW : W2 = nodeW n W := funext fun i => funext fun j => hW2 i j
    subst eW
    have hR2 := hK.rest.kept f2 (by omega)
    have hw2 : gW ws2 ad := (f2.1 0 (by omega)).trans hW
    refine aw_istore_n (lv' := [(1, .int (nI n)), (0, .ref (ad 0))]) d_W_node_21 rfl (by decide) rfl ?_
    refine aw_aload_n d_W_node_22 rfl rfl ?_
    refine aw_callV (av := []) (rest := []) (m_W_renew hg hw2 hG2 (okG_node hok h) hR2) kd_W_renew k_174 k_176 ks_W_renew rfl hw2 d_W_node_23 rfl ⟨by decide, by decide⟩ (Nat.le_of_ble_eq_true rfl) ⟨by decide, by decide⟩ rfl (fun v3 ws3 hq3 => ?_)
    obtain ⟨rfl, f3, hx⟩ := hq3
    refine aw_iload_n d_W_node_26 rfl rfl ?_
    exact aw_iret d_W_node_27 (Nat.le_refl 0) (Nat.le_refl 0) ⟨rfl, (f2.wide (lo' := 0) (hi' := 40) (by omega) (by omega)).tr f3, hx⟩
  · rw [if_neg (by omega)]
    refine aw_bipush (v := -4) d_W_node_11 (by decide) ?_
    exact aw_iret d_W_node_13 (Nat.le_refl 0) (Nat.le_refl 0) ⟨rfl, fr.rf, ⟨P, T, X, q, M, L, O, D, hK⟩⟩

set_option maxHeartbeats 4000000 in
set_option maxRecDepth 100000 in
theorem m_W_weight {g : aw_G} (hg : aw_T g) {ws : va_W} {ad : Nat → Nat} {n x y q : Nat} {W P : Nat → Nat → Nat} {J T X M L D : Nat → Nat} {O : Nat → Int32} {u v w : Int32} (hK : gK g ws ad n x y W J P T X q M L O D) : AMet g y_W_weight c_W_weight 5 (some .int) 6 [.ref (ad 0), .int u, .int v, .int w] ws (qMut g ad ws (some (.int (aWeight n W u v w))) n x y (wWeight n W u v w) J) 0 0 := by
  obtain ⟨hW, hG, hok, hS, hoS, hC, hD, hI, hE0, hP0, hH0⟩ := id hK
  have hn := hok.1
  refine amet_of (by decide +kernel) (Nat.le_of_ble_eq_true rfl) ?_
  refine aw_sub (lv' := [(0, .ref (ad 0)), (1, .int u), (2, .int v), (3, .int w)]) [0, 1, 2, 3] rfl ?_
  refine aw_aload_n d_W_weight_0 rfl rfl ?_
  refine aw_iload_n d_W_weight_1 rfl rfl ?_
  refine aw_callV (av := [.int u]) (rest := []) (m_W_isNode hg hW hG) kd_W_isNode k_242 k_244 ks_W_isNode rfl hW d_W_weight_2 rfl ⟨by decide, by decide⟩ (Nat.le_of_ble_eq_true rfl) ⟨by decide, by decide⟩ rfl (fun v2 ws2 hq2 => ?_)
  obtain ⟨rfl, rfl⟩ := hq2
  refine aw_if_eqB (tgt := 16) d_W_weight_5 (by decide) (fun h1 => ?_) (fun h1 => ?_)
  · refine aw_iconst (v := -1) d_W_weight_16 (by decide) ?_
    exact aw_iret d_W_weight_17 (Nat.le_refl 0) (Nat.le_refl 0) ⟨by unfold aWeight; rw [if_neg (by simp [h1])], fr.rf, P, T, X, q, M, L, O, D, by unfold wWeight; rw [if_neg (by simp [h1])]; exact hK⟩
  · refine aw_aload_n d_W_weight_8 rfl rfl ?_
    refine aw_iload_n d_W_weight_9 rfl rfl ?_
    refine aw_callV (av := [.int v]) (rest := []) (m_W_isNode hg hW hG) kd_W_isNode k_242 k_244 ks_W_isNode rfl hW d_W_weight_10 rfl ⟨by decide, by decide⟩ (Nat.le_of_ble_eq_true rfl) ⟨by decide, by decide⟩ rfl (fun v2 ws2 hq2 => ?_)
    obtain ⟨rfl, rfl⟩ := hq2
    refine aw_if_neB (tgt := 18) d_W_weight_13 (by decide) (fun h2 => ?_) (fun h2 => ?_)
    · refine aw_iload_n d_W_weight_18 rfl rfl ?_
      refine aw_if_lt (tgt := 27) d_W_weight_19 (by decide) (fun h3 => ?_) (fun h3 => ?_)
      · refine aw_bipush (v := -2) d_W_weight_27 (by decide) ?_
        exact aw_iret d_W_weight_29 (Nat.le_refl 0) (Nat.le_refl 0) ⟨by unfold aWeight; rw [if_pos ⟨h1, h2⟩, if_neg (by rw [ib_lt h3]; decide)], fr.rf, P, T, X, q, M, L, O, D, by unfold wWeight; rw [if_neg (by simp [ib_lt h3])]; exact hK⟩
      · refine aw_iload_n d_W_weight_22 rfl rfl ?_
        refine aw_iconst (v := nI 2) d_W_weight_23 (by decide) ?_
        refine aw_icmp_le (tgt := 30) d_W_weight_24 (by decide) (fun h4 => ?_) (fun h4 => ?_)
        · have h5 := ib_in h3 h4
          obtain ⟨w1, hw1, rfl⟩ := ib_true (by decide) h5
          obtain ⟨u1, hu1, rfl⟩ := nb_true hn h1
          obtain ⟨v1, hv1, rfl⟩ := nb_true hn h2
          refine aw_aload_n d_W_weight_30 rfl rfl ?_
          refine aw_get kc_0 0 (by decide) k_147 d_W_weight_31 hW rfl ?_
          refine aw_get kc_1 3 (by decide) k_36 d_W_weight_34 hG.1 rfl ?_
          refine aw_iload_n d_W_weight_37 rfl rfl ?_
          refine aw_aaldI d_W_weight_38 hG.2.1 hg (by omega) ?_
          refine aw_iload_n d_W_weight_39 rfl rfl ?_
          refine aw_ialdA d_W_weight_40 (hG.2.2.1 u1 (by omega)) hg (by omega) (by decide) ?_
          refine aw_istore (lv' := [(4, .int (nI (W u1 v1))), (0, .ref (ad 0)), (1, .int (nI u1)), (2, .int (nI v1)), (3, .int (nI w1))]) d_W_weight_41 (by decide) rfl ?_
          refine aw_aload_n d_W_weight_43 rfl rfl ?_
          refine aw_get kc_0 0 (by decide) k_147 d_W_weight_44 hW rfl ?_
          refine aw_get kc_1 3 (by decide) k_36 d_W_weight_47 hG.1 rfl ?_
          refine aw_iload_n d_W_weight_50 rfl rfl ?_
          refine aw_aaldI d_W_weight_51 hG.2.1 hg (by omega) ?_
          refine aw_iload_n d_W_weight_52 rfl rfl ?_
          refine aw_iload_n d_W_weight_53 rfl rfl ?_
          refine aw_iastA d_W_weight_54 (hG.2.2.1 u1 (by omega)) hg (by omega) (by decide) (fun zws1 za2 zb3 zc4 => ?_)
          have zF5 := fam_putI (lo := 3) hG.2.2.1 za2 zb3
          have hG2 := hG.putW (by omega) za2 zb3
          have f2 := fr.one (lo := 1) (hi := 9) zb3 zc4 (by omega) (by omega)
          have hR2 := hK.rest.kept f2 (by omega)
          have hw2 : gW zws1 ad := (f2.1 0 (by omega)).trans hW
          refine aw_aload_n d_W_weight_55 rfl rfl ?_
          refine aw_callV (av := []) (rest := []) (m_W_renew hg hw2 hG2 (okG_weight hok u1 v1 w1 hw1) hR2) kd_W_renew k_174 k_176 ks_W_renew rfl hw2 d_W_weight_56 rfl ⟨by decide, by decide⟩ (Nat.le_of_ble_eq_true rfl) ⟨by decide, by decide⟩ rfl (fun v3 ws3 hq3 => ?_)
          obtain ⟨rfl, f3, hx⟩ := hq3
          refine aw_iload d_W_weight_59 rfl ?_
          exact aw_iret d_W_weight_61 (Nat.le_refl 0) (Nat.le_refl 0) ⟨by unfold aWeight; rw [if_pos ⟨h1, h2⟩, if_pos h5, ix_nI (by omega), ix_nI (by omega)], (f2.wide (lo' := 0) (hi' := 40) (by omega) (by omega)).tr f3, by unfold wWeight; rw [if_pos ⟨h1, h2, h5⟩, ix_nI (by omega), ix_nI (by omega), ix_nI (by omega)]; exact hx⟩
        · refine aw_bipush (v := -2) d_W_weight_27 (by decide) ?_
          exact aw_iret d_W_weight_29 (Nat.le_refl 0) (Nat.le_refl 0) ⟨by unfold aWeight; rw [if_pos ⟨h1, h2⟩, if_neg (by rw [ib_gt h4]; decide)], fr.rf, P, T, X, q, M, L, O, D, by unfold wWeight; rw [if_neg (by simp [ib_gt h4])]; exact hK⟩
    · refine aw_iconst (v := -1) d_W_weight_16 (by decide) ?_
      exact aw_iret d_W_weight_17 (Nat.le_refl 0) (Nat.le_refl 0) ⟨by unfold aWeight; rw [if_neg (by simp [h2])], fr.rf, P, T, X, q, M, L, O, D, by unfold wWeight; rw [if_neg (by simp [h2])]; exact hK⟩

set_option maxHeartbeats 4000000 in
set_option maxRecDepth 100000 in
theorem m_W_jump {g : aw_G} (hg : aw_T g) {ws : va_W} {ad : Nat → Nat} {n x y q : Nat} {W P : Nat → Nat → Nat} {J T X M L D : Nat → Nat} {O : Nat → Int32} {v w : Int32} (hK : gK g ws ad n x y W J P T X q M L O D) : AMet g y_W_jump c_W_jump 4 (some .int) 6 [.ref (ad 0), .int v, .int w] ws (qMut g ad ws (some (.int (aJump n J v w))) n x y W (jJump n J v w)) 0 0 := by
  obtain ⟨hW, hG, hok, hS, hoS, hC, hD, hI, hE0, hP0, hH0⟩ := id hK
  have hn := hok.1
  refine amet_of (by decide +kernel) (Nat.le_of_ble_eq_true rfl) ?_
  refine aw_sub (lv' := [(0, .ref (ad 0)), (1, .int v), (2, .int w)]) [0, 1, 2] rfl ?_
  refine aw_aload_n d_W_jump_0 rfl rfl ?_
  refine aw_iload_n d_W_jump_1 rfl rfl ?_
  refine aw_callV (av := [.int v]) (rest := []) (m_W_isNode hg hW hG) kd_W_isNode k_242 k_244 ks_W_isNode rfl hW d_W_jump_2 rfl ⟨by decide, by decide⟩ (Nat.le_of_ble_eq_true rfl) ⟨by decide, by decide⟩ rfl (fun v2 ws2 hq2 => ?_)
  obtain ⟨rfl, rfl⟩ := hq2
  refine aw_if_neB (tgt := 10) d_W_jump_5 (by decide) (fun h2 => ?_) (fun h2 => ?_)
  · refine aw_iload_n d_W_jump_10 rfl rfl ?_
    refine aw_if_lt (tgt := 19) d_W_jump_11 (by decide) (fun h3 => ?_) (fun h3 => ?_)
    · refine aw_bipush (v := -2) d_W_jump_19 (by decide) ?_
      exact aw_iret d_W_jump_21 (Nat.le_refl 0) (Nat.le_refl 0) ⟨by unfold aJump; rw [if_pos h2, if_neg (by rw [ib_lt h3]; decide)], fr.rf, P, T, X, q, M, L, O, D, by unfold jJump; rw [if_neg (by simp [ib_lt h3])]; exact hK⟩
    · refine aw_iload_n d_W_jump_14 rfl rfl ?_
      refine aw_iconst (v := nI 2) d_W_jump_15 (by decide) ?_
      refine aw_icmp_le (tgt := 22) d_W_jump_16 (by decide) (fun h4 => ?_) (fun h4 => ?_)
      · have h5 := ib_in h3 h4
        obtain ⟨w1, hw1, rfl⟩ := ib_true (by decide) h5
        obtain ⟨v1, hv1, rfl⟩ := nb_true hn h2
        refine aw_aload_n d_W_jump_22 rfl rfl ?_
        refine aw_get kc_0 0 (by decide) k_147 d_W_jump_23 hW rfl ?_
        refine aw_get kc_1 4 (by decide) k_40 d_W_jump_26 hG.1 rfl ?_
        refine aw_iload_n d_W_jump_29 rfl rfl ?_
        refine aw_ialdA d_W_jump_30 hG.2.2.2 hg (by omega) (by decide) ?_
        refine aw_istore_n (lv' := [(3, .int (nI (J v1))), (0, .ref (ad 0)), (1, .int (nI v1)), (2, .int (nI w1))]) d_W_jump_31 rfl (by decide) rfl ?_
        refine aw_aload_n d_W_jump_32 rfl rfl ?_
        refine aw_get kc_0 0 (by decide) k_147 d_W_jump_33 hW rfl ?_
        refine aw_get kc_1 4 (by decide) k_40 d_W_jump_36 hG.1 rfl ?_
        refine aw_iload_n d_W_jump_39 rfl rfl ?_
        refine aw_iload_n d_W_jump_40 rfl rfl ?_
        refine aw_iastA d_W_jump_41 hG.2.2.2 hg (by omega) (by decide) (fun zws1 za2 zb3 zc4 => ?_)
        have hG2 := hG.putJ za2 zb3
        have f2 := fr.one (lo := 1) (hi := 9) zb3 zc4 (by omega) (by omega)
        have hR2 := hK.rest.kept f2 (by omega)
        have hw2 : gW zws1 ad := (f2.1 0 (by omega)).trans hW
        refine aw_aload_n d_W_jump_42 rfl rfl ?_
        refine aw_callV (av := []) (rest := []) (m_W_renew hg hw2 hG2 (okG_jump hok v1 w1 hw1) hR2) kd_W_renew k_174 k_176 ks_W_renew rfl hw2 d_W_jump_43 rfl ⟨by decide, by decide⟩ (Nat.le_of_ble_eq_true rfl) ⟨by decide, by decide⟩ rfl (fun v3 ws3 hq3 => ?_)
        obtain ⟨rfl, f3, hx⟩ := hq3
        refine aw_iload_n d_W_jump_46 rfl rfl ?_
        exact aw_iret d_W_jump_47 (Nat.le_refl 0) (Nat.le_refl 0) ⟨by unfold aJump; rw [if_pos h2, if_pos h5, ix_nI (by omega)], (f2.wide (lo' := 0) (hi' := 40) (by omega) (by omega)).tr f3, by unfold jJump; rw [if_pos ⟨h2, h5⟩, ix_nI (by omega), ix_nI (by omega)]; exact hx⟩
      · refine aw_bipush (v := -2) d_W_jump_19 (by decide) ?_
        exact aw_iret d_W_jump_21 (Nat.le_refl 0) (Nat.le_refl 0) ⟨by unfold aJump; rw [if_pos h2, if_neg (by rw [ib_gt h4]; decide)], fr.rf, P, T, X, q, M, L, O, D, by unfold jJump; rw [if_neg (by simp [ib_gt h4])]; exact hK⟩
  · refine aw_iconst (v := -1) d_W_jump_8 (by decide) ?_
    exact aw_iret d_W_jump_9 (Nat.le_refl 0) (Nat.le_refl 0) ⟨by unfold aJump; rw [if_neg (by simp [h2])], fr.rf, P, T, X, q, M, L, O, D, by unfold jJump; rw [if_neg (by simp [h2])]; exact hK⟩

def qKeep (g : aw_G) (ad : Nat → Nat) (ws : va_W) (n x y : Nat) (W : Nat → Nat → Nat) (J : Nat → Nat) (a b : Int32) : Option Value → va_W → Prop := if kb a b = true then qMut g ad ws (some (.int 1)) n (ix a) (ix b) W J else qMut g ad ws (some (.int (-2))) n x y W J

set_option maxHeartbeats 4000000 in
set_option maxRecDepth 100000 in
theorem m_W_keep {g : aw_G} (hg : aw_T g) {ws : va_W} {ad : Nat → Nat} {n x y q : Nat} {W P : Nat → Nat → Nat} {J T X M L D : Nat → Nat} {O : Nat → Int32} {a b : Int32} (hK : gK g ws ad n x y W J P T X q M L O D) : AMet g y_W_keep c_W_keep 3 (some .int) 6 [.ref (ad 0), .int a, .int b] ws (qKeep g ad ws n x y W J a b) 0 0 := by
  obtain ⟨hW, hG, hok, hS, hoS, hC, hD, hI, hE0, hP0, hH0⟩ := id hK
  have hn := hok.1
  refine amet_of (by decide +kernel) (Nat.le_of_ble_eq_true rfl) ?_
  refine aw_sub (lv' := [(0, .ref (ad 0)), (1, .int a), (2, .int b)]) [0, 1, 2] rfl ?_
  unfold qKeep
  refine aw_iload_n d_W_keep_0 rfl rfl ?_
  refine aw_iconst (v := nI 1) d_W_keep_1 (by decide) ?_
  refine aw_icmp_lt (tgt := 19) d_W_keep_2 (by decide) (fun h1 => ?_) (fun h1 => ?_)
  · have e : kb a b = false := by unfold kb; simp only [decide_eq_false_iff_not]; intro z; exact z.1 h1
    rw [e, if_neg (by decide)]
    refine aw_bipush (v := -2) d_W_keep_19 (by decide) ?_
    exact aw_iret d_W_keep_21 (Nat.le_refl 0) (Nat.le_refl 0) ⟨rfl, fr.rf, ⟨P, T, X, q, M, L, O, D, hK⟩⟩
  · refine aw_iload_n d_W_keep_5 rfl rfl ?_
    refine aw_iconst (v := nI 4) d_W_keep_6 (by decide) ?_
    refine aw_icmp_gt (tgt := 19) d_W_keep_7 (by decide) (fun h2 => ?_) (fun h2 => ?_)
    · have e : kb a b = false := by unfold kb; simp only [decide_eq_false_iff_not]; intro z; exact z.2.1 h2
      rw [e, if_neg (by decide)]
      refine aw_bipush (v := -2) d_W_keep_19 (by decide) ?_
      exact aw_iret d_W_keep_21 (Nat.le_refl 0) (Nat.le_refl 0) ⟨rfl, fr.rf, ⟨P, T, X, q, M, L, O, D, hK⟩⟩
    · refine aw_iload_n d_W_keep_10 rfl rfl ?_
      refine aw_if_lt (tgt := 19) d_W_keep_11 (by decide) (fun h3 => ?_) (fun h3 => ?_)
      · have e : kb a b = false := by unfold kb; simp only [decide_eq_false_iff_not]; intro z; exact z.2.2.1 h3
        rw [e, if_neg (by decide)]
        refine aw_bipush (v := -2) d_W_keep_19 (by decide) ?_
        exact aw_iret d_W_keep_21 (Nat.le_refl 0) (Nat.le_refl 0) ⟨rfl, fr.rf, ⟨P, T, X, q, M, L, O, D, hK⟩⟩
      · refine aw_iload_n d_W_keep_14 rfl rfl ?_
        refine aw_iload_n d_W_keep_15 rfl rfl ?_
        refine aw_icmp_le (tgt := 22) d_W_keep_16 (by decide) (fun h4 => ?_) (fun h4 => ?_)
        · have e : kb a b = true := by unfold kb; simp only [decide_eq_true_eq]; exact ⟨h1, h2, h3, h4⟩
          rw [e, if_pos rfl]
          obtain ⟨a1, b1, k1, k2, k3, rfl, rfl⟩ := kb_true e
          refine aw_aload_n d_W_keep_22 rfl rfl ?_
          refine aw_get kc_0 0 (by decide) k_147 d_W_keep_23 hW rfl ?_
          refine aw_iload_n d_W_keep_26 rfl rfl ?_
          refine aw_putN kc_1 1 (by decide) k_30 d_W_keep_27 hG.1 rfl rfl rfl (Nat.le_of_ble_eq_true rfl) (fun zws1 za2 zb3 zc4 => ?_)
          have zf5 : zws1[1]? = some (ad 1, .inr (1, [.int (nI n), .int (nI a1), .int (nI y), .ref (ad 2), .ref (ad 8)])) := za2
          have hG2 := hG.putO (n' := n) (x' := a1) (y' := y) za2 zb3
          have f2 := fr.one (lo := 1) (hi := 9) zb3 zc4 (by omega) (by omega)
          refine aw_aload_n d_W_keep_30 rfl rfl ?_
          refine aw_get kc_0 0 (by decide) k_147 d_W_keep_31 ((zb3 0 (by omega)).trans hW) rfl ?_
          refine aw_iload_n d_W_keep_34 rfl rfl ?_
          refine aw_putN kc_1 2 (by decide) k_33 d_W_keep_35 zf5 rfl rfl rfl (Nat.le_of_ble_eq_true rfl) (fun zws6 za7 zb8 zc9 => ?_)
          have zf10 : zws6[1]? = some (ad 1, .inr (1, [.int (nI n), .int (nI a1), .int (nI b1), .ref (ad 2), .ref (ad 8)])) := za7
          have hG3 := hG2.putO (n' := n) (x' := a1) (y' := b1) za7 zb8
          have f3 := f2.tr (fr.one (lo := 1) (hi := 9) zb8 zc9 (by omega) (by omega))
          have hR2 := hK.rest.kept f3 (by omega)
          have hw2 : gW zws6 ad := (f3.1 0 (by omega)).trans hW
          refine aw_aload_n d_W_keep_38 rfl rfl ?_
          refine aw_callV (av := []) (rest := []) (m_W_renew hg hw2 hG3 ⟨hok.1, k1, k2, k3, hok.2.2.2.2⟩ hR2) kd_W_renew k_174 k_176 ks_W_renew rfl hw2 d_W_keep_39 rfl ⟨by decide, by decide⟩ (Nat.le_of_ble_eq_true rfl) ⟨by decide, by decide⟩ rfl (fun v3 ws3 hq3 => ?_)
          obtain ⟨rfl, f4, hx⟩ := hq3
          refine aw_iconst (v := nI 1) d_W_keep_42 (by decide) ?_
          exact aw_iret d_W_keep_43 (Nat.le_refl 0) (Nat.le_refl 0) ⟨rfl, (f3.wide (lo' := 0) (hi' := 40) (by omega) (by omega)).tr f4, by rw [ix_nI (by omega), ix_nI (by omega)]; exact hx⟩
        · have e : kb a b = false := by unfold kb; simp only [decide_eq_false_iff_not]; intro z; exact h4 z.2.2.2
          rw [e, if_neg (by decide)]
          refine aw_bipush (v := -2) d_W_keep_19 (by decide) ?_
          exact aw_iret d_W_keep_21 (Nat.le_refl 0) (Nat.le_refl 0) ⟨rfl, fr.rf, ⟨P, T, X, q, M, L, O, D, hK⟩⟩

set_option maxHeartbeats 4000000 in
set_option maxRecDepth 100000 in
theorem m_W_clear {g : aw_G} (hg : aw_T g) {ws : va_W} {ad : Nat → Nat} {n x y q : Nat} {W P : Nat → Nat → Nat} {J T X M L D : Nat → Nat} {O : Nat → Int32} (hK : gK g ws ad n x y W J P T X q M L O D) : AMet g y_W_clear c_W_clear 2 (some .int) 6 [.ref (ad 0)] ws (qMut g ad ws (some (.int (nI n))) 0 x y W J) 0 0 := by
  obtain ⟨hW, hG, hok, hS, hoS, hC, hD, hI, hE0, hP0, hH0⟩ := id hK
  have hn := hok.1
  refine amet_of (by decide +kernel) (Nat.le_of_ble_eq_true rfl) ?_
  refine aw_sub (lv' := [(0, .ref (ad 0))]) [0] rfl ?_
  refine aw_aload_n d_W_clear_0 rfl rfl ?_
  refine aw_get kc_0 0 (by decide) k_147 d_W_clear_1 hW rfl ?_
  refine aw_get kc_1 0 (by decide) k_27 d_W_clear_4 hG.1 rfl ?_
  refine aw_istore_n (lv' := [(1, .int (nI n)), (0, .ref (ad 0))]) d_W_clear_7 rfl (by decide) rfl ?_
  refine aw_aload_n d_W_clear_8 rfl rfl ?_
  refine aw_get kc_0 0 (by decide) k_147 d_W_clear_9 hW rfl ?_
  refine aw_iconst (v := nI 0) d_W_clear_12 (by decide) ?_
  refine aw_putN kc_1 0 (by decide) k_27 d_W_clear_13 hG.1 rfl rfl rfl (Nat.le_of_ble_eq_true rfl) (fun zws1 za2 zb3 zc4 => ?_)
  have zf5 : zws1[1]? = some (ad 1, .inr (1, [.int (nI 0), .int (nI x), .int (nI y), .ref (ad 2), .ref (ad 8)])) := za2
  have hG2 := hG.putO (n' := 0) (x' := x) (y' := y) za2 zb3
  have f2 := fr.one (lo := 1) (hi := 9) zb3 zc4 (by omega) (by omega)
  have hR2 := hK.rest.kept f2 (by omega)
  have hw2 : gW zws1 ad := (f2.1 0 (by omega)).trans hW
  refine aw_aload_n d_W_clear_16 rfl rfl ?_
  refine aw_callV (av := []) (rest := []) (m_W_renew hg hw2 hG2 ⟨by omega, hok.2⟩ hR2) kd_W_renew k_174 k_176 ks_W_renew rfl hw2 d_W_clear_17 rfl ⟨by decide, by decide⟩ (Nat.le_of_ble_eq_true rfl) ⟨by decide, by decide⟩ rfl (fun v3 ws3 hq3 => ?_)
  obtain ⟨rfl, f4, hx⟩ := hq3
  refine aw_iload_n d_W_clear_20 rfl rfl ?_
  exact aw_iret d_W_clear_21 (Nat.le_refl 0) (Nat.le_refl 0) ⟨rfl, (f2.wide (lo' := 0) (hi' := 40) (by omega) (by omega)).tr f4, hx⟩

set_option maxHeartbeats 4000000 in
set_option maxRecDepth 100000 in
theorem m_W_row {g : aw_G} (hg : aw_T g) {ws : va_W} {ad : Nat → Nat} {n x y q : Nat} {W P : Nat → Nat → Nat} {J T X M L D : Nat → Nat} {O : Nat → Int32} {u v : Int32} (hK : gK g ws ad n x y W J P T X q M L O D) : AMet g y_W_row c_W_row 3 (some .int) 1 [.ref (ad 0), .int u, .int v] ws (aw_R (.int (aRow n x y W J u v)) ws) 0 0 := by
  obtain ⟨hW, hG, hok, hS, hoS, hC, hD, hI, hE0, hP0, hH0⟩ := id hK
  have hn := hok.1
  refine amet_of (by decide +kernel) (Nat.le_of_ble_eq_true rfl) ?_
  refine aw_sub (lv' := [(0, .ref (ad 0)), (1, .int u), (2, .int v)]) [0, 1, 2] rfl ?_
  refine aw_aload_n d_W_row_0 rfl rfl ?_
  refine aw_iload_n d_W_row_1 rfl rfl ?_
  refine aw_callV (av := [.int u]) (rest := []) (m_W_isNode hg hW hG) kd_W_isNode k_242 k_244 ks_W_isNode rfl hW d_W_row_2 rfl ⟨by decide, by decide⟩ (Nat.le_of_ble_eq_true rfl) ⟨by decide, by decide⟩ rfl (fun v2 ws2 hq2 => ?_)
  obtain ⟨rfl, rfl⟩ := hq2
  refine aw_if_eqB (tgt := 16) d_W_row_5 (by decide) (fun h1 => ?_) (fun h1 => ?_)
  · refine aw_iconst (v := -1) d_W_row_16 (by decide) ?_
    exact aw_iret d_W_row_17 (Nat.le_refl 0) (Nat.le_refl 0) ⟨by unfold aRow; rw [if_neg (by simp [h1])], rfl⟩
  · refine aw_aload_n d_W_row_8 rfl rfl ?_
    refine aw_iload_n d_W_row_9 rfl rfl ?_
    refine aw_callV (av := [.int v]) (rest := []) (m_W_isNode hg hW hG) kd_W_isNode k_242 k_244 ks_W_isNode rfl hW d_W_row_10 rfl ⟨by decide, by decide⟩ (Nat.le_of_ble_eq_true rfl) ⟨by decide, by decide⟩ rfl (fun v2 ws2 hq2 => ?_)
    obtain ⟨rfl, rfl⟩ := hq2
    refine aw_if_neB (tgt := 18) d_W_row_13 (by decide) (fun h2 => ?_) (fun h2 => ?_)
    · obtain ⟨u1, hu1, rfl⟩ := nb_true hn h1
      obtain ⟨v1, hv1, rfl⟩ := nb_true hn h2
      refine aw_aload_n d_W_row_18 rfl rfl ?_
      refine aw_get kc_0 1 (by decide) k_148 d_W_row_19 hW rfl ?_
      refine aw_get kc_2 1 (by decide) k_67 d_W_row_22 hS.1 rfl ?_
      refine aw_iload_n d_W_row_25 rfl rfl ?_
      refine aw_aaldI d_W_row_26 hS.2.1 hg (by omega) ?_
      refine aw_iload_n d_W_row_27 rfl rfl ?_
      refine aw_ialdA d_W_row_28 (hS.2.2.1 u1 (by omega)) hg (by omega) (by decide) ?_
      exact aw_iret d_W_row_29 (Nat.le_refl 0) (Nat.le_refl 0) ⟨by unfold aRow; rw [if_pos ⟨h1, h2⟩, ix_nI (by omega), ix_nI (by omega), (hoS u1 hu1).1 v1 hv1], rfl⟩
    · refine aw_iconst (v := -1) d_W_row_16 (by decide) ?_
      exact aw_iret d_W_row_17 (Nat.le_refl 0) (Nat.le_refl 0) ⟨by unfold aRow; rw [if_neg (by simp [h2])], rfl⟩

set_option maxHeartbeats 4000000 in
set_option maxRecDepth 100000 in
theorem m_W_total {g : aw_G} (hg : aw_T g) {ws : va_W} {ad : Nat → Nat} {n x y q : Nat} {W P : Nat → Nat → Nat} {J T X M L D : Nat → Nat} {O : Nat → Int32} {u : Int32} (hK : gK g ws ad n x y W J P T X q M L O D) : AMet g y_W_total c_W_total 2 (some .int) 1 [.ref (ad 0), .int u] ws (aw_R (.int (aTotal n x y W J u)) ws) 0 0 := by
  obtain ⟨hW, hG, hok, hS, hoS, hC, hD, hI, hE0, hP0, hH0⟩ := id hK
  have hn := hok.1
  refine amet_of (by decide +kernel) (Nat.le_of_ble_eq_true rfl) ?_
  refine aw_sub (lv' := [(0, .ref (ad 0)), (1, .int u)]) [0, 1] rfl ?_
  refine aw_aload_n d_W_total_0 rfl rfl ?_
  refine aw_iload_n d_W_total_1 rfl rfl ?_
  refine aw_callV (av := [.int u]) (rest := []) (m_W_isNode hg hW hG) kd_W_isNode k_242 k_244 ks_W_isNode rfl hW d_W_total_2 rfl ⟨by decide, by decide⟩ (Nat.le_of_ble_eq_true rfl) ⟨by decide, by decide⟩ rfl (fun v2 ws2 hq2 => ?_)
  obtain ⟨rfl, rfl⟩ := hq2
  refine aw_if_neB (tgt := 10) d_W_total_5 (by decide) (fun h1 => ?_) (fun h1 => ?_)
  · obtain ⟨u1, hu1, rfl⟩ := nb_true hn h1
    refine aw_aload_n d_W_total_10 rfl rfl ?_
    refine aw_get kc_0 1 (by decide) k_148 d_W_total_11 hW rfl ?_
    refine aw_get kc_2 2 (by decide) k_71 d_W_total_14 hS.1 rfl ?_
    refine aw_iload_n d_W_total_17 rfl rfl ?_
    refine aw_ialdA d_W_total_18 hS.2.2.2.1 hg (by omega) (by decide) ?_
    exact aw_iret d_W_total_19 (Nat.le_refl 0) (Nat.le_refl 0) ⟨by unfold aTotal; rw [if_pos h1, ix_nI (by omega), (hoS u1 hu1).2.1], rfl⟩
  · refine aw_iconst (v := -1) d_W_total_8 (by decide) ?_
    exact aw_iret d_W_total_9 (Nat.le_refl 0) (Nat.le_refl 0) ⟨by unfold aTotal; rw [if_neg (by simp [h1])], rfl⟩

set_option maxHeartbeats 4000000 in
set_option maxRecDepth 100000 in
theorem m_W_closed {g : aw_G} (hg : aw_T g) {ws : va_W} {ad : Nat → Nat} {n x y q : Nat} {W P : Nat → Nat → Nat} {J T X M L D : Nat → Nat} {O : Nat → Int32} (hK : gK g ws ad n x y W J P T X q M L O D) : AMet g y_W_closed c_W_closed 1 (some .int) 0 [.ref (ad 0)] ws (aw_R (.int (nI q)) ws) 0 0 := by
  obtain ⟨hW, hG, hok, hS, hoS, hC, hD, hI, hE0, hP0, hH0⟩ := id hK
  have hn := hok.1
  refine amet_of (by decide +kernel) (Nat.le_of_ble_eq_true rfl) ?_
  refine aw_sub (lv' := [(0, .ref (ad 0))]) [0] rfl ?_
  refine aw_aload_n d_W_closed_0 rfl rfl ?_
  refine aw_get kc_0 2 (by decide) k_149 d_W_closed_1 hW rfl ?_
  refine aw_get kc_3 0 (by decide) k_89 d_W_closed_4 hC.1 rfl ?_
  exact aw_iret d_W_closed_7 (Nat.le_refl 0) (Nat.le_refl 0) ⟨rfl, rfl⟩

set_option maxHeartbeats 4000000 in
set_option maxRecDepth 100000 in
theorem m_W_closedOf {g : aw_G} (hg : aw_T g) {ws : va_W} {ad : Nat → Nat} {n x y q : Nat} {W P : Nat → Nat → Nat} {J T X M L D : Nat → Nat} {O : Nat → Int32} {u : Int32} (hK : gK g ws ad n x y W J P T X q M L O D) : AMet g y_W_closedOf c_W_closedOf 2 (some .int) 1 [.ref (ad 0), .int u] ws (aw_R (.int (if nb n u = true then O (ix u) else -1)) ws) 0 0 := by
  obtain ⟨hW, hG, hok, hS, hoS, hC, hD, hI, hE0, hP0, hH0⟩ := id hK
  have hn := hok.1
  refine amet_of (by decide +kernel) (Nat.le_of_ble_eq_true rfl) ?_
  refine aw_sub (lv' := [(0, .ref (ad 0)), (1, .int u)]) [0, 1] rfl ?_
  refine aw_aload_n d_W_closedOf_0 rfl rfl ?_
  refine aw_iload_n d_W_closedOf_1 rfl rfl ?_
  refine aw_callV (av := [.int u]) (rest := []) (m_W_isNode hg hW hG) kd_W_isNode k_242 k_244 ks_W_isNode rfl hW d_W_closedOf_2 rfl ⟨by decide, by decide⟩ (Nat.le_of_ble_eq_true rfl) ⟨by decide, by decide⟩ rfl (fun v2 ws2 hq2 => ?_)
  obtain ⟨rfl, rfl⟩ := hq2
  refine aw_if_neB (tgt := 10) d_W_closedOf_5 (by decide) (fun h1 => ?_) (fun h1 => ?_)
  · obtain ⟨u1, hu1, rfl⟩ := nb_true hn h1
    refine aw_aload_n d_W_closedOf_10 rfl rfl ?_
    refine aw_get kc_0 2 (by decide) k_149 d_W_closedOf_11 hW rfl ?_
    refine aw_get kc_3 3 (by decide) k_95 d_W_closedOf_14 hC.1 rfl ?_
    refine aw_iload_n d_W_closedOf_17 rfl rfl ?_
    refine aw_ialdR d_W_closedOf_18 hC.2.2.2.1 hg (by omega) (by decide) ?_
    exact aw_iret d_W_closedOf_19 (Nat.le_refl 0) (Nat.le_refl 0) ⟨by rw [if_pos h1, ix_nI (by omega)], rfl⟩
  · refine aw_iconst (v := -1) d_W_closedOf_8 (by decide) ?_
    exact aw_iret d_W_closedOf_9 (Nat.le_refl 0) (Nat.le_refl 0) ⟨by rw [if_neg (by simp [h1])], rfl⟩

theorem IC_q {n : Nat} {D : Nat → Nat} {q : Nat} {M L : Nat → Nat} {O : Nat → Int32} (h : IC n D n q M L O) (hn : n ≤ 5) : q ≤ 5 := by
  have := cntB_le (ldB D n) n
  have := h.1
  omega
theorem cntB_ex (p : Nat → Bool) : ∀ {k i : Nat}, i < cntB p k → ∃ l, l < k ∧ p l = true ∧ cntB p l = i
  | 0, i, h => absurd h (Nat.not_lt_zero i)
  | k + 1, i, h => by
    rw [cntB] at h
    by_cases e : i < cntB p k
    · obtain ⟨l, h1, h2, h3⟩ := cntB_ex p e
      exact ⟨l, by omega, h2, h3⟩
    · by_cases hp : p k = true
      · rw [if_pos hp] at h
        exact ⟨k, by omega, hp, by omega⟩
      · rw [if_neg hp] at h; omega
/-- set i has its least node -/
theorem IC_set {n : Nat} {D : Nat → Nat} {q : Nat} {M L : Nat → Nat} {O : Nat → Int32} (h : IC n D n q M L O) {i : Nat} (hi : i < q) : ∃ l, l < n ∧ ldB D n l = true ∧ cntB (ldB D n) l = i ∧ M i = D l ∧ L i = l := by
  rw [h.1] at hi
  obtain ⟨l, h1, h2, h3⟩ := cntB_ex _ hi
  obtain ⟨e1, e2⟩ := h.2.1 l h1 h2
  rw [h3] at e1 e2
  exact ⟨l, h1, h2, h3, e1, e2⟩

set_option maxHeartbeats 4000000 in
set_option maxRecDepth 100000 in
theorem m_W_period {g : aw_G} (hg : aw_T g) {ws : va_W} {ad : Nat → Nat} {n x y q : Nat} {W P : Nat → Nat → Nat} {J T X M L D : Nat → Nat} {O : Nat → Int32} {a : Int32} (hK : gK g ws ad n x y W J P T X q M L O D) : AMet g y_W_period c_W_period 2 (some .int) 4 [.ref (ad 0), .int a] ws (aw_R (.int (if nb q a = true then nI (perd X n (L (ix a)) 15) else -1)) ws) 0 0 := by
  obtain ⟨hW, hG, hok, hS, hoS, hC, hD, hI, hE0, hP0, hH0⟩ := id hK
  have hn := hok.1
  have hq5 := IC_q hI hn
  refine amet_of (by decide +kernel) (Nat.le_of_ble_eq_true rfl) ?_
  refine aw_sub (lv' := [(0, .ref (ad 0)), (1, .int a)]) [0, 1] rfl ?_
  refine aw_aload_n d_W_period_0 rfl rfl ?_
  refine aw_iload_n d_W_period_1 rfl rfl ?_
  refine aw_callV (av := [.int a]) (rest := []) (m_W_isSet hg hW hC) kd_W_isSet k_278 k_280 ks_W_isSet rfl hW d_W_period_2 rfl ⟨by decide, by decide⟩ (Nat.le_of_ble_eq_true rfl) ⟨by decide, by decide⟩ rfl (fun v2 ws2 hq2 => ?_)
  obtain ⟨rfl, rfl⟩ := hq2
  refine aw_if_neB (tgt := 10) d_W_period_5 (by decide) (fun h1 => ?_) (fun h1 => ?_)
  · obtain ⟨a1, ha1, rfl⟩ := nb_true hq5 h1
    obtain ⟨l, hl, -, -, -, eL⟩ := IC_set hI ha1
    refine aw_aload_n d_W_period_10 rfl rfl ?_
    refine aw_get kc_0 1 (by decide) k_148 d_W_period_11 hW rfl ?_
    refine aw_aload_n d_W_period_14 rfl rfl ?_
    refine aw_get kc_0 2 (by decide) k_149 d_W_period_15 hW rfl ?_
    refine aw_get kc_3 2 (by decide) k_93 d_W_period_18 hC.1 rfl ?_
    refine aw_iload_n d_W_period_21 rfl rfl ?_
    refine aw_ialdA d_W_period_22 hC.2.2.1 hg (by omega) (by decide) ?_
    refine aw_nmi (z := nI l) (by rw [eL]) ?_
    refine aw_callV (av := [.int (nI l)]) (rest := []) (m_S_periodAt hg hS hn (by omega) (hoS.X hn).lt) kd_S_periodAt k_282 k_283 ks_S_periodAt rfl hS.1 d_W_period_23 rfl ⟨by decide, by decide⟩ (Nat.le_of_ble_eq_true rfl) ⟨by decide, by decide⟩ rfl (fun v3 ws3 hq3 => ?_)
    obtain ⟨rfl, rfl⟩ := hq3
    exact aw_iret d_W_period_26 (Nat.le_refl 0) (Nat.le_refl 0) ⟨by rw [if_pos h1, ix_nI (by omega), eL], rfl⟩
  · refine aw_iconst (v := -1) d_W_period_8 (by decide) ?_
    exact aw_iret d_W_period_9 (Nat.le_refl 0) (Nat.le_refl 0) ⟨by rw [if_neg (by simp [h1])], rfl⟩
end
section
-- laid by wip/whole/m9.py
set_option maxHeartbeats 4000000 in
set_option maxRecDepth 100000 in
theorem m_W_walks {g : aw_G} (hg : aw_T g) {ws : va_W} {ad : Nat → Nat} {n x y q : Nat} {W P : Nat → Nat → Nat} {J T X M L D : Nat → Nat} {O : Nat → Int32} {u v k : Int32} (hK : gK g ws ad n x y W J P T X q M L O D) : AMet g y_W_walks c_W_walks 4 (some .long) 2 [.ref (ad 0), .int u, .int v, .int k] ws (qQry g ad ws (.long (aWalks n W u v k)) n x y W J P T X q M L O D) 0 0 := by
  obtain ⟨hW, hG, hok, hS, hoS, hC, hD, hI, hE0, hP0, hH0⟩ := id hK
  have hn := hok.1
  obtain ⟨p4, q4, m4, A4, B4, Z4, hP⟩ := hP0
  refine amet_of (by decide +kernel) (Nat.le_of_ble_eq_true rfl) ?_
  refine aw_sub (lv' := [(0, .ref (ad 0)), (1, .int u), (2, .int v), (3, .int k)]) [0, 1, 2, 3] rfl ?_
  refine aw_aload_n d_W_walks_0 rfl rfl ?_
  refine aw_iload_n d_W_walks_1 rfl rfl ?_
  refine aw_callV (av := [.int u]) (rest := []) (m_W_isNode hg hW hG) kd_W_isNode k_242 k_244 ks_W_isNode rfl hW d_W_walks_2 rfl ⟨by decide, by decide⟩ (Nat.le_of_ble_eq_true rfl) ⟨by decide, by decide⟩ rfl (fun v2 ws2 hq2 => ?_)
  obtain ⟨rfl, rfl⟩ := hq2
  refine aw_if_eqB (tgt := 16) d_W_walks_5 (by decide) (fun h1 => ?_) (fun h1 => ?_)
  · refine aw_ldc2 (v := (-1 : Int64)) d_W_walks_16 k_290 ?_
    exact aw_lret d_W_walks_19 (Nat.le_refl 0) (Nat.le_refl 0) ⟨by unfold aWalks; rw [if_neg (by simp [h1])], fr.rf, hK⟩
  · refine aw_aload_n d_W_walks_8 rfl rfl ?_
    refine aw_iload_n d_W_walks_9 rfl rfl ?_
    refine aw_callV (av := [.int v]) (rest := []) (m_W_isNode hg hW hG) kd_W_isNode k_242 k_244 ks_W_isNode rfl hW d_W_walks_10 rfl ⟨by decide, by decide⟩ (Nat.le_of_ble_eq_true rfl) ⟨by decide, by decide⟩ rfl (fun v2 ws2 hq2 => ?_)
    obtain ⟨rfl, rfl⟩ := hq2
    refine aw_if_neB (tgt := 20) d_W_walks_13 (by decide) (fun h2 => ?_) (fun h2 => ?_)
    · refine aw_iload_n d_W_walks_20 rfl rfl ?_
      refine aw_if_lt (tgt := 30) d_W_walks_21 (by decide) (fun h3 => ?_) (fun h3 => ?_)
      · refine aw_ldc2 (v := (-2 : Int64)) d_W_walks_30 k_294 ?_
        exact aw_lret d_W_walks_33 (Nat.le_refl 0) (Nat.le_refl 0) ⟨by unfold aWalks; rw [if_pos ⟨h1, h2⟩, if_neg (by rw [ib_lt h3]; decide)], fr.rf, hK⟩
      · refine aw_iload_n d_W_walks_24 rfl rfl ?_
        refine aw_bipush (v := nI 12) d_W_walks_25 (by decide) ?_
        refine aw_icmp_le (tgt := 34) d_W_walks_27 (by decide) (fun h4 => ?_) (fun h4 => ?_)
        · have h5 := ib_in h3 h4
          obtain ⟨k1, hk1, rfl⟩ := ib_true (by decide) h5
          obtain ⟨u1, hu1, rfl⟩ := nb_true hn h1
          obtain ⟨v1, hv1, rfl⟩ := nb_true hn h2
          refine aw_aload_n d_W_walks_34 rfl rfl ?_
          refine aw_get kc_0 4 (by decide) k_151 d_W_walks_35 hW rfl ?_
          refine aw_aload_n d_W_walks_38 rfl rfl ?_
          refine aw_get kc_0 0 (by decide) k_147 d_W_walks_39 hW rfl ?_
          refine aw_callV (av := [.ref (ad 1)]) (rest := []) (m_P_fillByWeights hg hP hG hn (fun i j hi hj => hok.2.2.2.2.1 i j (by omega) (by omega))) kd_P_fillByWeights k_384 k_385 ks_P_fillByWeights rfl hP.2.1 d_W_walks_42 rfl ⟨by decide, by decide⟩ (Nat.le_of_ble_eq_true rfl) ⟨by decide, by decide⟩ rfl (fun v2 ws2 hq2 => ?_)
          obtain ⟨rfl, f2, Z2, hP2, hZ2⟩ := hq2
          have hW2 : gW ws2 ad := (f2.1 0 (by omega)).trans hW
          have hG2 := hG.kept f2 (by omega)
          refine aw_aload_n d_W_walks_45 rfl rfl ?_
          refine aw_get kc_0 4 (by decide) k_151 d_W_walks_46 hW2 rfl ?_
          refine aw_iload_n d_W_walks_49 rfl rfl ?_
          refine aw_iload_n d_W_walks_50 rfl rfl ?_
          refine aw_callV (av := [.int (nI u1), .int (nI k1)]) (rest := []) (m_P_run hg hP2 hn hu1 hk1) kd_P_run k_368 k_369 ks_P_run rfl hP2.2.1 d_W_walks_51 rfl ⟨by decide, by decide⟩ (Nat.le_of_ble_eq_true rfl) ⟨by decide, by decide⟩ rfl (fun v3 ws3 hq3 => ?_)
          obtain ⟨rfl, f3, p5, q5, A5, B5, hP3, hA5⟩ := hq3
          have hW3 : gW ws3 ad := (f3.1 0 (by omega)).trans hW2
          refine aw_aload_n d_W_walks_54 rfl rfl ?_
          refine aw_get kc_0 4 (by decide) k_151 d_W_walks_55 hW3 rfl ?_
          refine aw_iload_n d_W_walks_58 rfl rfl ?_
          refine aw_callV (av := [.int (nI v1)]) (rest := []) (m_P_numberAt hg hP3 (by omega)) kd_P_numberAt k_376 k_377 ks_P_numberAt rfl hP3.2.1 d_W_walks_59 rfl ⟨by decide, by decide⟩ (Nat.le_of_ble_eq_true rfl) ⟨by decide, by decide⟩ rfl (fun v4 ws4 hq4 => ?_)
          obtain ⟨rfl, rfl⟩ := hq4
          have f := f2.tr f3
          exact aw_lret d_W_walks_62 (Nat.le_refl 0) (Nat.le_refl 0) ⟨by unfold aWalks; rw [if_pos ⟨h1, h2⟩, if_pos h5, ix_nI (by omega), ix_nI (by omega), ix_nI (by omega), hA5 v1 hv1, itM_cast hZ2 hv1], f.wide (by omega) (by omega), hW3, (hG2.kept f3 (by omega)), hok, hS.kept f (by omega), hoS, hC.kept f (by omega), hD, hI, (by obtain ⟨m, Z, h⟩ := hE0; exact ⟨m, Z, h.kept f (by omega)⟩), ⟨_, _, _, _, _, _, hP3⟩, (by obtain ⟨A, h⟩ := hH0; exact ⟨A, (f.1 39 (by omega)).trans h⟩)⟩
        · refine aw_ldc2 (v := (-2 : Int64)) d_W_walks_30 k_294 ?_
          exact aw_lret d_W_walks_33 (Nat.le_refl 0) (Nat.le_refl 0) ⟨by unfold aWalks; rw [if_pos ⟨h1, h2⟩, if_neg (by rw [ib_gt h4]; decide)], fr.rf, hK⟩
    · refine aw_ldc2 (v := (-1 : Int64)) d_W_walks_16 k_290 ?_
      exact aw_lret d_W_walks_19 (Nat.le_refl 0) (Nat.le_refl 0) ⟨by unfold aWalks; rw [if_neg (by simp [h2])], fr.rf, hK⟩

set_option maxHeartbeats 4000000 in
set_option maxRecDepth 100000 in
theorem m_W_after {g : aw_G} (hg : aw_T g) {ws : va_W} {ad : Nat → Nat} {n x y q : Nat} {W P : Nat → Nat → Nat} {J T X M L D : Nat → Nat} {O : Nat → Int32} {u v k p : Int32} (hK : gK g ws ad n x y W J P T X q M L O D) : AMet g y_W_after c_W_after 10 (some .long) 2 [.ref (ad 0), .int u, .int v, .int k, .int p] ws (qQry g ad ws (.long (aAfter n x y W J u v k p)) n x y W J P T X q M L O D) 0 0 := by
  obtain ⟨hW, hG, hok, hS, hoS, hC, hD, hI, hE0, hP0, hH0⟩ := id hK
  have hn := hok.1
  obtain ⟨p4, q4, m4, A4, B4, Z4, hP⟩ := hP0
  have eT : ∀ i, i < n → T i = tt n x y W J i := fun i hi => (hoS i hi).2.1
  have hU : ∀ i, i ≤ n → 0 < lcmT T i ∧ lcmT T i ≤ 10080 := fun i hi => by rw [lcmT_congr (U := tt n x y W J) (fun j hj => eT j (by omega))]; exact unit_ok hok hi
  have hT : ∀ i, i < n → 0 < T i ∧ T i ≤ 400 := fun i hi => by rw [eT i hi]; exact ⟨(nr_ok hok hi).1, (nr_ok hok hi).2.1⟩
  have eU : lcmT T n = uN n x y W J := lcmT_congr eT
  have hU1 := hU n (Nat.le_refl n)
  refine amet_of (by decide +kernel) (Nat.le_of_ble_eq_true rfl) ?_
  refine aw_sub (lv' := [(0, .ref (ad 0)), (1, .int u), (2, .int v), (3, .int k), (4, .int p)]) [0, 1, 2, 3, 4] rfl ?_
  refine aw_aload_n d_W_after_0 rfl rfl ?_
  refine aw_iload_n d_W_after_1 rfl rfl ?_
  refine aw_callV (av := [.int u]) (rest := []) (m_W_isNode hg hW hG) kd_W_isNode k_242 k_244 ks_W_isNode rfl hW d_W_after_2 rfl ⟨by decide, by decide⟩ (Nat.le_of_ble_eq_true rfl) ⟨by decide, by decide⟩ rfl (fun v2 ws2 hq2 => ?_)
  obtain ⟨rfl, rfl⟩ := hq2
  refine aw_if_eqB (tgt := 16) d_W_after_5 (by decide) (fun h1 => ?_) (fun h1 => ?_)
  · refine aw_ldc2 (v := (-1 : Int64)) d_W_after_16 k_290 ?_
    exact aw_lret d_W_after_19 (Nat.le_refl 0) (Nat.le_refl 0) ⟨by unfold aAfter; rw [if_neg (by simp [h1])], fr.rf, hK⟩
  · refine aw_aload_n d_W_after_8 rfl rfl ?_
    refine aw_iload_n d_W_after_9 rfl rfl ?_
    refine aw_callV (av := [.int v]) (rest := []) (m_W_isNode hg hW hG) kd_W_isNode k_242 k_244 ks_W_isNode rfl hW d_W_after_10 rfl ⟨by decide, by decide⟩ (Nat.le_of_ble_eq_true rfl) ⟨by decide, by decide⟩ rfl (fun v2 ws2 hq2 => ?_)
    obtain ⟨rfl, rfl⟩ := hq2
    refine aw_if_neB (tgt := 20) d_W_after_13 (by decide) (fun h2 => ?_) (fun h2 => ?_)
    · refine aw_iload_n d_W_after_20 rfl rfl ?_
      refine aw_if_lt (tgt := 37) d_W_after_21 (by decide) (fun h3 => ?_) (fun h3 => ?_)
      · refine aw_ldc2 (v := (-2 : Int64)) d_W_after_37 k_294 ?_
        exact aw_lret d_W_after_40 (Nat.le_refl 0) (Nat.le_refl 0) ⟨by unfold aAfter; rw [if_pos ⟨h1, h2⟩, if_neg (by simp [ib_lt h3])], fr.rf, hK⟩
      · refine aw_iload_n d_W_after_24 rfl rfl ?_
        refine aw_iconst (v := nI 3) d_W_after_25 (by decide) ?_
        refine aw_icmp_gt (tgt := 37) d_W_after_26 (by decide) (fun h4 => ?_) (fun h4 => ?_)
        · refine aw_ldc2 (v := (-2 : Int64)) d_W_after_37 k_294 ?_
          exact aw_lret d_W_after_40 (Nat.le_refl 0) (Nat.le_refl 0) ⟨by unfold aAfter; rw [if_pos ⟨h1, h2⟩, if_neg (by simp [ib_gt (m := 3) (x := k) (Int32.not_le.mpr h4)])], fr.rf, hK⟩
        · refine aw_iload d_W_after_29 rfl ?_
          refine aw_callS (av := [.int p]) (rest := []) (m_W_isPart (ad := ad) hg) kd_W_isPart k_291 k_292  d_W_after_31 rfl ⟨by decide, by decide⟩ (Nat.le_of_ble_eq_true rfl) ⟨by decide, by decide⟩ rfl (fun v2 ws2 hq2 => ?_)
          obtain ⟨rfl, rfl⟩ := hq2
          refine aw_if_neB (tgt := 41) d_W_after_34 (by decide) (fun h6 => ?_) (fun h6 => ?_)
          · have h5 := ib_in (m := 3) h3 (Int32.not_lt.mp h4)
            obtain ⟨k1, hk1, rfl⟩ := ib_true (by decide) h5
            obtain ⟨u1, hu1, rfl⟩ := nb_true hn h1
            obtain ⟨v1, hv1, rfl⟩ := nb_true hn h2
            obtain ⟨p1, hp1, rfl⟩ := pb_true h6
            refine aw_aload_n d_W_after_41 rfl rfl ?_
            refine aw_get kc_0 1 (by decide) k_148 d_W_after_42 hW rfl ?_
            refine aw_callV (av := []) (rest := []) (m_S_commonTotal hg hS hn hT hU) kd_S_commonTotal k_360 k_361 ks_S_commonTotal rfl hS.1 d_W_after_45 rfl ⟨by decide, by decide⟩ (Nat.le_of_ble_eq_true rfl) ⟨by decide, by decide⟩ rfl (fun v2 ws2 hq2 => ?_)
            obtain ⟨rfl, rfl⟩ := hq2
            refine aw_lstore (lv' := [(5, .long (lI (lcmT T n : Int))), (0, .ref (ad 0)), (1, .int (nI u1)), (2, .int (nI v1)), (3, .int (nI k1)), (4, .int (nI p1))]) d_W_after_48 (by decide) rfl ?_
            refine aw_aload_n d_W_after_50 rfl rfl ?_
            refine aw_get kc_0 4 (by decide) k_151 d_W_after_51 hW rfl ?_
            refine aw_aload_n d_W_after_54 rfl rfl ?_
            refine aw_get kc_0 1 (by decide) k_148 d_W_after_55 hW rfl ?_
            refine aw_lload d_W_after_58 rfl ?_
            refine aw_callV (av := [.ref (ad 9), .long (lI (lcmT T n : Int))]) (rest := []) (m_P_fillBySteps hg hP hS hn (by omega) (fun i j hi hj => (hoS.P4 hok hi hj).1) hT) kd_P_fillBySteps k_364 k_365 ks_P_fillBySteps rfl hP.2.1 d_W_after_60 rfl ⟨by decide, by decide⟩ (Nat.le_of_ble_eq_true rfl) ⟨by decide, by decide⟩ rfl (fun v2 ws2 hq2 => ?_)
            obtain ⟨rfl, f2, Z2, hP2, hZ2⟩ := hq2
            have hW2 : gW ws2 ad := (f2.1 0 (by omega)).trans hW
            have hG2 := hG.kept f2 (by omega)
            have hZf : ∀ i j, i < n → j < n → Z2 i j = (fN n x y W J i j : Int) := fun i j hi hj => (hZ2 i j hi hj).trans (by show ((lcmT T n / T i : Nat) : Int) * (P i j : Int) = _; unfold fN; rw [← eU, ← eT i hi, (hoS i hi).1 j hj, Int.natCast_mul])
            refine aw_aload_n d_W_after_63 rfl rfl ?_
            refine aw_get kc_0 4 (by decide) k_151 d_W_after_64 hW2 rfl ?_
            refine aw_iload_n d_W_after_67 rfl rfl ?_
            refine aw_iload_n d_W_after_68 rfl rfl ?_
            refine aw_callV (av := [.int (nI u1), .int (nI k1)]) (rest := []) (m_P_run hg hP2 hn hu1 (by omega)) kd_P_run k_368 k_369 ks_P_run rfl hP2.2.1 d_W_after_69 rfl ⟨by decide, by decide⟩ (Nat.le_of_ble_eq_true rfl) ⟨by decide, by decide⟩ rfl (fun v3 ws3 hq3 => ?_)
            obtain ⟨rfl, f3, p5, q5, A5, B5, hP3, hA5⟩ := hq3
            have hW3 : gW ws3 ad := (f3.1 0 (by omega)).trans hW2
            refine aw_lconst (v := lI 1) d_W_after_72 (by decide) ?_
            refine aw_lstore (lv' := [(7, .long (lI 1)), (5, .long (lI (lcmT T n : Int))), (0, .ref (ad 0)), (1, .int (nI u1)), (2, .int (nI v1)), (3, .int (nI k1)), (4, .int (nI p1))]) d_W_after_73 (by decide) rfl ?_
            refine aw_iconst (v := nI 0) d_W_after_75 (by decide) ?_
            refine aw_istore (lv' := [(9, .int (nI 0)), (7, .long (lI 1)), (5, .long (lI (lcmT T n : Int))), (0, .ref (ad 0)), (1, .int (nI u1)), (2, .int (nI v1)), (3, .int (nI k1)), (4, .int (nI p1))]) d_W_after_76 (by decide) rfl ?_
            have lp : ∀ (k : Nat) (i : Nat), i ≤ k1 → k1 - i < k → AW g y_W_after c_W_after 10 (some .long) (aw_rm 2 0 0) aw_E0 (aw_F g (qQry g ad ws (.long (aAfter n x y W J (nI u1) (nI v1) (nI k1) (nI p1))) n x y W J P T X q M L O D) 0 0) 0 0 78 [(0, .ref (ad 0)), (2, .int (nI v1)), (3, .int (nI k1)), (4, .int (nI p1)), (5, .long (lI (lcmT T n : Int))), (7, .long (lI (lcmT T n ^ i : Nat))), (9, .int (nI i))] [] ws3 := by
              intro k
              induction k with
              | zero => intro i hi hk; omega
              | succ k ih =>
                intro i hi hk
                refine aw_iload d_W_after_78 rfl ?_
                refine aw_iload_n d_W_after_80 rfl rfl ?_
                refine aw_icmp_geN (tgt := 97) d_W_after_81 (by decide) (by omega) (by omega) (fun h => ?_) (fun h => ?_)
                · have e : k1 = i := by omega
                  subst e
                  refine aw_aload_n d_W_after_97 rfl rfl ?_
                  refine aw_get kc_0 4 (by decide) k_151 d_W_after_98 hW3 rfl ?_
                  refine aw_iload_n d_W_after_101 rfl rfl ?_
                  refine aw_callV (av := [.int (nI v1)]) (rest := []) (m_P_numberAt hg hP3 (by omega)) kd_P_numberAt k_376 k_377 ks_P_numberAt rfl hP3.2.1 d_W_after_102 rfl ⟨by decide, by decide⟩ (Nat.le_of_ble_eq_true rfl) ⟨by decide, by decide⟩ rfl (fun v4 ws4 hq4 => ?_)
                  obtain ⟨rfl, rfl⟩ := hq4
                  refine aw_nml (z := lI (itN (fN n x y W J) n (dlN u1) k1 v1 : Nat)) (by rw [hA5 v1 hv1, itM_cast hZf hv1]) ?_
                  have b1 := itN_le (Z := fN n x y W J) (u := u1) hn (fun i j hi hj => fN_le hok hi hj) (k := k1) hv1
                  have b2 : (5 * 10080) ^ k1 ≤ (5 * 10080) ^ 3 := Nat.pow_le_pow_right (by decide) hk1
                  have b3 : lcmT T n ^ k1 ≤ 10080 ^ k1 := Nat.pow_le_pow_left hU1.2 k1
                  have b4 : 10080 ^ k1 ≤ 10080 ^ 3 := Nat.pow_le_pow_right (by decide) hk1
                  have b5 : 0 < lcmT T n ^ k1 := Nat.pow_pos hU1.1
                  refine aw_lload d_W_after_105 rfl ?_
                  refine aw_iload d_W_after_107 rfl ?_
                  refine aw_callS (av := [.long (lI (itN (fN n x y W J) n (dlN u1) k1 v1 : Nat)), .long (lI (lcmT T n ^ k1 : Nat)), .int (nI p1)]) (rest := []) (m_W_fraction (ad := ad) hg (by omega) (by omega) (mul99 (by omega) (by omega)) b5 hp1) kd_W_fraction k_314 k_315  d_W_after_109 rfl ⟨by decide, by decide⟩ (Nat.le_of_ble_eq_true rfl) ⟨by decide, by decide⟩ rfl (fun v5 ws5 hq5 => ?_)
                  obtain ⟨rfl, rfl⟩ := hq5
                  have f := f2.tr f3
                  exact aw_lret d_W_after_112 (Nat.le_refl 0) (Nat.le_refl 0) ⟨by unfold aAfter; rw [if_pos ⟨h1, h2⟩, if_pos ⟨h5, h6⟩, ix_nI (by omega), ix_nI (by omega), ix_nI (by omega), ix_nI (by omega), eU], f.wide (by omega) (by omega), hW3, (hG2.kept f3 (by omega)), hok, hS.kept f (by omega), hoS, hC.kept f (by omega), hD, hI, (by obtain ⟨m, Z, h⟩ := hE0; exact ⟨m, Z, h.kept f (by omega)⟩), ⟨_, _, _, _, _, _, hP3⟩, (by obtain ⟨A, h⟩ := hH0; exact ⟨A, (f.1 39 (by omega)).trans h⟩)⟩
                · refine aw_lload d_W_after_84 rfl ?_
                  refine aw_lload d_W_after_86 rfl ?_
                  refine aw_lmulI d_W_after_88 ?_
                  refine aw_nml (z := lI (lcmT T n ^ (i + 1) : Nat)) (by rw [Nat.pow_succ, Int.natCast_mul]) ?_
                  refine aw_lstore (lv' := [(7, .long (lI (lcmT T n ^ (i + 1) : Nat))), (0, .ref (ad 0)), (2, .int (nI v1)), (3, .int (nI k1)), (4, .int (nI p1)), (5, .long (lI (lcmT T n : Int))), (9, .int (nI i))]) d_W_after_89 (by decide) rfl ?_
                  refine aw_iinc1 (lv' := [(9, .int (nI (i + 1))), (7, .long (lI (lcmT T n ^ (i + 1) : Nat))), (0, .ref (ad 0)), (2, .int (nI v1)), (3, .int (nI k1)), (4, .int (nI p1)), (5, .long (lI (lcmT T n : Int)))]) d_W_after_91 rfl (by decide) rfl ?_
                  refine aw_goto (tgt := 78) d_W_after_94 (by decide) ?_
                  refine aw_sub (lv' := [(0, .ref (ad 0)), (2, .int (nI v1)), (3, .int (nI k1)), (4, .int (nI p1)), (5, .long (lI (lcmT T n : Int))), (7, .long (lI (lcmT T n ^ (i + 1) : Nat))), (9, .int (nI (i + 1)))]) [2, 3, 4, 5, 6, 1, 0] rfl ?_
                  exact ih (i + 1) (by omega) (by omega)
            refine aw_sub (lv' := [(0, .ref (ad 0)), (2, .int (nI v1)), (3, .int (nI k1)), (4, .int (nI p1)), (5, .long (lI (lcmT T n : Int))), (7, .long (lI (lcmT T n ^ 0 : Nat))), (9, .int (nI 0))]) [3, 5, 6, 7, 2, 1, 0] rfl ?_
            exact lp (k1 + 1) 0 (by omega) (by omega)
          · refine aw_ldc2 (v := (-2 : Int64)) d_W_after_37 k_294 ?_
            exact aw_lret d_W_after_40 (Nat.le_refl 0) (Nat.le_refl 0) ⟨by unfold aAfter; rw [if_pos ⟨h1, h2⟩, if_neg (by simp [h6])], fr.rf, hK⟩
    · refine aw_ldc2 (v := (-1 : Int64)) d_W_after_16 k_290 ?_
      exact aw_lret d_W_after_19 (Nat.le_refl 0) (Nat.le_refl 0) ⟨by unfold aAfter; rw [if_neg (by simp [h2])], fr.rf, hK⟩

set_option maxHeartbeats 4000000 in
set_option maxRecDepth 100000 in
theorem m_W_drawn {g : aw_G} (hg : aw_T g) {ws : va_W} {ad : Nat → Nat} {n x y q : Nat} {W P : Nat → Nat → Nat} {J T X M L D : Nat → Nat} {O : Nat → Int32} {u z k : Int32} (hK : gK g ws ad n x y W J P T X q M L O D) : AMet g y_W_drawn c_W_drawn 7 (some .int) 1 [.ref (ad 0), .int u, .int z, .int k] ws (aw_R (.int (aDrawn n x y W J u z k)) ws) 0 0 := by
  obtain ⟨hW, hG, hok, hS, hoS, hC, hD, hI, hE0, hP0, hH0⟩ := id hK
  have hn := hok.1
  refine amet_of (by decide +kernel) (Nat.le_of_ble_eq_true rfl) ?_
  refine aw_sub (lv' := [(0, .ref (ad 0)), (1, .int u), (2, .int z), (3, .int k)]) [0, 1, 2, 3] rfl ?_
  refine aw_aload_n d_W_drawn_0 rfl rfl ?_
  refine aw_iload_n d_W_drawn_1 rfl rfl ?_
  refine aw_callV (av := [.int u]) (rest := []) (m_W_isNode hg hW hG) kd_W_isNode k_242 k_244 ks_W_isNode rfl hW d_W_drawn_2 rfl ⟨by decide, by decide⟩ (Nat.le_of_ble_eq_true rfl) ⟨by decide, by decide⟩ rfl (fun v2 ws2 hq2 => ?_)
  obtain ⟨rfl, rfl⟩ := hq2
  refine aw_if_neB (tgt := 10) d_W_drawn_5 (by decide) (fun h1 => ?_) (fun h1 => ?_)
  · refine aw_iload_n d_W_drawn_10 rfl rfl ?_
    refine aw_if_lt (tgt := 21) d_W_drawn_11 (by decide) (fun h3 => ?_) (fun h3 => ?_)
    · refine aw_bipush (v := -2) d_W_drawn_21 (by decide) ?_
      exact aw_iret d_W_drawn_23 (Nat.le_refl 0) (Nat.le_refl 0) ⟨by unfold aDrawn; rw [if_pos h1, if_neg (by rw [ib_lt h3]; decide)], rfl⟩
    · refine aw_iload_n d_W_drawn_14 rfl rfl ?_
      refine aw_sipush (v := nI 200) d_W_drawn_15 (by decide) ?_
      refine aw_icmp_le (tgt := 24) d_W_drawn_18 (by decide) (fun h4 => ?_) (fun h4 => ?_)
      · have h5 := ib_in h3 h4
        obtain ⟨k1, hk1, rfl⟩ := ib_true (by decide) h5
        obtain ⟨u1, hu1, rfl⟩ := nb_true hn h1
        have hoo : ∀ a, a < n → (∀ v, v < n → P a v = nr n x y W J a v) ∧ T a = tt n x y W J a ∧ 0 < tt n x y W J a ∧ sN (nr n x y W J a) n = tt n x y W J a := fun a ha => ⟨(hoS a ha).1, (hoS a ha).2.1, (nr_ok hok ha).1, rfl⟩
        refine aw_iload_n d_W_drawn_24 rfl rfl ?_
        refine aw_istore (lv' := [(4, .int (nI u1)), (0, .ref (ad 0)), (1, .int (nI u1)), (2, .int z), (3, .int (nI k1))]) d_W_drawn_25 (by decide) rfl ?_
        refine aw_iload_n d_W_drawn_27 rfl rfl ?_
        refine aw_istore (lv' := [(5, .int z), (4, .int (nI u1)), (0, .ref (ad 0)), (1, .int (nI u1)), (2, .int z), (3, .int (nI k1))]) d_W_drawn_28 (by decide) rfl ?_
        refine aw_iconst (v := nI 0) d_W_drawn_30 (by decide) ?_
        refine aw_istore (lv' := [(6, .int (nI 0)), (5, .int z), (4, .int (nI u1)), (0, .ref (ad 0)), (1, .int (nI u1)), (2, .int z), (3, .int (nI k1))]) d_W_drawn_31 (by decide) rfl ?_
        have lp : ∀ (k : Nat) (a : Nat) (s : Int32) (i : Nat), a < n → i ≤ k1 → dwS P T n (k1 - i) a s = dwS P T n k1 u1 z → k1 - i < k → AW g y_W_drawn c_W_drawn 7 (some .int) (aw_rm 1 0 0) aw_E0 (aw_F g (aw_R (.int (aDrawn n x y W J (nI u1) z (nI k1))) ws) 0 0) 0 0 33 [(0, .ref (ad 0)), (3, .int (nI k1)), (4, .int (nI a)), (5, .int s), (6, .int (nI i))] [] ws := by
          intro k
          induction k with
          | zero => intro a s i ha hi hd hk; omega
          | succ k ih =>
            intro a s i ha hi hd hk
            refine aw_iload d_W_drawn_33 rfl ?_
            refine aw_iload_n d_W_drawn_35 rfl rfl ?_
            refine aw_icmp_geN (tgt := 70) d_W_drawn_36 (by decide) (by omega) (by omega) (fun h => ?_) (fun h => ?_)
            · have e : k1 = i := by omega
              subst e
              rw [Nat.sub_self] at hd
              refine aw_iload d_W_drawn_70 rfl ?_
              exact aw_iret d_W_drawn_72 (Nat.le_refl 0) (Nat.le_refl 0) ⟨by unfold aDrawn; rw [if_pos h1, if_pos h5, ix_nI (by omega), ix_nI (by omega), ← dwS_congr hu1 hoo, ← hd]; rfl, rfl⟩
            · have hT := (hoo a ha).2.1
              have hT2 := nr_ok hok ha
              have hsa : sN (P a) n = T a := by rw [hT]; exact sN_congr (hoo a ha).1
              refine aw_iload d_W_drawn_39 rfl ?_
              refine aw_ldc (v := (1664525 : Int32)) d_W_drawn_41 k_392 ?_
              refine aw_imul d_W_drawn_43 ?_
              refine aw_ldc (v := (1013904223 : Int32)) d_W_drawn_44 k_393 ?_
              refine aw_iadd d_W_drawn_46 ?_
              refine aw_nmi (z := nz s) rfl ?_
              refine aw_istore (lv' := [(5, .int (nz s)), (0, .ref (ad 0)), (3, .int (nI k1)), (4, .int (nI a)), (6, .int (nI i))]) d_W_drawn_47 (by decide) rfl ?_
              refine aw_aload_n d_W_drawn_49 rfl rfl ?_
              refine aw_get kc_0 1 (by decide) k_148 d_W_drawn_50 hW rfl ?_
              refine aw_iload d_W_drawn_53 rfl ?_
              refine aw_iload d_W_drawn_55 rfl ?_
              refine aw_iconst (v := nI 1) d_W_drawn_57 (by decide) ?_
              refine aw_iushr d_W_drawn_58 ?_
              refine aw_nmi (z := nI (hz (nz s))) (hz_eq _) ?_
              refine aw_callV (av := [.int (nI a), .int (nI (hz (nz s)))]) (rest := []) (m_S_nextNode hg hS hn ha (hz_lt _) (by rw [hT]; exact ⟨hT2.1, hT2.2.1⟩) hsa) kd_S_nextNode k_394 k_395 ks_S_nextNode rfl hS.1 d_W_drawn_59 rfl ⟨by decide, by decide⟩ (Nat.le_of_ble_eq_true rfl) ⟨by decide, by decide⟩ rfl (fun v2 ws2 hq2 => ?_)
              obtain ⟨rfl, b, hb, rfl, b1, b2⟩ := hq2
              refine aw_istore (lv' := [(4, .int (nI b)), (5, .int (nz s)), (0, .ref (ad 0)), (3, .int (nI k1)), (6, .int (nI i))]) d_W_drawn_62 (by decide) rfl ?_
              refine aw_iinc1 (lv' := [(6, .int (nI (i + 1))), (4, .int (nI b)), (5, .int (nz s)), (0, .ref (ad 0)), (3, .int (nI k1))]) d_W_drawn_64 rfl (by decide) rfl ?_
              refine aw_goto (tgt := 33) d_W_drawn_67 (by decide) ?_
              refine aw_sub (lv' := [(0, .ref (ad 0)), (3, .int (nI k1)), (4, .int (nI b)), (5, .int (nz s)), (6, .int (nI (i + 1)))]) [3, 4, 1, 2, 0] rfl ?_
              exact ih b (nz s) (i + 1) hb (by omega) (by
            rw [← hd, show k1 - i = (k1 - (i + 1)) + 1 by omega, dwS_succ]; unfold drF; rw [pkF_eq hb b1 b2]) (by omega)
        refine aw_sub (lv' := [(0, .ref (ad 0)), (3, .int (nI k1)), (4, .int (nI u1)), (5, .int z), (6, .int (nI 0))]) [3, 6, 2, 1, 0] rfl ?_
        exact lp (k1 + 1) u1 z 0 hu1 (by omega) rfl (by omega)
      · refine aw_bipush (v := -2) d_W_drawn_21 (by decide) ?_
        exact aw_iret d_W_drawn_23 (Nat.le_refl 0) (Nat.le_refl 0) ⟨by unfold aDrawn; rw [if_pos h1, if_neg (by rw [ib_gt h4]; decide)], rfl⟩
  · refine aw_iconst (v := -1) d_W_drawn_8 (by decide) ?_
    exact aw_iret d_W_drawn_9 (Nat.le_refl 0) (Nat.le_refl 0) ⟨by unfold aDrawn; rw [if_neg (by simp [h1])], rfl⟩
end
section
-- step maps, their rounds, and their small determinants
/-- a determinant that leaves out what stands at a zero -/
def exE (Z : Nat → Nat → Int) (n : Nat) : Nat → Nat → Nat → Int
  | 0, _, _ => 1
  | k + 1, line, used => sZ (fun c => if used.testBit c = true then 0 else if Z line c = 0 then 0 else sg used c * Z line c * exE Z n k (line + 1) (used ||| 2 ^ c)) n
theorem exE_eq {Z : Nat → Nat → Int} {n : Nat} : ∀ (k line used : Nat), exE Z n k line used = exD Z n k line used
  | 0, _, _ => rfl
  | k + 1, line, used => by
    rw [exE, exD]
    refine sZ_congr (fun c _ => ?_)
    rw [exE_eq k (line + 1) (used ||| 2 ^ c)]
    by_cases h : used.testBit c = true
    · rw [if_pos h, if_pos h]
    · rw [if_neg h, if_neg h]
      by_cases h2 : Z line c = 0
      · rw [if_pos h2, h2, Int.mul_zero, Int.zero_mul]
      · rw [if_neg h2]
/-- row i of a step map: it stands at i and goes to w -/
def RU (U i w j : Nat) : Int := (if i = j then 1 else 0) - (if U.testBit i = true ∧ U.testBit w = true ∧ w = j then 1 else 0)
/-- where the steps lead: to the first that is not in U -/
def rch (U : Nat) (f : Nat → Nat) : Nat → Nat → Nat
  | 0, v => v
  | k + 1, v => if U.testBit v = true then rch U f k (f v) else v
def acyc (n U : Nat) (f : Nat → Nat) : Bool := (List.range n).all (fun v => !(U.testBit (rch U f 5 v)))
/-- every step map of the nodes of U -/
def allF (n U : Nat) (p : (Nat → Nat) → Bool) : Nat → Nat → (Nat → Nat) → Bool
  | 0, _, f => p f
  | k + 1, r, f => if U.testBit r = true then (List.range n).all (fun w => allF n U p k (r + 1) (fup f r w)) else allF n U p k (r + 1) (fup f r 0)
def p1 (n U : Nat) (f : Nat → Nat) : Bool := exE (fun i j => RU U i (f i) j) n n 0 0 == (if acyc n U f then 1 else 0)
set_option maxRecDepth 100000 in
theorem leaf1_4 : (List.range 16).all (fun U => U == 15 || allF 4 U (p1 4 U) 4 0 (fun _ => 0)) = true := by decide +kernel
theorem leaf1_3 : (List.range 8).all (fun U => U == 7 || allF 3 U (p1 3 U) 3 0 (fun _ => 0)) = true := by decide +kernel
theorem leaf1_2 : (List.range 4).all (fun U => U == 3 || allF 2 U (p1 2 U) 2 0 (fun _ => 0)) = true := by decide +kernel
theorem leaf1_1 : (List.range 2).all (fun U => U == 1 || allF 1 U (p1 1 U) 1 0 (fun _ => 0)) = true := by decide +kernel
set_option maxRecDepth 100000 in
theorem leaf1_5 : (List.range 32).all (fun U => U == 31 || allF 5 U (p1 5 U) 5 0 (fun _ => 0)) = true := by decide +kernel
end
section
/-- the same with 1 in column a, for how many steps it takes: each place w at which the way from a can be cut counts 1 -/
def R3 (U a i w j : Nat) : Int := if j = a then (if U.testBit i = true then 1 else 0) else RU U i w j
def cut3 (n U a : Nat) (f : Nat → Nat) (w : Nat) : Bool := U.testBit w && acyc n (an U (2 ^ w)) f && (rch (an U (2 ^ w)) f 5 a == w)
def n3 (n U a : Nat) (f : Nat → Nat) : Nat := sN (fun w => if cut3 n U a f w then 1 else 0) n
def p3 (n U a : Nat) (f : Nat → Nat) : Bool := exE (fun i j => R3 U a i (f i) j) n n 0 0 == (n3 n U a f : Int)
set_option maxRecDepth 100000 in
theorem leaf3_4 : (List.range 16).all (fun U => U == 15 || (List.range 4).all (fun a => !(U.testBit a) || allF 4 U (p3 4 U a) 4 0 (fun _ => 0))) = true := by decide +kernel
theorem leaf3_3 : (List.range 8).all (fun U => U == 7 || (List.range 3).all (fun a => !(U.testBit a) || allF 3 U (p3 3 U a) 3 0 (fun _ => 0))) = true := by decide +kernel
theorem leaf3_2 : (List.range 4).all (fun U => U == 3 || (List.range 2).all (fun a => !(U.testBit a) || allF 2 U (p3 2 U a) 2 0 (fun _ => 0))) = true := by decide +kernel
theorem leaf3_1 : (List.range 2).all (fun U => U == 1 || (List.range 1).all (fun a => !(U.testBit a) || allF 1 U (p3 1 U a) 1 0 (fun _ => 0))) = true := by decide +kernel
/-- steps into the goal G lead back to a -/
def rho (G a w : Nat) : Nat := if G.testBit w = true then a else w
def p2 (n U a G : Nat) (f : Nat → Nat) : Bool := acyc n U (fun i => rho G a (f i)) == (acyc n U f && !(G.testBit (rch U f 5 a)))
set_option maxRecDepth 100000 in
theorem leaf2_1 : (List.range 2).all (fun U => (List.range 1).all (fun a => !(U.testBit a) || (List.range 2).all (fun G => !(G &&& U == 0) || allF 1 U (p2 1 U a G) 1 0 (fun _ => 0)))) = true := by decide +kernel
set_option maxRecDepth 100000 in
theorem leaf2_2 : (List.range 4).all (fun U => (List.range 2).all (fun a => !(U.testBit a) || (List.range 4).all (fun G => !(G &&& U == 0) || allF 2 U (p2 2 U a G) 2 0 (fun _ => 0)))) = true := by decide +kernel
set_option maxRecDepth 100000 in
theorem leaf2_3 : (List.range 8).all (fun U => (List.range 3).all (fun a => !(U.testBit a) || (List.range 8).all (fun G => !(G &&& U == 0) || allF 3 U (p2 3 U a G) 3 0 (fun _ => 0)))) = true := by decide +kernel
set_option maxRecDepth 100000 in
theorem leaf2_4 : (List.range 16).all (fun U => (List.range 4).all (fun a => !(U.testBit a) || (List.range 16).all (fun G => !(G &&& U == 0) || allF 4 U (p2 4 U a G) 4 0 (fun _ => 0)))) = true := by decide +kernel
end
section
-- checked by the kernel, a set of nodes a row
set_option maxRecDepth 100000 in
theorem l3_1_0 : allF 5 1 (p3 5 1 0) 5 0 (fun _ => 0) = true := by decide +kernel
set_option maxRecDepth 100000 in
theorem l3_2_1 : allF 5 2 (p3 5 2 1) 5 0 (fun _ => 0) = true := by decide +kernel
set_option maxRecDepth 100000 in
theorem l3_3_0 : allF 5 3 (p3 5 3 0) 5 0 (fun _ => 0) = true := by decide +kernel
set_option maxRecDepth 100000 in
theorem l3_3_1 : allF 5 3 (p3 5 3 1) 5 0 (fun _ => 0) = true := by decide +kernel
set_option maxRecDepth 100000 in
theorem l3_4_2 : allF 5 4 (p3 5 4 2) 5 0 (fun _ => 0) = true := by decide +kernel
set_option maxRecDepth 100000 in
theorem l3_5_0 : allF 5 5 (p3 5 5 0) 5 0 (fun _ => 0) = true := by decide +kernel
set_option maxRecDepth 100000 in
theorem l3_5_2 : allF 5 5 (p3 5 5 2) 5 0 (fun _ => 0) = true := by decide +kernel
set_option maxRecDepth 100000 in
theorem l3_6_1 : allF 5 6 (p3 5 6 1) 5 0 (fun _ => 0) = true := by decide +kernel
set_option maxRecDepth 100000 in
theorem l3_6_2 : allF 5 6 (p3 5 6 2) 5 0 (fun _ => 0) = true := by decide +kernel
set_option maxRecDepth 100000 in
theorem l3_7_0 : allF 5 7 (p3 5 7 0) 5 0 (fun _ => 0) = true := by decide +kernel
set_option maxRecDepth 100000 in
theorem l3_7_1 : allF 5 7 (p3 5 7 1) 5 0 (fun _ => 0) = true := by decide +kernel
set_option maxRecDepth 100000 in
theorem l3_7_2 : allF 5 7 (p3 5 7 2) 5 0 (fun _ => 0) = true := by decide +kernel
set_option maxRecDepth 100000 in
theorem l3_8_3 : allF 5 8 (p3 5 8 3) 5 0 (fun _ => 0) = true := by decide +kernel
set_option maxRecDepth 100000 in
theorem l3_9_0 : allF 5 9 (p3 5 9 0) 5 0 (fun _ => 0) = true := by decide +kernel
set_option maxRecDepth 100000 in
theorem l3_9_3 : allF 5 9 (p3 5 9 3) 5 0 (fun _ => 0) = true := by decide +kernel
set_option maxRecDepth 100000 in
theorem l3_10_1 : allF 5 10 (p3 5 10 1) 5 0 (fun _ => 0) = true := by decide +kernel
set_option maxRecDepth 100000 in
theorem l3_10_3 : allF 5 10 (p3 5 10 3) 5 0 (fun _ => 0) = true := by decide +kernel
set_option maxRecDepth 100000 in
theorem l3_11_0 : allF 5 11 (p3 5 11 0) 5 0 (fun _ => 0) = true := by decide +kernel
set_option maxRecDepth 100000 in
theorem l3_11_1 : allF 5 11 (p3 5 11 1) 5 0 (fun _ => 0) = true := by decide +kernel
set_option maxRecDepth 100000 in
theorem l3_11_3 : allF 5 11 (p3 5 11 3) 5 0 (fun _ => 0) = true := by decide +kernel
set_option maxRecDepth 100000 in
theorem l3_12_2 : allF 5 12 (p3 5 12 2) 5 0 (fun _ => 0) = true := by decide +kernel
set_option maxRecDepth 100000 in
theorem l3_12_3 : allF 5 12 (p3 5 12 3) 5 0 (fun _ => 0) = true := by decide +kernel
set_option maxRecDepth 100000 in
theorem l3_13_0 : allF 5 13 (p3 5 13 0) 5 0 (fun _ => 0) = true := by decide +kernel
set_option maxRecDepth 100000 in
theorem l3_13_2 : allF 5 13 (p3 5 13 2) 5 0 (fun _ => 0) = true := by decide +kernel
set_option maxRecDepth 100000 in
theorem l3_13_3 : allF 5 13 (p3 5 13 3) 5 0 (fun _ => 0) = true := by decide +kernel
set_option maxRecDepth 100000 in
theorem l3_14_1 : allF 5 14 (p3 5 14 1) 5 0 (fun _ => 0) = true := by decide +kernel
end
section
-- checked by the kernel, a set of nodes a row
set_option maxRecDepth 100000 in
theorem l3_14_2 : allF 5 14 (p3 5 14 2) 5 0 (fun _ => 0) = true := by decide +kernel
set_option maxRecDepth 100000 in
theorem l3_14_3 : allF 5 14 (p3 5 14 3) 5 0 (fun _ => 0) = true := by decide +kernel
set_option maxRecDepth 100000 in
theorem l3_15_0 : allF 5 15 (p3 5 15 0) 5 0 (fun _ => 0) = true := by decide +kernel
set_option maxRecDepth 100000 in
theorem l3_15_1 : allF 5 15 (p3 5 15 1) 5 0 (fun _ => 0) = true := by decide +kernel
set_option maxRecDepth 100000 in
theorem l3_15_2 : allF 5 15 (p3 5 15 2) 5 0 (fun _ => 0) = true := by decide +kernel
set_option maxRecDepth 100000 in
theorem l3_15_3 : allF 5 15 (p3 5 15 3) 5 0 (fun _ => 0) = true := by decide +kernel
set_option maxRecDepth 100000 in
theorem l3_16_4 : allF 5 16 (p3 5 16 4) 5 0 (fun _ => 0) = true := by decide +kernel
set_option maxRecDepth 100000 in
theorem l3_17_0 : allF 5 17 (p3 5 17 0) 5 0 (fun _ => 0) = true := by decide +kernel
set_option maxRecDepth 100000 in
theorem l3_17_4 : allF 5 17 (p3 5 17 4) 5 0 (fun _ => 0) = true := by decide +kernel
set_option maxRecDepth 100000 in
theorem l3_18_1 : allF 5 18 (p3 5 18 1) 5 0 (fun _ => 0) = true := by decide +kernel
set_option maxRecDepth 100000 in
theorem l3_18_4 : allF 5 18 (p3 5 18 4) 5 0 (fun _ => 0) = true := by decide +kernel
set_option maxRecDepth 100000 in
theorem l3_19_0 : allF 5 19 (p3 5 19 0) 5 0 (fun _ => 0) = true := by decide +kernel
set_option maxRecDepth 100000 in
theorem l3_19_1 : allF 5 19 (p3 5 19 1) 5 0 (fun _ => 0) = true := by decide +kernel
set_option maxRecDepth 100000 in
theorem l3_19_4 : allF 5 19 (p3 5 19 4) 5 0 (fun _ => 0) = true := by decide +kernel
set_option maxRecDepth 100000 in
theorem l3_20_2 : allF 5 20 (p3 5 20 2) 5 0 (fun _ => 0) = true := by decide +kernel
set_option maxRecDepth 100000 in
theorem l3_20_4 : allF 5 20 (p3 5 20 4) 5 0 (fun _ => 0) = true := by decide +kernel
set_option maxRecDepth 100000 in
theorem l3_21_0 : allF 5 21 (p3 5 21 0) 5 0 (fun _ => 0) = true := by decide +kernel
set_option maxRecDepth 100000 in
theorem l3_21_2 : allF 5 21 (p3 5 21 2) 5 0 (fun _ => 0) = true := by decide +kernel
set_option maxRecDepth 100000 in
theorem l3_21_4 : allF 5 21 (p3 5 21 4) 5 0 (fun _ => 0) = true := by decide +kernel
set_option maxRecDepth 100000 in
theorem l3_22_1 : allF 5 22 (p3 5 22 1) 5 0 (fun _ => 0) = true := by decide +kernel
set_option maxRecDepth 100000 in
theorem l3_22_2 : allF 5 22 (p3 5 22 2) 5 0 (fun _ => 0) = true := by decide +kernel
set_option maxRecDepth 100000 in
theorem l3_22_4 : allF 5 22 (p3 5 22 4) 5 0 (fun _ => 0) = true := by decide +kernel
set_option maxRecDepth 100000 in
theorem l3_23_0 : allF 5 23 (p3 5 23 0) 5 0 (fun _ => 0) = true := by decide +kernel
set_option maxRecDepth 100000 in
theorem l3_23_1 : allF 5 23 (p3 5 23 1) 5 0 (fun _ => 0) = true := by decide +kernel
set_option maxRecDepth 100000 in
theorem l3_23_2 : allF 5 23 (p3 5 23 2) 5 0 (fun _ => 0) = true := by decide +kernel
set_option maxRecDepth 100000 in
theorem l3_23_4 : allF 5 23 (p3 5 23 4) 5 0 (fun _ => 0) = true := by decide +kernel
end
section
-- checked by the kernel, a set of nodes a row
set_option maxRecDepth 100000 in
theorem l3_24_3 : allF 5 24 (p3 5 24 3) 5 0 (fun _ => 0) = true := by decide +kernel
set_option maxRecDepth 100000 in
theorem l3_24_4 : allF 5 24 (p3 5 24 4) 5 0 (fun _ => 0) = true := by decide +kernel
set_option maxRecDepth 100000 in
theorem l3_25_0 : allF 5 25 (p3 5 25 0) 5 0 (fun _ => 0) = true := by decide +kernel
set_option maxRecDepth 100000 in
theorem l3_25_3 : allF 5 25 (p3 5 25 3) 5 0 (fun _ => 0) = true := by decide +kernel
set_option maxRecDepth 100000 in
theorem l3_25_4 : allF 5 25 (p3 5 25 4) 5 0 (fun _ => 0) = true := by decide +kernel
set_option maxRecDepth 100000 in
theorem l3_26_1 : allF 5 26 (p3 5 26 1) 5 0 (fun _ => 0) = true := by decide +kernel
set_option maxRecDepth 100000 in
theorem l3_26_3 : allF 5 26 (p3 5 26 3) 5 0 (fun _ => 0) = true := by decide +kernel
set_option maxRecDepth 100000 in
theorem l3_26_4 : allF 5 26 (p3 5 26 4) 5 0 (fun _ => 0) = true := by decide +kernel
set_option maxRecDepth 100000 in
theorem l3_27_0 : allF 5 27 (p3 5 27 0) 5 0 (fun _ => 0) = true := by decide +kernel
set_option maxRecDepth 100000 in
theorem l3_27_1 : allF 5 27 (p3 5 27 1) 5 0 (fun _ => 0) = true := by decide +kernel
set_option maxRecDepth 100000 in
theorem l3_27_3 : allF 5 27 (p3 5 27 3) 5 0 (fun _ => 0) = true := by decide +kernel
set_option maxRecDepth 100000 in
theorem l3_27_4 : allF 5 27 (p3 5 27 4) 5 0 (fun _ => 0) = true := by decide +kernel
set_option maxRecDepth 100000 in
theorem l3_28_2 : allF 5 28 (p3 5 28 2) 5 0 (fun _ => 0) = true := by decide +kernel
set_option maxRecDepth 100000 in
theorem l3_28_3 : allF 5 28 (p3 5 28 3) 5 0 (fun _ => 0) = true := by decide +kernel
set_option maxRecDepth 100000 in
theorem l3_28_4 : allF 5 28 (p3 5 28 4) 5 0 (fun _ => 0) = true := by decide +kernel
set_option maxRecDepth 100000 in
theorem l3_29_0 : allF 5 29 (p3 5 29 0) 5 0 (fun _ => 0) = true := by decide +kernel
set_option maxRecDepth 100000 in
theorem l3_29_2 : allF 5 29 (p3 5 29 2) 5 0 (fun _ => 0) = true := by decide +kernel
set_option maxRecDepth 100000 in
theorem l3_29_3 : allF 5 29 (p3 5 29 3) 5 0 (fun _ => 0) = true := by decide +kernel
set_option maxRecDepth 100000 in
theorem l3_29_4 : allF 5 29 (p3 5 29 4) 5 0 (fun _ => 0) = true := by decide +kernel
set_option maxRecDepth 100000 in
theorem l3_30_1 : allF 5 30 (p3 5 30 1) 5 0 (fun _ => 0) = true := by decide +kernel
set_option maxRecDepth 100000 in
theorem l3_30_2 : allF 5 30 (p3 5 30 2) 5 0 (fun _ => 0) = true := by decide +kernel
set_option maxRecDepth 100000 in
theorem l3_30_3 : allF 5 30 (p3 5 30 3) 5 0 (fun _ => 0) = true := by decide +kernel
set_option maxRecDepth 100000 in
theorem l3_30_4 : allF 5 30 (p3 5 30 4) 5 0 (fun _ => 0) = true := by decide +kernel
end
section
-- checked by the kernel, a set of nodes a row
set_option maxRecDepth 100000 in
theorem l2_1_0 : [0, 2, 4, 6, 8, 10, 12, 14, 16, 18, 20, 22, 24, 26, 28, 30].all (fun G => allF 5 1 (p2 5 1 0 G) 5 0 (fun _ => 0)) = true := by decide +kernel
set_option maxRecDepth 100000 in
theorem l2_2_1 : [0, 1, 4, 5, 8, 9, 12, 13, 16, 17, 20, 21, 24, 25, 28, 29].all (fun G => allF 5 2 (p2 5 2 1 G) 5 0 (fun _ => 0)) = true := by decide +kernel
set_option maxRecDepth 100000 in
theorem l2_3_0 : [0, 4, 8, 12, 16, 20, 24, 28].all (fun G => allF 5 3 (p2 5 3 0 G) 5 0 (fun _ => 0)) = true := by decide +kernel
set_option maxRecDepth 100000 in
theorem l2_3_1 : [0, 4, 8, 12, 16, 20, 24, 28].all (fun G => allF 5 3 (p2 5 3 1 G) 5 0 (fun _ => 0)) = true := by decide +kernel
set_option maxRecDepth 100000 in
theorem l2_4_2 : [0, 1, 2, 3, 8, 9, 10, 11, 16, 17, 18, 19, 24, 25, 26, 27].all (fun G => allF 5 4 (p2 5 4 2 G) 5 0 (fun _ => 0)) = true := by decide +kernel
set_option maxRecDepth 100000 in
theorem l2_5_0 : [0, 2, 8, 10, 16, 18, 24, 26].all (fun G => allF 5 5 (p2 5 5 0 G) 5 0 (fun _ => 0)) = true := by decide +kernel
set_option maxRecDepth 100000 in
theorem l2_5_2 : [0, 2, 8, 10, 16, 18, 24, 26].all (fun G => allF 5 5 (p2 5 5 2 G) 5 0 (fun _ => 0)) = true := by decide +kernel
set_option maxRecDepth 100000 in
theorem l2_6_1 : [0, 1, 8, 9, 16, 17, 24, 25].all (fun G => allF 5 6 (p2 5 6 1 G) 5 0 (fun _ => 0)) = true := by decide +kernel
set_option maxRecDepth 100000 in
theorem l2_6_2 : [0, 1, 8, 9, 16, 17, 24, 25].all (fun G => allF 5 6 (p2 5 6 2 G) 5 0 (fun _ => 0)) = true := by decide +kernel
set_option maxRecDepth 100000 in
theorem l2_7_0 : [0, 8, 16, 24].all (fun G => allF 5 7 (p2 5 7 0 G) 5 0 (fun _ => 0)) = true := by decide +kernel
set_option maxRecDepth 100000 in
theorem l2_7_1 : [0, 8, 16, 24].all (fun G => allF 5 7 (p2 5 7 1 G) 5 0 (fun _ => 0)) = true := by decide +kernel
set_option maxRecDepth 100000 in
theorem l2_7_2 : [0, 8, 16, 24].all (fun G => allF 5 7 (p2 5 7 2 G) 5 0 (fun _ => 0)) = true := by decide +kernel
set_option maxRecDepth 100000 in
theorem l2_8_3 : [0, 1, 2, 3, 4, 5, 6, 7, 16, 17, 18, 19, 20, 21, 22, 23].all (fun G => allF 5 8 (p2 5 8 3 G) 5 0 (fun _ => 0)) = true := by decide +kernel
set_option maxRecDepth 100000 in
theorem l2_9_0 : [0, 2, 4, 6, 16, 18, 20, 22].all (fun G => allF 5 9 (p2 5 9 0 G) 5 0 (fun _ => 0)) = true := by decide +kernel
set_option maxRecDepth 100000 in
theorem l2_9_3 : [0, 2, 4, 6, 16, 18, 20, 22].all (fun G => allF 5 9 (p2 5 9 3 G) 5 0 (fun _ => 0)) = true := by decide +kernel
set_option maxRecDepth 100000 in
theorem l2_10_1 : [0, 1, 4, 5, 16, 17, 20, 21].all (fun G => allF 5 10 (p2 5 10 1 G) 5 0 (fun _ => 0)) = true := by decide +kernel
set_option maxRecDepth 100000 in
theorem l2_10_3 : [0, 1, 4, 5, 16, 17, 20, 21].all (fun G => allF 5 10 (p2 5 10 3 G) 5 0 (fun _ => 0)) = true := by decide +kernel
set_option maxRecDepth 100000 in
theorem l2_11_0 : [0, 4, 16, 20].all (fun G => allF 5 11 (p2 5 11 0 G) 5 0 (fun _ => 0)) = true := by decide +kernel
set_option maxRecDepth 100000 in
theorem l2_11_1 : [0, 4, 16, 20].all (fun G => allF 5 11 (p2 5 11 1 G) 5 0 (fun _ => 0)) = true := by decide +kernel
set_option maxRecDepth 100000 in
theorem l2_11_3 : [0, 4, 16, 20].all (fun G => allF 5 11 (p2 5 11 3 G) 5 0 (fun _ => 0)) = true := by decide +kernel
set_option maxRecDepth 100000 in
theorem l2_12_2 : [0, 1, 2, 3, 16, 17, 18, 19].all (fun G => allF 5 12 (p2 5 12 2 G) 5 0 (fun _ => 0)) = true := by decide +kernel
set_option maxRecDepth 100000 in
theorem l2_12_3 : [0, 1, 2, 3, 16, 17, 18, 19].all (fun G => allF 5 12 (p2 5 12 3 G) 5 0 (fun _ => 0)) = true := by decide +kernel
set_option maxRecDepth 100000 in
theorem l2_13_0 : [0, 2, 16, 18].all (fun G => allF 5 13 (p2 5 13 0 G) 5 0 (fun _ => 0)) = true := by decide +kernel
set_option maxRecDepth 100000 in
theorem l2_13_2 : [0, 2, 16, 18].all (fun G => allF 5 13 (p2 5 13 2 G) 5 0 (fun _ => 0)) = true := by decide +kernel
set_option maxRecDepth 100000 in
theorem l2_13_3 : [0, 2, 16, 18].all (fun G => allF 5 13 (p2 5 13 3 G) 5 0 (fun _ => 0)) = true := by decide +kernel
set_option maxRecDepth 100000 in
theorem l2_14_1 : [0, 1, 16, 17].all (fun G => allF 5 14 (p2 5 14 1 G) 5 0 (fun _ => 0)) = true := by decide +kernel
end
section
-- checked by the kernel, a set of nodes a row
set_option maxRecDepth 100000 in
theorem l2_14_2 : [0, 1, 16, 17].all (fun G => allF 5 14 (p2 5 14 2 G) 5 0 (fun _ => 0)) = true := by decide +kernel
set_option maxRecDepth 100000 in
theorem l2_14_3 : [0, 1, 16, 17].all (fun G => allF 5 14 (p2 5 14 3 G) 5 0 (fun _ => 0)) = true := by decide +kernel
set_option maxRecDepth 100000 in
theorem l2_15_0 : [0, 16].all (fun G => allF 5 15 (p2 5 15 0 G) 5 0 (fun _ => 0)) = true := by decide +kernel
set_option maxRecDepth 100000 in
theorem l2_15_1 : [0, 16].all (fun G => allF 5 15 (p2 5 15 1 G) 5 0 (fun _ => 0)) = true := by decide +kernel
set_option maxRecDepth 100000 in
theorem l2_15_2 : [0, 16].all (fun G => allF 5 15 (p2 5 15 2 G) 5 0 (fun _ => 0)) = true := by decide +kernel
set_option maxRecDepth 100000 in
theorem l2_15_3 : [0, 16].all (fun G => allF 5 15 (p2 5 15 3 G) 5 0 (fun _ => 0)) = true := by decide +kernel
set_option maxRecDepth 100000 in
theorem l2_16_4 : [0, 1, 2, 3, 4, 5, 6, 7, 8, 9, 10, 11, 12, 13, 14, 15].all (fun G => allF 5 16 (p2 5 16 4 G) 5 0 (fun _ => 0)) = true := by decide +kernel
set_option maxRecDepth 100000 in
theorem l2_17_0 : [0, 2, 4, 6, 8, 10, 12, 14].all (fun G => allF 5 17 (p2 5 17 0 G) 5 0 (fun _ => 0)) = true := by decide +kernel
set_option maxRecDepth 100000 in
theorem l2_17_4 : [0, 2, 4, 6, 8, 10, 12, 14].all (fun G => allF 5 17 (p2 5 17 4 G) 5 0 (fun _ => 0)) = true := by decide +kernel
set_option maxRecDepth 100000 in
theorem l2_18_1 : [0, 1, 4, 5, 8, 9, 12, 13].all (fun G => allF 5 18 (p2 5 18 1 G) 5 0 (fun _ => 0)) = true := by decide +kernel
set_option maxRecDepth 100000 in
theorem l2_18_4 : [0, 1, 4, 5, 8, 9, 12, 13].all (fun G => allF 5 18 (p2 5 18 4 G) 5 0 (fun _ => 0)) = true := by decide +kernel
set_option maxRecDepth 100000 in
theorem l2_19_0 : [0, 4, 8, 12].all (fun G => allF 5 19 (p2 5 19 0 G) 5 0 (fun _ => 0)) = true := by decide +kernel
set_option maxRecDepth 100000 in
theorem l2_19_1 : [0, 4, 8, 12].all (fun G => allF 5 19 (p2 5 19 1 G) 5 0 (fun _ => 0)) = true := by decide +kernel
set_option maxRecDepth 100000 in
theorem l2_19_4 : [0, 4, 8, 12].all (fun G => allF 5 19 (p2 5 19 4 G) 5 0 (fun _ => 0)) = true := by decide +kernel
set_option maxRecDepth 100000 in
theorem l2_20_2 : [0, 1, 2, 3, 8, 9, 10, 11].all (fun G => allF 5 20 (p2 5 20 2 G) 5 0 (fun _ => 0)) = true := by decide +kernel
set_option maxRecDepth 100000 in
theorem l2_20_4 : [0, 1, 2, 3, 8, 9, 10, 11].all (fun G => allF 5 20 (p2 5 20 4 G) 5 0 (fun _ => 0)) = true := by decide +kernel
set_option maxRecDepth 100000 in
theorem l2_21_0 : [0, 2, 8, 10].all (fun G => allF 5 21 (p2 5 21 0 G) 5 0 (fun _ => 0)) = true := by decide +kernel
set_option maxRecDepth 100000 in
theorem l2_21_2 : [0, 2, 8, 10].all (fun G => allF 5 21 (p2 5 21 2 G) 5 0 (fun _ => 0)) = true := by decide +kernel
set_option maxRecDepth 100000 in
theorem l2_21_4 : [0, 2, 8, 10].all (fun G => allF 5 21 (p2 5 21 4 G) 5 0 (fun _ => 0)) = true := by decide +kernel
set_option maxRecDepth 100000 in
theorem l2_22_1 : [0, 1, 8, 9].all (fun G => allF 5 22 (p2 5 22 1 G) 5 0 (fun _ => 0)) = true := by decide +kernel
set_option maxRecDepth 100000 in
theorem l2_22_2 : [0, 1, 8, 9].all (fun G => allF 5 22 (p2 5 22 2 G) 5 0 (fun _ => 0)) = true := by decide +kernel
set_option maxRecDepth 100000 in
theorem l2_22_4 : [0, 1, 8, 9].all (fun G => allF 5 22 (p2 5 22 4 G) 5 0 (fun _ => 0)) = true := by decide +kernel
set_option maxRecDepth 100000 in
theorem l2_23_0 : [0, 8].all (fun G => allF 5 23 (p2 5 23 0 G) 5 0 (fun _ => 0)) = true := by decide +kernel
set_option maxRecDepth 100000 in
theorem l2_23_1 : [0, 8].all (fun G => allF 5 23 (p2 5 23 1 G) 5 0 (fun _ => 0)) = true := by decide +kernel
set_option maxRecDepth 100000 in
theorem l2_23_2 : [0, 8].all (fun G => allF 5 23 (p2 5 23 2 G) 5 0 (fun _ => 0)) = true := by decide +kernel
set_option maxRecDepth 100000 in
theorem l2_23_4 : [0, 8].all (fun G => allF 5 23 (p2 5 23 4 G) 5 0 (fun _ => 0)) = true := by decide +kernel
end
section
-- checked by the kernel, a set of nodes a row
set_option maxRecDepth 100000 in
theorem l2_24_3 : [0, 1, 2, 3, 4, 5, 6, 7].all (fun G => allF 5 24 (p2 5 24 3 G) 5 0 (fun _ => 0)) = true := by decide +kernel
set_option maxRecDepth 100000 in
theorem l2_24_4 : [0, 1, 2, 3, 4, 5, 6, 7].all (fun G => allF 5 24 (p2 5 24 4 G) 5 0 (fun _ => 0)) = true := by decide +kernel
set_option maxRecDepth 100000 in
theorem l2_25_0 : [0, 2, 4, 6].all (fun G => allF 5 25 (p2 5 25 0 G) 5 0 (fun _ => 0)) = true := by decide +kernel
set_option maxRecDepth 100000 in
theorem l2_25_3 : [0, 2, 4, 6].all (fun G => allF 5 25 (p2 5 25 3 G) 5 0 (fun _ => 0)) = true := by decide +kernel
set_option maxRecDepth 100000 in
theorem l2_25_4 : [0, 2, 4, 6].all (fun G => allF 5 25 (p2 5 25 4 G) 5 0 (fun _ => 0)) = true := by decide +kernel
set_option maxRecDepth 100000 in
theorem l2_26_1 : [0, 1, 4, 5].all (fun G => allF 5 26 (p2 5 26 1 G) 5 0 (fun _ => 0)) = true := by decide +kernel
set_option maxRecDepth 100000 in
theorem l2_26_3 : [0, 1, 4, 5].all (fun G => allF 5 26 (p2 5 26 3 G) 5 0 (fun _ => 0)) = true := by decide +kernel
set_option maxRecDepth 100000 in
theorem l2_26_4 : [0, 1, 4, 5].all (fun G => allF 5 26 (p2 5 26 4 G) 5 0 (fun _ => 0)) = true := by decide +kernel
set_option maxRecDepth 100000 in
theorem l2_27_0 : [0, 4].all (fun G => allF 5 27 (p2 5 27 0 G) 5 0 (fun _ => 0)) = true := by decide +kernel
set_option maxRecDepth 100000 in
theorem l2_27_1 : [0, 4].all (fun G => allF 5 27 (p2 5 27 1 G) 5 0 (fun _ => 0)) = true := by decide +kernel
set_option maxRecDepth 100000 in
theorem l2_27_3 : [0, 4].all (fun G => allF 5 27 (p2 5 27 3 G) 5 0 (fun _ => 0)) = true := by decide +kernel
set_option maxRecDepth 100000 in
theorem l2_27_4 : [0, 4].all (fun G => allF 5 27 (p2 5 27 4 G) 5 0 (fun _ => 0)) = true := by decide +kernel
set_option maxRecDepth 100000 in
theorem l2_28_2 : [0, 1, 2, 3].all (fun G => allF 5 28 (p2 5 28 2 G) 5 0 (fun _ => 0)) = true := by decide +kernel
set_option maxRecDepth 100000 in
theorem l2_28_3 : [0, 1, 2, 3].all (fun G => allF 5 28 (p2 5 28 3 G) 5 0 (fun _ => 0)) = true := by decide +kernel
set_option maxRecDepth 100000 in
theorem l2_28_4 : [0, 1, 2, 3].all (fun G => allF 5 28 (p2 5 28 4 G) 5 0 (fun _ => 0)) = true := by decide +kernel
set_option maxRecDepth 100000 in
theorem l2_29_0 : [0, 2].all (fun G => allF 5 29 (p2 5 29 0 G) 5 0 (fun _ => 0)) = true := by decide +kernel
set_option maxRecDepth 100000 in
theorem l2_29_2 : [0, 2].all (fun G => allF 5 29 (p2 5 29 2 G) 5 0 (fun _ => 0)) = true := by decide +kernel
set_option maxRecDepth 100000 in
theorem l2_29_3 : [0, 2].all (fun G => allF 5 29 (p2 5 29 3 G) 5 0 (fun _ => 0)) = true := by decide +kernel
set_option maxRecDepth 100000 in
theorem l2_29_4 : [0, 2].all (fun G => allF 5 29 (p2 5 29 4 G) 5 0 (fun _ => 0)) = true := by decide +kernel
set_option maxRecDepth 100000 in
theorem l2_30_1 : [0, 1].all (fun G => allF 5 30 (p2 5 30 1 G) 5 0 (fun _ => 0)) = true := by decide +kernel
set_option maxRecDepth 100000 in
theorem l2_30_2 : [0, 1].all (fun G => allF 5 30 (p2 5 30 2 G) 5 0 (fun _ => 0)) = true := by decide +kernel
set_option maxRecDepth 100000 in
theorem l2_30_3 : [0, 1].all (fun G => allF 5 30 (p2 5 30 3 G) 5 0 (fun _ => 0)) = true := by decide +kernel
set_option maxRecDepth 100000 in
theorem l2_30_4 : [0, 1].all (fun G => allF 5 30 (p2 5 30 4 G) 5 0 (fun _ => 0)) = true := by decide +kernel
end
