section
-- ===== PART A: goes FIRST, ahead of the names: the tables' words, and 'selects' of the private methods out of them =====
/-- a private method of a class that the tables say can be made, by its rows of tables_1 -/
def lw_okq (q : MethodName × Nat) : Prop := (q.1.cls ≠ "java/lang/invoke/MethodHandle" ∧ q.1.cls ≠ "java/lang/invoke/VarHandle") ∧ Cond.instantiable q.1.cls q.2 ∈ tables_1 ∧ Cond.privateMethod q.1 ∈ tables_1 ∧ Cond.instanceMethod q.1 ∈ tables_1
theorem lw_p0 : lw_okq (⟨"WalkRanks", "renew", "()V"⟩, 6) := ⟨⟨by decide +kernel, by decide +kernel⟩, List.mem_of_getElem? (i := 9) (by decide +kernel), List.mem_of_getElem? (i := 175) (by decide +kernel), List.mem_of_getElem? (i := 176) (by decide +kernel)⟩
theorem lw_p1 : lw_okq (⟨"WalkRanks$Steps", "fillParts", "(LWalkRanks$Graph;II)V"⟩, 4) := ⟨⟨by decide +kernel, by decide +kernel⟩, List.mem_of_getElem? (i := 54) (by decide +kernel), List.mem_of_getElem? (i := 187) (by decide +kernel), List.mem_of_getElem? (i := 188) (by decide +kernel)⟩
theorem lw_p2 : lw_okq (⟨"WalkRanks$Steps", "lowerParts", "(I)V"⟩, 4) := ⟨⟨by decide +kernel, by decide +kernel⟩, List.mem_of_getElem? (i := 54) (by decide +kernel), List.mem_of_getElem? (i := 195) (by decide +kernel), List.mem_of_getElem? (i := 196) (by decide +kernel)⟩
theorem lw_p3 : lw_okq (⟨"WalkRanks$Steps", "sumUp", "(I)V"⟩, 4) := ⟨⟨by decide +kernel, by decide +kernel⟩, List.mem_of_getElem? (i := 54) (by decide +kernel), List.mem_of_getElem? (i := 202) (by decide +kernel), List.mem_of_getElem? (i := 203) (by decide +kernel)⟩
theorem lw_p4 : lw_okq (⟨"WalkRanks$Steps", "nextOf", "(I)I"⟩, 4) := ⟨⟨by decide +kernel, by decide +kernel⟩, List.mem_of_getElem? (i := 54) (by decide +kernel), List.mem_of_getElem? (i := 217) (by decide +kernel), List.mem_of_getElem? (i := 218) (by decide +kernel)⟩
theorem lw_p5 : lw_okq (⟨"WalkRanks$ClosedSets", "isClosedFrom", "(I)Z"⟩, 6) := ⟨⟨by decide +kernel, by decide +kernel⟩, List.mem_of_getElem? (i := 83) (by decide +kernel), List.mem_of_getElem? (i := 225) (by decide +kernel), List.mem_of_getElem? (i := 226) (by decide +kernel)⟩
theorem lw_p6 : lw_okq (⟨"WalkRanks$ClosedSets", "addSet", "(I)V"⟩, 6) := ⟨⟨by decide +kernel, by decide +kernel⟩, List.mem_of_getElem? (i := 83) (by decide +kernel), List.mem_of_getElem? (i := 234) (by decide +kernel), List.mem_of_getElem? (i := 235) (by decide +kernel)⟩
theorem lw_p7 : lw_okq (⟨"WalkRanks", "isNode", "(I)Z"⟩, 6) := ⟨⟨by decide +kernel, by decide +kernel⟩, List.mem_of_getElem? (i := 9) (by decide +kernel), List.mem_of_getElem? (i := 243) (by decide +kernel), List.mem_of_getElem? (i := 244) (by decide +kernel)⟩
theorem lw_p8 : lw_okq (⟨"WalkRanks", "isSet", "(I)Z"⟩, 6) := ⟨⟨by decide +kernel, by decide +kernel⟩, List.mem_of_getElem? (i := 9) (by decide +kernel), List.mem_of_getElem? (i := 279) (by decide +kernel), List.mem_of_getElem? (i := 280) (by decide +kernel)⟩
theorem lw_p9 : lw_okq (⟨"WalkRanks", "fillShares", "(I)J"⟩, 6) := ⟨⟨by decide +kernel, by decide +kernel⟩, List.mem_of_getElem? (i := 9) (by decide +kernel), List.mem_of_getElem? (i := 297) (by decide +kernel), List.mem_of_getElem? (i := 298) (by decide +kernel)⟩
theorem lw_p10 : lw_okq (⟨"WalkRanks", "nodesAhead", "(I)I"⟩, 6) := ⟨⟨by decide +kernel, by decide +kernel⟩, List.mem_of_getElem? (i := 9) (by decide +kernel), List.mem_of_getElem? (i := 323) (by decide +kernel), List.mem_of_getElem? (i := 324) (by decide +kernel)⟩
theorem lw_p11 : lw_okq (⟨"WalkRanks", "chanceToCome", "(III)J"⟩, 6) := ⟨⟨by decide +kernel, by decide +kernel⟩, List.mem_of_getElem? (i := 9) (by decide +kernel), List.mem_of_getElem? (i := 331) (by decide +kernel), List.mem_of_getElem? (i := 332) (by decide +kernel)⟩
theorem lw_p12 : lw_okq (⟨"WalkRanks$Spread", "move", "()V"⟩, 4) := ⟨⟨by decide +kernel, by decide +kernel⟩, List.mem_of_getElem? (i := 128) (by decide +kernel), List.mem_of_getElem? (i := 373) (by decide +kernel), List.mem_of_getElem? (i := 374) (by decide +kernel)⟩
theorem lw_p13 : lw_okq (⟨"WalkRanksModel", "isNode", "(I)Z"⟩, 17) := ⟨⟨by decide +kernel, by decide +kernel⟩, List.mem_of_getElem? (i := 399) (by decide +kernel), List.mem_of_getElem? (i := 465) (by decide +kernel), List.mem_of_getElem? (i := 466) (by decide +kernel)⟩
theorem lw_p14 : lw_okq (⟨"WalkRanksModel", "findRows", "()V"⟩, 17) := ⟨⟨by decide +kernel, by decide +kernel⟩, List.mem_of_getElem? (i := 399) (by decide +kernel), List.mem_of_getElem? (i := 485) (by decide +kernel), List.mem_of_getElem? (i := 486) (by decide +kernel)⟩
theorem lw_p15 : lw_okq (⟨"WalkRanksModel", "findSets", "()V"⟩, 17) := ⟨⟨by decide +kernel, by decide +kernel⟩, List.mem_of_getElem? (i := 399) (by decide +kernel), List.mem_of_getElem? (i := 500) (by decide +kernel), List.mem_of_getElem? (i := 501) (by decide +kernel)⟩
def lw_privs_1 : List (MethodName × Nat) := [(⟨"WalkRanks", "renew", "()V"⟩, 6), (⟨"WalkRanks$Steps", "fillParts", "(LWalkRanks$Graph;II)V"⟩, 4), (⟨"WalkRanks$Steps", "lowerParts", "(I)V"⟩, 4), (⟨"WalkRanks$Steps", "sumUp", "(I)V"⟩, 4), (⟨"WalkRanks$Steps", "nextOf", "(I)I"⟩, 4), (⟨"WalkRanks$ClosedSets", "isClosedFrom", "(I)Z"⟩, 6), (⟨"WalkRanks$ClosedSets", "addSet", "(I)V"⟩, 6), (⟨"WalkRanks", "isNode", "(I)Z"⟩, 6), (⟨"WalkRanks", "isSet", "(I)Z"⟩, 6), (⟨"WalkRanks", "fillShares", "(I)J"⟩, 6), (⟨"WalkRanks", "nodesAhead", "(I)I"⟩, 6), (⟨"WalkRanks", "chanceToCome", "(III)J"⟩, 6), (⟨"WalkRanks$Spread", "move", "()V"⟩, 4), (⟨"WalkRanksModel", "isNode", "(I)Z"⟩, 17), (⟨"WalkRanksModel", "findRows", "()V"⟩, 17), (⟨"WalkRanksModel", "findSets", "()V"⟩, 17)]
theorem lw_r1 : ∀ q ∈ lw_privs_1, lw_okq q := List.forall_mem_cons.mpr ⟨lw_p0, List.forall_mem_cons.mpr ⟨lw_p1, List.forall_mem_cons.mpr ⟨lw_p2, List.forall_mem_cons.mpr ⟨lw_p3, List.forall_mem_cons.mpr ⟨lw_p4, List.forall_mem_cons.mpr ⟨lw_p5, List.forall_mem_cons.mpr ⟨lw_p6, List.forall_mem_cons.mpr ⟨lw_p7, List.forall_mem_cons.mpr ⟨lw_p8, List.forall_mem_cons.mpr ⟨lw_p9, List.forall_mem_cons.mpr ⟨lw_p10, List.forall_mem_cons.mpr ⟨lw_p11, List.forall_mem_cons.mpr ⟨lw_p12, List.forall_mem_cons.mpr ⟨lw_p13, List.forall_mem_cons.mpr ⟨lw_p14, List.forall_mem_cons.mpr ⟨lw_p15, fun _ h => absurd h List.not_mem_nil⟩⟩⟩⟩⟩⟩⟩⟩⟩⟩⟩⟩⟩⟩⟩⟩
theorem lw_p16 : lw_okq (⟨"WalkRanksModel", "isClosed", "(I)Z"⟩, 17) := ⟨⟨by decide +kernel, by decide +kernel⟩, List.mem_of_getElem? (i := 399) (by decide +kernel), List.mem_of_getElem? (i := 504) (by decide +kernel), List.mem_of_getElem? (i := 505) (by decide +kernel)⟩
theorem lw_p17 : lw_okq (⟨"WalkRanksModel", "reached", "(II)I"⟩, 17) := ⟨⟨by decide +kernel, by decide +kernel⟩, List.mem_of_getElem? (i := 399) (by decide +kernel), List.mem_of_getElem? (i := 508) (by decide +kernel), List.mem_of_getElem? (i := 509) (by decide +kernel)⟩
theorem lw_p18 : lw_okq (⟨"WalkRanksModel", "leads", "(II)Z"⟩, 17) := ⟨⟨by decide +kernel, by decide +kernel⟩, List.mem_of_getElem? (i := 399) (by decide +kernel), List.mem_of_getElem? (i := 512) (by decide +kernel), List.mem_of_getElem? (i := 513) (by decide +kernel)⟩
theorem lw_p19 : lw_okq (⟨"WalkRanksModel", "findShares", "(I)V"⟩, 17) := ⟨⟨by decide +kernel, by decide +kernel⟩, List.mem_of_getElem? (i := 399) (by decide +kernel), List.mem_of_getElem? (i := 534) (by decide +kernel), List.mem_of_getElem? (i := 535) (by decide +kernel)⟩
theorem lw_p20 : lw_okq (⟨"WalkRanksModel", "count", "(IIII)V"⟩, 17) := ⟨⟨by decide +kernel, by decide +kernel⟩, List.mem_of_getElem? (i := 399) (by decide +kernel), List.mem_of_getElem? (i := 538) (by decide +kernel), List.mem_of_getElem? (i := 539) (by decide +kernel)⟩
theorem lw_p21 : lw_okq (⟨"WalkRanksModel", "rootOf", "(II)I"⟩, 17) := ⟨⟨by decide +kernel, by decide +kernel⟩, List.mem_of_getElem? (i := 399) (by decide +kernel), List.mem_of_getElem? (i := 542) (by decide +kernel), List.mem_of_getElem? (i := 543) (by decide +kernel)⟩
theorem lw_p22 : lw_okq (⟨"WalkRanksModel", "all", "()I"⟩, 17) := ⟨⟨by decide +kernel, by decide +kernel⟩, List.mem_of_getElem? (i := 399) (by decide +kernel), List.mem_of_getElem? (i := 557) (by decide +kernel), List.mem_of_getElem? (i := 558) (by decide +kernel)⟩
def lw_privs_2 : List (MethodName × Nat) := [(⟨"WalkRanksModel", "isClosed", "(I)Z"⟩, 17), (⟨"WalkRanksModel", "reached", "(II)I"⟩, 17), (⟨"WalkRanksModel", "leads", "(II)Z"⟩, 17), (⟨"WalkRanksModel", "findShares", "(I)V"⟩, 17), (⟨"WalkRanksModel", "count", "(IIII)V"⟩, 17), (⟨"WalkRanksModel", "rootOf", "(II)I"⟩, 17), (⟨"WalkRanksModel", "all", "()I"⟩, 17)]
theorem lw_r2 : ∀ q ∈ lw_privs_2, lw_okq q := List.forall_mem_cons.mpr ⟨lw_p16, List.forall_mem_cons.mpr ⟨lw_p17, List.forall_mem_cons.mpr ⟨lw_p18, List.forall_mem_cons.mpr ⟨lw_p19, List.forall_mem_cons.mpr ⟨lw_p20, List.forall_mem_cons.mpr ⟨lw_p21, List.forall_mem_cons.mpr ⟨lw_p22, fun _ h => absurd h List.not_mem_nil⟩⟩⟩⟩⟩⟩⟩
def lw_privs : List (MethodName × Nat) := lw_privs_1 ++ (lw_privs_2)
def lw_tbl : List Cond := k2_sels lw_privs ++ tables_1
theorem lw_privs_ok : ∀ q ∈ lw_privs, lw_okq q := by
  show ∀ q ∈ lw_privs_1 ++ (lw_privs_2), lw_okq q
  exact List.forall_mem_append.mpr ⟨lw_r1, lw_r2⟩
def r_W : String := "WalkRanks"
def f_W : u_T := fun k => match k with
  | 0 => ("WalkRanks", "graph", "LWalkRanks$Graph;", true)
  | 1 => ("WalkRanks", "steps", "LWalkRanks$Steps;", true)
  | 2 => ("WalkRanks", "sets", "LWalkRanks$ClosedSets;", true)
  | 3 => ("WalkRanks", "equations", "LWalkRanks$Equations;", true)
  | 4 => ("WalkRanks", "spread", "LWalkRanks$Spread;", true)
  | _ => ("WalkRanks", "shares", "[J", true)
def t_W : Nat → FieldType := fun k => match k with
  | 0 => .object "WalkRanks$Graph"
  | 1 => .object "WalkRanks$Steps"
  | 2 => .object "WalkRanks$ClosedSets"
  | 3 => .object "WalkRanks$Equations"
  | 4 => .object "WalkRanks$Spread"
  | _ => .array .long
def r_G : String := "WalkRanks$Graph"
def f_G : u_T := fun k => match k with
  | 0 => ("WalkRanks$Graph", "size", "I", false)
  | 1 => ("WalkRanks$Graph", "keepAbove", "I", false)
  | 2 => ("WalkRanks$Graph", "keepBelow", "I", false)
  | 3 => ("WalkRanks$Graph", "weights", "[[I", true)
  | _ => ("WalkRanks$Graph", "jumps", "[I", true)
def t_G : Nat → FieldType := fun k => match k with
  | 0 => .int
  | 1 => .int
  | 2 => .int
  | 3 => .array (.array .int)
  | _ => .array .int
def r_S : String := "WalkRanks$Steps"
def f_S : u_T := fun k => match k with
  | 0 => ("WalkRanks$Steps", "size", "I", false)
  | 1 => ("WalkRanks$Steps", "parts", "[[I", true)
  | 2 => ("WalkRanks$Steps", "totals", "[I", true)
  | _ => ("WalkRanks$Steps", "next", "[I", true)
def t_S : Nat → FieldType := fun k => match k with
  | 0 => .int
  | 1 => .array (.array .int)
  | 2 => .array .int
  | _ => .array .int
def r_C : String := "WalkRanks$ClosedSets"
def f_C : u_T := fun k => match k with
  | 0 => ("WalkRanks$ClosedSets", "number", "I", false)
  | 1 => ("WalkRanks$ClosedSets", "members", "[I", true)
  | 2 => ("WalkRanks$ClosedSets", "leastNodes", "[I", true)
  | 3 => ("WalkRanks$ClosedSets", "setOf", "[I", true)
  | 4 => ("WalkRanks$ClosedSets", "size", "I", false)
  | _ => ("WalkRanks$ClosedSets", "leads", "[I", true)
def t_C : Nat → FieldType := fun k => match k with
  | 0 => .int
  | 1 => .array .int
  | 2 => .array .int
  | 3 => .array .int
  | 4 => .int
  | _ => .array .int
def r_E : String := "WalkRanks$Equations"
def f_E : u_T := fun k => match k with
  | 0 => ("WalkRanks$Equations", "size", "I", false)
  | _ => ("WalkRanks$Equations", "cells", "[[J", true)
def t_E : Nat → FieldType := fun k => match k with
  | 0 => .int
  | _ => .array (.array .long)
def r_P : String := "WalkRanks$Spread"
def f_P : u_T := fun k => match k with
  | 0 => ("WalkRanks$Spread", "now", "[J", false)
  | 1 => ("WalkRanks$Spread", "next", "[J", false)
  | 2 => ("WalkRanks$Spread", "size", "I", false)
  | _ => ("WalkRanks$Spread", "factors", "[[J", true)
def t_P : Nat → FieldType := fun k => match k with
  | 0 => .array .long
  | 1 => .array .long
  | 2 => .int
  | _ => .array (.array .long)
def r_M : String := "WalkRanksModel"
def f_M : u_T := fun k => match k with
  | 0 => ("WalkRanksModel", "nodes", "I", false)
  | 1 => ("WalkRanksModel", "weights", "[I", true)
  | 2 => ("WalkRanksModel", "jumps", "[I", true)
  | 3 => ("WalkRanksModel", "above", "I", false)
  | 4 => ("WalkRanksModel", "below", "I", false)
  | 5 => ("WalkRanksModel", "row", "[I", true)
  | 6 => ("WalkRanksModel", "total", "[I", true)
  | 7 => ("WalkRanksModel", "sets", "I", false)
  | 8 => ("WalkRanksModel", "setOf", "[I", true)
  | 9 => ("WalkRanksModel", "bitsOf", "[I", true)
  | 10 => ("WalkRanksModel", "forests", "J", false)
  | 11 => ("WalkRanksModel", "toward", "J", false)
  | 12 => ("WalkRanksModel", "step", "[I", true)
  | 13 => ("WalkRanksModel", "shares", "[J", true)
  | 14 => ("WalkRanksModel", "shareSum", "J", false)
  | 15 => ("WalkRanksModel", "now", "[J", true)
  | _ => ("WalkRanksModel", "then", "[J", true)
def t_M : Nat → FieldType := fun k => match k with
  | 0 => .int
  | 1 => .array .int
  | 2 => .array .int
  | 3 => .int
  | 4 => .int
  | 5 => .array .int
  | 6 => .array .int
  | 7 => .int
  | 8 => .array .int
  | 9 => .array .int
  | 10 => .long
  | 11 => .long
  | 12 => .array .int
  | 13 => .array .long
  | 14 => .long
  | 15 => .array .long
  | _ => .array .long
abbrev vwCl : List vw_C := [(r_W, f_W, 6), (r_G, f_G, 5), (r_S, f_S, 4), (r_C, f_C, 6), (r_E, f_E, 2), (r_P, f_P, 4), (r_M, f_M, 17)]
abbrev c_W_init : ByteArray := prog_1_method_1_code
abbrev y_W_init : MethodName := ⟨"WalkRanks", "<init>", "()V"⟩
abbrev c_G_init : ByteArray := prog_4_method_1_code
abbrev y_G_init : MethodName := ⟨"WalkRanks$Graph", "<init>", "()V"⟩
abbrev c_S_init : ByteArray := prog_6_method_1_code
abbrev y_S_init : MethodName := ⟨"WalkRanks$Steps", "<init>", "()V"⟩
abbrev c_C_init : ByteArray := prog_2_method_1_code
abbrev y_C_init : MethodName := ⟨"WalkRanks$ClosedSets", "<init>", "()V"⟩
abbrev c_E_init : ByteArray := prog_3_method_1_code
abbrev y_E_init : MethodName := ⟨"WalkRanks$Equations", "<init>", "()V"⟩
abbrev c_P_init : ByteArray := prog_5_method_1_code
abbrev y_P_init : MethodName := ⟨"WalkRanks$Spread", "<init>", "()V"⟩
abbrev c_W_node : ByteArray := prog_1_method_2_code
abbrev y_W_node : MethodName := ⟨"WalkRanks", "node", "()I"⟩
abbrev c_G_addNode : ByteArray := prog_4_method_2_code
abbrev y_G_addNode : MethodName := ⟨"WalkRanks$Graph", "addNode", "()I"⟩
abbrev c_W_renew : ByteArray := prog_1_method_24_code
abbrev y_W_renew : MethodName := ⟨"WalkRanks", "renew", "()V"⟩
abbrev c_S_renew : ByteArray := prog_6_method_2_code
abbrev y_S_renew : MethodName := ⟨"WalkRanks$Steps", "renew", "(LWalkRanks$Graph;)V"⟩
abbrev c_G_allJumps : ByteArray := prog_4_method_4_code
abbrev y_G_allJumps : MethodName := ⟨"WalkRanks$Graph", "allJumps", "()I"⟩
abbrev c_S_fillParts : ByteArray := prog_6_method_3_code
abbrev y_S_fillParts : MethodName := ⟨"WalkRanks$Steps", "fillParts", "(LWalkRanks$Graph;II)V"⟩
abbrev c_G_outOf : ByteArray := prog_4_method_3_code
abbrev y_G_outOf : MethodName := ⟨"WalkRanks$Graph", "outOf", "(I)I"⟩
abbrev c_S_lowerParts : ByteArray := prog_6_method_4_code
abbrev y_S_lowerParts : MethodName := ⟨"WalkRanks$Steps", "lowerParts", "(I)V"⟩
abbrev c_W_greatestDivisor : ByteArray := prog_1_method_29_code
abbrev y_W_greatestDivisor : MethodName := ⟨"WalkRanks", "greatestDivisor", "(JJ)J"⟩
abbrev c_S_sumUp : ByteArray := prog_6_method_5_code
abbrev y_S_sumUp : MethodName := ⟨"WalkRanks$Steps", "sumUp", "(I)V"⟩
abbrev c_W_only : ByteArray := prog_1_method_30_code
abbrev y_W_only : MethodName := ⟨"WalkRanks", "only", "(I)I"⟩
abbrev c_C_renew : ByteArray := prog_2_method_2_code
abbrev y_C_renew : MethodName := ⟨"WalkRanks$ClosedSets", "renew", "(LWalkRanks$Steps;)V"⟩
abbrev c_S_nodesBehind : ByteArray := prog_6_method_8_code
abbrev y_S_nodesBehind : MethodName := ⟨"WalkRanks$Steps", "nodesBehind", "(II)I"⟩
abbrev c_S_nextOf : ByteArray := prog_6_method_7_code
abbrev y_S_nextOf : MethodName := ⟨"WalkRanks$Steps", "nextOf", "(I)I"⟩
abbrev c_W_has : ByteArray := prog_1_method_31_code
abbrev y_W_has : MethodName := ⟨"WalkRanks", "has", "(II)Z"⟩
abbrev c_C_isClosedFrom : ByteArray := prog_2_method_3_code
abbrev y_C_isClosedFrom : MethodName := ⟨"WalkRanks$ClosedSets", "isClosedFrom", "(I)Z"⟩
abbrev c_C_leadingTo : ByteArray := prog_2_method_5_code
abbrev y_C_leadingTo : MethodName := ⟨"WalkRanks$ClosedSets", "leadingTo", "(I)I"⟩
abbrev c_C_addSet : ByteArray := prog_2_method_4_code
abbrev y_C_addSet : MethodName := ⟨"WalkRanks$ClosedSets", "addSet", "(I)V"⟩
abbrev c_W_weight : ByteArray := prog_1_method_3_code
abbrev y_W_weight : MethodName := ⟨"WalkRanks", "weight", "(III)I"⟩
abbrev c_W_isNode : ByteArray := prog_1_method_21_code
abbrev y_W_isNode : MethodName := ⟨"WalkRanks", "isNode", "(I)Z"⟩
abbrev c_W_jump : ByteArray := prog_1_method_4_code
abbrev y_W_jump : MethodName := ⟨"WalkRanks", "jump", "(II)I"⟩
abbrev c_W_keep : ByteArray := prog_1_method_5_code
abbrev y_W_keep : MethodName := ⟨"WalkRanks", "keep", "(II)I"⟩
abbrev c_W_clear : ByteArray := prog_1_method_6_code
abbrev y_W_clear : MethodName := ⟨"WalkRanks", "clear", "()I"⟩
abbrev c_W_row : ByteArray := prog_1_method_7_code
abbrev y_W_row : MethodName := ⟨"WalkRanks", "row", "(II)I"⟩
abbrev c_W_total : ByteArray := prog_1_method_8_code
abbrev y_W_total : MethodName := ⟨"WalkRanks", "total", "(I)I"⟩
abbrev c_W_closed : ByteArray := prog_1_method_9_code
abbrev y_W_closed : MethodName := ⟨"WalkRanks", "closed", "()I"⟩
abbrev c_W_closedOf : ByteArray := prog_1_method_10_code
abbrev y_W_closedOf : MethodName := ⟨"WalkRanks", "closedOf", "(I)I"⟩
abbrev c_W_period : ByteArray := prog_1_method_11_code
abbrev y_W_period : MethodName := ⟨"WalkRanks", "period", "(I)I"⟩
abbrev c_W_isSet : ByteArray := prog_1_method_22_code
abbrev y_W_isSet : MethodName := ⟨"WalkRanks", "isSet", "(I)Z"⟩
abbrev c_S_periodAt : ByteArray := prog_6_method_9_code
abbrev y_S_periodAt : MethodName := ⟨"WalkRanks$Steps", "periodAt", "(I)I"⟩
abbrev c_W_rank : ByteArray := prog_1_method_12_code
abbrev y_W_rank : MethodName := ⟨"WalkRanks", "rank", "(II)J"⟩
abbrev c_W_isPart : ByteArray := prog_1_method_23_code
abbrev y_W_isPart : MethodName := ⟨"WalkRanks", "isPart", "(I)Z"⟩
abbrev c_W_fillShares : ByteArray := prog_1_method_25_code
abbrev y_W_fillShares : MethodName := ⟨"WalkRanks", "fillShares", "(I)J"⟩
abbrev c_E_fill : ByteArray := prog_3_method_2_code
abbrev y_E_fill : MethodName := ⟨"WalkRanks$Equations", "fill", "(LWalkRanks$Steps;I)V"⟩
abbrev c_E_determinant : ByteArray := prog_3_method_5_code
abbrev y_E_determinant : MethodName := ⟨"WalkRanks$Equations", "determinant", "()J"⟩
abbrev c_E_expand : ByteArray := prog_3_method_6_code
abbrev y_E_expand : MethodName := ⟨"WalkRanks$Equations", "expand", "([[JIII)J"⟩
abbrev c_W_fraction : ByteArray := prog_1_method_28_code
abbrev y_W_fraction : MethodName := ⟨"WalkRanks", "fraction", "(JJI)J"⟩
abbrev c_W_place : ByteArray := prog_1_method_13_code
abbrev y_W_place : MethodName := ⟨"WalkRanks", "place", "(I)I"⟩
abbrev c_W_nodesAhead : ByteArray := prog_1_method_26_code
abbrev y_W_nodesAhead : MethodName := ⟨"WalkRanks", "nodesAhead", "(I)I"⟩
abbrev c_W_reach : ByteArray := prog_1_method_14_code
abbrev y_W_reach : MethodName := ⟨"WalkRanks", "reach", "(III)J"⟩
abbrev c_W_chanceToCome : ByteArray := prog_1_method_27_code
abbrev y_W_chanceToCome : MethodName := ⟨"WalkRanks", "chanceToCome", "(III)J"⟩
abbrev c_E_putChances : ByteArray := prog_3_method_3_code
abbrev y_E_putChances : MethodName := ⟨"WalkRanks$Equations", "putChances", "(LWalkRanks$Steps;III)V"⟩
abbrev c_W_hit : ByteArray := prog_1_method_15_code
abbrev y_W_hit : MethodName := ⟨"WalkRanks", "hit", "(III)J"⟩
abbrev c_E_putStepCounts : ByteArray := prog_3_method_4_code
abbrev y_E_putStepCounts : MethodName := ⟨"WalkRanks$Equations", "putStepCounts", "(LWalkRanks$Steps;II)V"⟩
abbrev c_W_back : ByteArray := prog_1_method_16_code
abbrev y_W_back : MethodName := ⟨"WalkRanks", "back", "(II)J"⟩
abbrev c_W_end : ByteArray := prog_1_method_17_code
abbrev y_W_end : MethodName := ⟨"WalkRanks", "end", "(III)J"⟩
abbrev c_W_after : ByteArray := prog_1_method_18_code
abbrev y_W_after : MethodName := ⟨"WalkRanks", "after", "(IIII)J"⟩
abbrev c_S_commonTotal : ByteArray := prog_6_method_6_code
abbrev y_S_commonTotal : MethodName := ⟨"WalkRanks$Steps", "commonTotal", "()J"⟩
abbrev c_P_fillBySteps : ByteArray := prog_5_method_3_code
abbrev y_P_fillBySteps : MethodName := ⟨"WalkRanks$Spread", "fillBySteps", "(LWalkRanks$Steps;J)V"⟩
abbrev c_P_run : ByteArray := prog_5_method_4_code
abbrev y_P_run : MethodName := ⟨"WalkRanks$Spread", "run", "(II)V"⟩
abbrev c_P_move : ByteArray := prog_5_method_6_code
abbrev y_P_move : MethodName := ⟨"WalkRanks$Spread", "move", "()V"⟩
abbrev c_P_numberAt : ByteArray := prog_5_method_5_code
abbrev y_P_numberAt : MethodName := ⟨"WalkRanks$Spread", "numberAt", "(I)J"⟩
abbrev c_W_walks : ByteArray := prog_1_method_19_code
abbrev y_W_walks : MethodName := ⟨"WalkRanks", "walks", "(III)J"⟩
abbrev c_P_fillByWeights : ByteArray := prog_5_method_2_code
abbrev y_P_fillByWeights : MethodName := ⟨"WalkRanks$Spread", "fillByWeights", "(LWalkRanks$Graph;)V"⟩
abbrev c_W_drawn : ByteArray := prog_1_method_20_code
abbrev y_W_drawn : MethodName := ⟨"WalkRanks", "drawn", "(III)I"⟩
abbrev c_S_nextNode : ByteArray := prog_6_method_10_code
abbrev y_S_nextNode : MethodName := ⟨"WalkRanks$Steps", "nextNode", "(II)I"⟩
abbrev c_M_init : ByteArray := prog_8_method_1_code
abbrev y_M_init : MethodName := ⟨"WalkRanksModel", "<init>", "()V"⟩
abbrev c_M_node : ByteArray := prog_8_method_3_code
abbrev y_M_node : MethodName := ⟨"WalkRanksModel", "node", "()I"⟩
abbrev c_M_weight : ByteArray := prog_8_method_4_code
abbrev y_M_weight : MethodName := ⟨"WalkRanksModel", "weight", "(III)I"⟩
abbrev c_M_isNode : ByteArray := prog_8_method_2_code
abbrev y_M_isNode : MethodName := ⟨"WalkRanksModel", "isNode", "(I)Z"⟩
abbrev c_M_jump : ByteArray := prog_8_method_5_code
abbrev y_M_jump : MethodName := ⟨"WalkRanksModel", "jump", "(II)I"⟩
abbrev c_M_keep : ByteArray := prog_8_method_6_code
abbrev y_M_keep : MethodName := ⟨"WalkRanksModel", "keep", "(II)I"⟩
abbrev c_M_clear : ByteArray := prog_8_method_7_code
abbrev y_M_clear : MethodName := ⟨"WalkRanksModel", "clear", "()I"⟩
abbrev c_M_row : ByteArray := prog_8_method_11_code
abbrev y_M_row : MethodName := ⟨"WalkRanksModel", "row", "(II)I"⟩
abbrev c_M_findRows : ByteArray := prog_8_method_10_code
abbrev y_M_findRows : MethodName := ⟨"WalkRanksModel", "findRows", "()V"⟩
abbrev c_M_common : ByteArray := prog_8_method_8_code
abbrev y_M_common : MethodName := ⟨"WalkRanksModel", "common", "(JJ)J"⟩
abbrev c_M_total : ByteArray := prog_8_method_12_code
abbrev y_M_total : MethodName := ⟨"WalkRanksModel", "total", "(I)I"⟩
abbrev c_M_closed : ByteArray := prog_8_method_17_code
abbrev y_M_closed : MethodName := ⟨"WalkRanksModel", "closed", "()I"⟩
abbrev c_M_findSets : ByteArray := prog_8_method_16_code
abbrev y_M_findSets : MethodName := ⟨"WalkRanksModel", "findSets", "()V"⟩
abbrev c_M_isClosed : ByteArray := prog_8_method_15_code
abbrev y_M_isClosed : MethodName := ⟨"WalkRanksModel", "isClosed", "(I)Z"⟩
abbrev c_M_reached : ByteArray := prog_8_method_13_code
abbrev y_M_reached : MethodName := ⟨"WalkRanksModel", "reached", "(II)I"⟩
abbrev c_M_leads : ByteArray := prog_8_method_14_code
abbrev y_M_leads : MethodName := ⟨"WalkRanksModel", "leads", "(II)Z"⟩
abbrev c_M_closedOf : ByteArray := prog_8_method_18_code
abbrev y_M_closedOf : MethodName := ⟨"WalkRanksModel", "closedOf", "(I)I"⟩
abbrev c_M_period : ByteArray := prog_8_method_19_code
abbrev y_M_period : MethodName := ⟨"WalkRanksModel", "period", "(I)I"⟩
abbrev c_M_rank : ByteArray := prog_8_method_25_code
abbrev y_M_rank : MethodName := ⟨"WalkRanksModel", "rank", "(II)J"⟩
abbrev c_M_isPart : ByteArray := prog_8_method_24_code
abbrev y_M_isPart : MethodName := ⟨"WalkRanksModel", "isPart", "(I)Z"⟩
abbrev c_M_findShares : ByteArray := prog_8_method_23_code
abbrev y_M_findShares : MethodName := ⟨"WalkRanksModel", "findShares", "(I)V"⟩
abbrev c_M_count : ByteArray := prog_8_method_21_code
abbrev y_M_count : MethodName := ⟨"WalkRanksModel", "count", "(IIII)V"⟩
abbrev c_M_rootOf : ByteArray := prog_8_method_20_code
abbrev y_M_rootOf : MethodName := ⟨"WalkRanksModel", "rootOf", "(II)I"⟩
abbrev c_M_lowest : ByteArray := prog_8_method_9_code
abbrev y_M_lowest : MethodName := ⟨"WalkRanksModel", "lowest", "(JJI)J"⟩
abbrev c_M_place : ByteArray := prog_8_method_26_code
abbrev y_M_place : MethodName := ⟨"WalkRanksModel", "place", "(I)I"⟩
abbrev c_M_reach : ByteArray := prog_8_method_27_code
abbrev y_M_reach : MethodName := ⟨"WalkRanksModel", "reach", "(III)J"⟩
abbrev c_M_all : ByteArray := prog_8_method_22_code
abbrev y_M_all : MethodName := ⟨"WalkRanksModel", "all", "()I"⟩
abbrev c_M_hit : ByteArray := prog_8_method_28_code
abbrev y_M_hit : MethodName := ⟨"WalkRanksModel", "hit", "(III)J"⟩
abbrev c_M_back : ByteArray := prog_8_method_29_code
abbrev y_M_back : MethodName := ⟨"WalkRanksModel", "back", "(II)J"⟩
abbrev c_M_end : ByteArray := prog_8_method_30_code
abbrev y_M_end : MethodName := ⟨"WalkRanksModel", "end", "(III)J"⟩
abbrev c_M_after : ByteArray := prog_8_method_31_code
abbrev y_M_after : MethodName := ⟨"WalkRanksModel", "after", "(IIII)J"⟩
abbrev c_M_walks : ByteArray := prog_8_method_32_code
abbrev y_M_walks : MethodName := ⟨"WalkRanksModel", "walks", "(III)J"⟩
abbrev c_M_drawn : ByteArray := prog_8_method_33_code
abbrev y_M_drawn : MethodName := ⟨"WalkRanksModel", "drawn", "(III)I"⟩
abbrev c_L_law : ByteArray := code
abbrev y_L_law : MethodName := ⟨"WalkRanksLaw", "law", "([I)Z"⟩
end
section
-- AW: the kit's W with all of the machine's context bundled away; ws is the world (places), lv the locals, st the operand stack
abbrev aw_G : Type := Launch × va_G × List (ClassId × FieldType)
def aw_WS : List Cond := lw_tbl.filter goodWord
theorem aw_in {w : Cond} (h : w ∈ lw_tbl) (hg : goodWord w = true) : w ∈ aw_WS := List.mem_filter.mpr ⟨h, hg⟩
theorem aw_goodIn (y : MethodName) (cc : ByteArray) (nL : Nat) (ret : Option FieldType) (h : Cond.code y cc nL ret ∈ aw_WS) : GoodIn aw_WS (Cond.code y cc nL ret :: aw_WS) := by
  intro w hw
  rcases List.mem_cons.mp hw with rfl | hw
  · exact ⟨h, good_of_word (List.mem_filter.mp h).2⟩
  · exact ⟨hw, good_of_word (List.mem_filter.mp hw).2⟩
def va_AOA (t : FieldType) (U : State) : Prop := (Cond.arrayOver (.array t)).before #[] U = true
theorem va_AOA.of {t : FieldType} {A : Array Value} {U : State} (h : (Cond.arrayOver (.array t)).before A U = true) : va_AOA t U := h
theorem va_AOA.use {t : FieldType} {A : Array Value} {U : State} (h : va_AOA t U) : (Cond.arrayOver (.array t)).before A U = true := h
theorem aw_aoaMoved {t : FieldType} {u U : State} (hvm : u.vm.Alike U.vm) (h : va_AOA t u) : va_AOA t U := by
  obtain ⟨comp, c, k, h1, h2, h3, h4, h5⟩ := arrayOverA_spec h
  obtain ⟨k', hk', he⟩ := hvm.2.2 _ _ h3
  have eb : U.vm.bare = u.vm.bare := by first | exact hvm.bare_eq | exact hvm.bare_eq.symm
  have hi := (va_idx_bare U.vm comp).symm
  rw [eb] at hi
  have hi := hi.trans ((va_idx_bare u.vm comp).trans h2)
  have hkind : k'.kind = .array comp (.array t) := by rw [he]; exact h4
  have f1 : U.vm.findClass (FieldType.array t).toString = some comp := by rw [hvm.findClass]; exact h1
  have f2 : U.vm.findClass ("[" ++ (FieldType.array t).toString) = some c := by rw [hvm.findClass]; exact h5
  unfold va_AOA Cond.before Cond.holds
  simp only [Cond.value]
  rw [f1, Option.bind_some]
  refine (congrArg (fun o : Option Nat => (o.bind (fun c => (U.vm.classes[c]?).map fun (k : Class) => match k.kind with | .array _ ty => decide (ty = FieldType.array t) && decide (U.vm.findClass ("[" ++ (FieldType.array t).toString) = some c) | _ => false) == some true)) hi).trans ?_
  simp [hk', hkind, f2]
def aw_isN : Cond → Bool
  | .methodLinkNest .. => true
  | _ => false
def aw_NW : List Cond := lw_tbl.filter aw_isN
theorem aw_inN {w : Cond} (h : w ∈ lw_tbl) (hg : aw_isN w = true) : w ∈ aw_NW := List.mem_filter.mpr ⟨h, hg⟩
/-- the words that are not carried by the contracts' word lists: links within the nest, arrays of arrays -/
def aw_NK (U : State) : Prop := (∀ w ∈ aw_NW, va_Nw w U) ∧ va_AOA .int U ∧ va_AOA .long U
theorem aw_NK.warm {s U : State} (hW : s.WarmedH U.vm) (h : aw_NK s) : aw_NK U := by
  refine ⟨fun w hw => ?_, aw_aoaMoved hW.alike h.2.1, aw_aoaMoved hW.alike h.2.2⟩
  have hz := h.1 w hw
  have hg := (List.mem_filter.mp hw).2
  cases w <;> first | exact va_Nw.warmM hW hz | (simp [aw_isN] at hg; done)
theorem aw_NK.same {s U : State} (hv : s.vm = U.vm) (h : aw_NK s) : aw_NK U := aw_NK.warm (by rw [← hv]; exact State.WarmedH.refl s) h
def aw_rm (d mc ms : Nat) : Room := { frames := d, cells := mc, slots := ms, locals := 48 * d }
def aw_ctx (y : MethodName) (cc : ByteArray) (nL : Nat) (ret : Option FieldType) (E : (Nat → Prop) → State → Array Value → Prop) (p : Program) (s : State) (m : MethodId) (args : Array Value) (meth : Method) (c : Code) (A : Nat → Prop) : Prop :=
  p.tables.exec = Jvm.exec ∧ c.code = cc ∧ meth.sig.returnType = ret ∧ c.maxLocals = nL ∧ s.vm.findClass y.cls = some m.cls ∧ (∀ w ∈ aw_WS, w.before args s = true) ∧ meth.locks = false ∧ meth.name = y.name ∧ (∀ q : Nat, s.heap.size ≤ q → A q) ∧ E A s args ∧ aw_NK s
def aw_wd (g : aw_G) (A : Nat → Prop) (s : State) (H : Heap) (locs : List Loc) (ws : va_W) : Prop :=
  va_S A s.heap H locs ∧ va_K g.2.1 vwCl g.2.2 s ∧ va_P g.2.1 vwCl ws H ∧ va_D A ws
def AW (g : aw_G) (y : MethodName) (cc : ByteArray) (nL : Nat) (ret : Option FieldType) (R : Room) (E : (Nat → Prop) → State → Array Value → Prop) (F : List Frame → Array Value → State → (Nat → Prop) → State → Prop) (kc ks pc : Nat) (lv : List (Nat × Value)) (st : List Value) (ws : va_W) : Prop :=
  ∀ (p : Program) (e : Env) (s : State) (m : MethodId) (args : Array Value) (below : List Frame) (meth : Method) (c : Code) (H : Heap) (locs : List Loc) (A : Nat → Prop) (ls : Array Slot),
    aw_ctx y cc nL ret E p s m args meth c A → aw_wd g A s H locs ws → lv_has ls nL lv → W p g.1 e R s m args below meth c H locs kc ks (F below args s A) (F0 m pc ls st)
def aw_Q (g : aw_G) (Q : Option Value → va_W → Prop) (A : Nat → Prop) : Array Value → State → Outcome → State → Prop := fun _ st oc t =>
  (∃ (v : Option Value) (ws : va_W), oc = .returned v ∧ Q v ws ∧ va_P g.2.1 vwCl ws t.heap ∧ va_K g.2.1 vwCl g.2.2 t ∧ va_D A ws) ∧ va_F A st t
def aw_F (g : aw_G) (Q : Option Value → va_W → Prop) (mc ms : Nat) : List Frame → Array Value → State → (Nat → Prop) → State → Prop := fun below args s A => MQ below (aw_Q g Q A) args s mc ms A
def aw_E0 : (Nat → Prop) → State → Array Value → Prop := fun _ _ _ => True
def aw_Pc (g : aw_G) (av : List Value) (ws : va_W) (sz : Nat) : Array Value → State → Prop := va_Pc av (fun U => U.heap.size = sz ∧ va_P g.2.1 vwCl ws U.heap ∧ va_K g.2.1 vwCl g.2.2 U ∧ va_D (fun _ => True) ws ∧ aw_NK U)
def AMet (g : aw_G) (y : MethodName) (cc : ByteArray) (nL : Nat) (ret : Option FieldType) (d : Nat) (av : List Value) (ws : va_W) (Q : Option Value → va_W → Prop) (mc ms : Nat) : Prop :=
  ∀ sz : Nat, Met g.1 y (Cond.code y cc nL ret :: aw_WS) (aw_rm d mc ms) (aw_Pc g av ws sz) (aw_Q g Q (va_A ws sz)) mc ms (va_A ws sz)
/-- a contract out of the walk of the body -/
theorem amet_of {g : aw_G} {y : MethodName} {cc : ByteArray} {nL : Nat} {ret : Option FieldType} {d : Nat} {av : List Value} {ws : va_W} {Q : Option Value → va_W → Prop} {mc ms : Nat} (hy : plainName y.cls = true) (hn : (lg_sl av).length ≤ nL)
    (body : AW g y cc nL ret (aw_rm d mc ms) aw_E0 (aw_F g Q mc ms) 0 0 0 (lv_args 0 av) [] ws) : AMet g y cc nL ret d av ws Q mc ms := by
  intro sz
  refine Met.ofW (cc := cc) (maxL := nL) (ret := ret) hy rfl ?_
  intro p e s m args below meth c s₁ B hml hv
  obtain ⟨rfl, hsz, hP, hK, hD0, hN0⟩ := hv
  have hts := atoms_spec (ws := Cond.code y cc nL ret :: aw_WS) B.pre
  subst hsz
  rw [lg_entry_eq]
  exact body p e s m _ below meth c s.heap [] (va_A ws s.heap.size) _ ⟨B.exec, B.bytes, B.returns, hml, findClass_of_methodNamed B.named, fun w h => hts w (List.mem_cons_of_mem _ h), B.notSynchronized, (name_of_methodNamed B.named B.method).1, fun q h => Or.inr h, trivial, hN0⟩ ⟨va_S.rf, hK, hP, hD0.self⟩ (lv_entry av hn)
theorem amet_mono {g : aw_G} {y : MethodName} {cc : ByteArray} {nL : Nat} {ret : Option FieldType} {d : Nat} {av : List Value} {ws : va_W} {Q Q' : Option Value → va_W → Prop} {mc ms : Nat} (h : ∀ v w, Q v w → Q' v w) (k : AW g y cc nL ret (aw_rm d mc ms) aw_E0 (aw_F g Q mc ms) 0 0 0 (lv_args 0 av) [] ws) : AW g y cc nL ret (aw_rm d mc ms) aw_E0 (aw_F g Q' mc ms) 0 0 0 (lv_args 0 av) [] ws := by
  intro p e s m args below meth c H locs A ls C D hl T hT X
  obtain ⟨t, a, o, b1, b2, ⟨⟨v, w, q1, q2, q3⟩, q4⟩, b4⟩ := k p e s m args below meth c H locs A ls C D hl T hT X
  exact ⟨t, a, o, b1, b2, ⟨⟨v, w, q1, h v w q2, q3⟩, q4⟩, b4⟩
section AWR
variable {g : aw_G} {y : MethodName} {cc : ByteArray} {nL : Nat} {ret : Option FieldType} {R : Room} {E : (Nat → Prop) → State → Array Value → Prop} {F : List Frame → Array Value → State → (Nat → Prop) → State → Prop} {kc ks pc : Nat} {lv : List (Nat × Value)} {st : List Value} {ws : va_W}
theorem aw_widen {kc' ks' : Nat} (h1 : kc ≤ kc') (h2 : ks ≤ ks') (k : AW g y cc nL ret R E F kc' ks' pc lv st ws) : AW g y cc nL ret R E F kc ks pc lv st ws :=
  fun p e s m args below meth c H locs A ls C D hl => W.widen h1 h2 (k p e s m args below meth c H locs A ls C D hl)
theorem aw_sub {lv' : List (Nat × Value)} (ps : List Nat) (h : lv_pick lv ps = lv') (k : AW g y cc nL ret R E F kc ks pc lv' st ws) : AW g y cc nL ret R E F kc ks pc lv st ws :=
  fun p e s m args below meth c H locs A ls C D hl => k p e s m args below meth c H locs A ls C D (lv_sub hl ps h)
theorem aw_eq {kc' ks' pc' : Nat} {lv' : List (Nat × Value)} {st' : List Value} {ws' : va_W} (e1 : pc = pc') (e2 : lv = lv') (e3 : st = st') (e4 : ws = ws') (k : AW g y cc nL ret R E F kc ks pc' lv' st' ws') : AW g y cc nL ret R E F kc ks pc lv st ws := by
  subst e1; subst e2; subst e3; subst e4; exact k
theorem aw_topi {x : Int32} (k : ∀ z : Int32, z = x → AW g y cc nL ret R E F kc ks pc lv (.int z :: st) ws) : AW g y cc nL ret R E F kc ks pc lv (.int x :: st) ws := k x rfl
theorem aw_topl {x : Int64} (k : ∀ z : Int64, z = x → AW g y cc nL ret R E F kc ks pc lv (.long z :: st) ws) : AW g y cc nL ret R E F kc ks pc lv (.long x :: st) ws := k x rfl
theorem aw_lk {lv : List (Nat × Value)} {i : Nat} {v : Value} (h : lv.lookup i = some v) : (i, v) ∈ lv := by
  induction lv with
  | nil => simp at h
  | cons q r ih =>
    obtain ⟨j, w⟩ := q
    rw [List.lookup_cons] at h
    split at h
    · rename_i e
      have e1 : i = j := by simpa using e
      cases h
      rw [e1]
      exact List.mem_cons_self
    · exact List.mem_cons_of_mem _ (ih h)
theorem aw_iconst {n : Int} {v : Int32} (hd : decode cc pc = .ok (.iconst n, 1)) (hv : Int32.ofInt n = v) (k : AW g y cc nL ret R E F kc ks (pc + 1) lv (.int v :: st) ws) : AW g y cc nL ret R E F kc ks pc lv st ws :=
  fun p e s m args below meth c H locs A ls C D hl => lv_iconst C.1 C.2.1 hd hv (k p e s m args below meth c H locs A ls C D hl)
theorem aw_bipush {n : Int} {v : Int32} (hd : decode cc pc = .ok (.bipush n, 2)) (hv : (Int8.ofInt n).toInt32 = v) (k : AW g y cc nL ret R E F kc ks (pc + 2) lv (.int v :: st) ws) : AW g y cc nL ret R E F kc ks pc lv st ws :=
  fun p e s m args below meth c H locs A ls C D hl => lv_bipush C.1 C.2.1 hd hv (k p e s m args below meth c H locs A ls C D hl)
theorem aw_sipush {n : Int} {v : Int32} (hd : decode cc pc = .ok (.sipush n, 3)) (hv : (Int16.ofInt n).toInt32 = v) (k : AW g y cc nL ret R E F kc ks (pc + 3) lv (.int v :: st) ws) : AW g y cc nL ret R E F kc ks pc lv st ws :=
  fun p e s m args below meth c H locs A ls C D hl => lv_sipush C.1 C.2.1 hd hv (k p e s m args below meth c H locs A ls C D hl)
theorem aw_lconst {n : Fin 2} {v : Int64} (hd : decode cc pc = .ok (.lconst n, 1)) (hv : Int64.ofNat (n : Nat) = v) (k : AW g y cc nL ret R E F kc ks (pc + 1) lv (.long v :: st) ws) : AW g y cc nL ret R E F kc ks pc lv st ws :=
  fun p e s m args below meth c H locs A ls C D hl => lv_lconst C.1 C.2.1 hd hv (k p e s m args below meth c H locs A ls C D hl)
theorem aw_ldc {index : Nat} {v : Int32} (hd : decode cc pc = .ok (.ldc index, 2)) (hw : Cond.constant y.cls index v ∈ aw_WS) (k : AW g y cc nL ret R E F kc ks (pc + 2) lv (.int v :: st) ws) : AW g y cc nL ret R E F kc ks pc lv st ws :=
  fun p e s m args below meth c H locs A ls C D hl => lv_ldc C.1 C.2.1 C.2.2.2.2.1 (C.2.2.2.2.2.1 _ hw) hd (k p e s m args below meth c H locs A ls C D hl)
theorem aw_ldc2 {index : Nat} {v : Int64} (hd : decode cc pc = .ok (.ldc2_w index, 3)) (hw : Cond.constantLong y.cls index v ∈ aw_WS) (k : AW g y cc nL ret R E F kc ks (pc + 3) lv (.long v :: st) ws) : AW g y cc nL ret R E F kc ks pc lv st ws :=
  fun p e s m args below meth c H locs A ls C D hl => lv_ldc2 C.1 C.2.1 C.2.2.2.2.1 (C.2.2.2.2.2.1 _ hw) hd (k p e s m args below meth c H locs A ls C D hl)
theorem aw_iload_n {n : Fin 4} {i : Nat} {x : Int32} (hd : decode cc pc = .ok (.iload_n n, 1)) (hi : (n : Nat) = i) (hj : lv.lookup i = some (.int x)) (k : AW g y cc nL ret R E F kc ks (pc + 1) lv (.int x :: st) ws) : AW g y cc nL ret R E F kc ks pc lv st ws :=
  fun p e s m args below meth c H locs A ls C D hl => lv_iload_n C.1 C.2.1 hd hi (hl.2.2 (i, .int x) (aw_lk hj)) (k p e s m args below meth c H locs A ls C D hl)
theorem aw_iload {i : Nat} {x : Int32} (hd : decode cc pc = .ok (.iload i, 2)) (hj : lv.lookup i = some (.int x)) (k : AW g y cc nL ret R E F kc ks (pc + 2) lv (.int x :: st) ws) : AW g y cc nL ret R E F kc ks pc lv st ws :=
  fun p e s m args below meth c H locs A ls C D hl => lv_iload C.1 C.2.1 hd (hl.2.2 (i, .int x) (aw_lk hj)) (k p e s m args below meth c H locs A ls C D hl)
theorem aw_lload_n {n : Fin 4} {i : Nat} {x : Int64} (hd : decode cc pc = .ok (.lload_n n, 1)) (hi : (n : Nat) = i) (hj : lv.lookup i = some (.long x)) (k : AW g y cc nL ret R E F kc ks (pc + 1) lv (.long x :: st) ws) : AW g y cc nL ret R E F kc ks pc lv st ws :=
  fun p e s m args below meth c H locs A ls C D hl => lv_lload_n C.1 C.2.1 hd hi (hl.2.2 (i, .long x) (aw_lk hj)) (k p e s m args below meth c H locs A ls C D hl)
theorem aw_lload {i : Nat} {x : Int64} (hd : decode cc pc = .ok (.lload i, 2)) (hj : lv.lookup i = some (.long x)) (k : AW g y cc nL ret R E F kc ks (pc + 2) lv (.long x :: st) ws) : AW g y cc nL ret R E F kc ks pc lv st ws :=
  fun p e s m args below meth c H locs A ls C D hl => lv_lload C.1 C.2.1 hd (hl.2.2 (i, .long x) (aw_lk hj)) (k p e s m args below meth c H locs A ls C D hl)
theorem aw_aload_n {n : Fin 4} {i : Nat} {x : Nat} (hd : decode cc pc = .ok (.aload_n n, 1)) (hi : (n : Nat) = i) (hj : lv.lookup i = some (.ref x)) (k : AW g y cc nL ret R E F kc ks (pc + 1) lv (.ref x :: st) ws) : AW g y cc nL ret R E F kc ks pc lv st ws :=
  fun p e s m args below meth c H locs A ls C D hl => lv_aload_n C.1 C.2.1 hd hi (hl.2.2 (i, .ref x) (aw_lk hj)) (k p e s m args below meth c H locs A ls C D hl)
theorem aw_aload {i : Nat} {x : Nat} (hd : decode cc pc = .ok (.aload i, 2)) (hj : lv.lookup i = some (.ref x)) (k : AW g y cc nL ret R E F kc ks (pc + 2) lv (.ref x :: st) ws) : AW g y cc nL ret R E F kc ks pc lv st ws :=
  fun p e s m args below meth c H locs A ls C D hl => lv_aload C.1 C.2.1 hd (hl.2.2 (i, .ref x) (aw_lk hj)) (k p e s m args below meth c H locs A ls C D hl)
def aw_st1 (lv : List (Nat × Value)) (i : Nat) (v : Value) : List (Nat × Value) := (i, v) :: lv.filter (fun q => !(q.1 == i) && !(q.1 + 1 == i && q.2.category == 2))
def aw_st2 (lv : List (Nat × Value)) (i : Nat) (v : Value) : List (Nat × Value) := (i, v) :: lv.filter (fun q => !(q.1 == i) && (!(q.1 == i + 1) && !(q.1 + 1 == i && q.2.category == 2)))
theorem aw_istore_n {n : Fin 4} {i : Nat} {x : Int32} {lv' : List (Nat × Value)} (hd : decode cc pc = .ok (.istore_n n, 1)) (hi : (n : Nat) = i) (hn : i < nL) (hv : aw_st1 lv i (.int x) = lv') (k : AW g y cc nL ret R E F kc ks (pc + 1) lv' st ws) : AW g y cc nL ret R E F kc ks pc lv (.int x :: st) ws :=
  fun p e s m args below meth c H locs A ls C D hl => lv_istore_n C.1 C.2.1 hd hi hl hn hv (fun ls hl => k p e s m args below meth c H locs A ls C D hl)
theorem aw_istore {i : Nat} {x : Int32} {lv' : List (Nat × Value)} (hd : decode cc pc = .ok (.istore i, 2)) (hn : i < nL) (hv : aw_st1 lv i (.int x) = lv') (k : AW g y cc nL ret R E F kc ks (pc + 2) lv' st ws) : AW g y cc nL ret R E F kc ks pc lv (.int x :: st) ws :=
  fun p e s m args below meth c H locs A ls C D hl => lv_istore C.1 C.2.1 hd hl hn hv (fun ls hl => k p e s m args below meth c H locs A ls C D hl)
theorem aw_lstore_n {n : Fin 4} {i : Nat} {x : Int64} {lv' : List (Nat × Value)} (hd : decode cc pc = .ok (.lstore_n n, 1)) (hi : (n : Nat) = i) (hn : i + 1 < nL) (hv : aw_st2 lv i (.long x) = lv') (k : AW g y cc nL ret R E F kc ks (pc + 1) lv' st ws) : AW g y cc nL ret R E F kc ks pc lv (.long x :: st) ws :=
  fun p e s m args below meth c H locs A ls C D hl => lv_lstore_n C.1 C.2.1 hd hi hl hn hv (fun ls hl => k p e s m args below meth c H locs A ls C D hl)
theorem aw_lstore {i : Nat} {x : Int64} {lv' : List (Nat × Value)} (hd : decode cc pc = .ok (.lstore i, 2)) (hn : i + 1 < nL) (hv : aw_st2 lv i (.long x) = lv') (k : AW g y cc nL ret R E F kc ks (pc + 2) lv' st ws) : AW g y cc nL ret R E F kc ks pc lv (.long x :: st) ws :=
  fun p e s m args below meth c H locs A ls C D hl => lv_lstore C.1 C.2.1 hd hl hn hv (fun ls hl => k p e s m args below meth c H locs A ls C D hl)
theorem aw_astore_n {n : Fin 4} {i : Nat} {x : Nat} {lv' : List (Nat × Value)} (hd : decode cc pc = .ok (.astore_n n, 1)) (hi : (n : Nat) = i) (hn : i < nL) (hv : aw_st1 lv i (.ref x) = lv') (k : AW g y cc nL ret R E F kc ks (pc + 1) lv' st ws) : AW g y cc nL ret R E F kc ks pc lv (.ref x :: st) ws :=
  fun p e s m args below meth c H locs A ls C D hl => lv_astore_n C.1 C.2.1 hd hi hl hn hv (fun ls hl => k p e s m args below meth c H locs A ls C D hl)
theorem aw_astore {i : Nat} {x : Nat} {lv' : List (Nat × Value)} (hd : decode cc pc = .ok (.astore i, 2)) (hn : i < nL) (hv : aw_st1 lv i (.ref x) = lv') (k : AW g y cc nL ret R E F kc ks (pc + 2) lv' st ws) : AW g y cc nL ret R E F kc ks pc lv (.ref x :: st) ws :=
  fun p e s m args below meth c H locs A ls C D hl => lv_astore C.1 C.2.1 hd hl hn hv (fun ls hl => k p e s m args below meth c H locs A ls C D hl)
theorem aw_iinc {i : Nat} {n : Int} {x v : Int32} {lv' : List (Nat × Value)} (hd : decode cc pc = .ok (.iinc i n, 3)) (hj : lv.lookup i = some (.int x)) (hv : x + Int32.ofInt n = v) (hn : i < nL) (hl' : aw_st1 lv i (.int v) = lv') (k : AW g y cc nL ret R E F kc ks (pc + 3) lv' st ws) : AW g y cc nL ret R E F kc ks pc lv st ws :=
  fun p e s m args below meth c H locs A ls C D hl => (List.mem_iff_getElem?.mp (aw_lk hj)).elim (fun j hj => lv_iinc C.1 C.2.1 hd hl hj hv hn hl' (fun ls hl => k p e s m args below meth c H locs A ls C D hl))
theorem aw_iadd {x z : Int32} (hd : decode cc pc = .ok (.iadd, 1)) (k : AW g y cc nL ret R E F kc ks (pc + 1) lv (.int (x + z) :: st) ws) : AW g y cc nL ret R E F kc ks pc lv (.int z :: .int x :: st) ws :=
  fun p e s m args below meth c H locs A ls C D hl => lv_iadd C.1 C.2.1 hd (k p e s m args below meth c H locs A ls C D hl)
theorem aw_isub {x z : Int32} (hd : decode cc pc = .ok (.isub, 1)) (k : AW g y cc nL ret R E F kc ks (pc + 1) lv (.int (x - z) :: st) ws) : AW g y cc nL ret R E F kc ks pc lv (.int z :: .int x :: st) ws :=
  fun p e s m args below meth c H locs A ls C D hl => lv_isub C.1 C.2.1 hd (k p e s m args below meth c H locs A ls C D hl)
theorem aw_imul {x z : Int32} (hd : decode cc pc = .ok (.imul, 1)) (k : AW g y cc nL ret R E F kc ks (pc + 1) lv (.int (x * z) :: st) ws) : AW g y cc nL ret R E F kc ks pc lv (.int z :: .int x :: st) ws :=
  fun p e s m args below meth c H locs A ls C D hl => lv_imul C.1 C.2.1 hd (k p e s m args below meth c H locs A ls C D hl)
theorem aw_iand {x z : Int32} (hd : decode cc pc = .ok (.iand, 1)) (k : AW g y cc nL ret R E F kc ks (pc + 1) lv (.int (x &&& z) :: st) ws) : AW g y cc nL ret R E F kc ks pc lv (.int z :: .int x :: st) ws :=
  fun p e s m args below meth c H locs A ls C D hl => lv_iand C.1 C.2.1 hd (k p e s m args below meth c H locs A ls C D hl)
theorem aw_ior {x z : Int32} (hd : decode cc pc = .ok (.ior, 1)) (k : AW g y cc nL ret R E F kc ks (pc + 1) lv (.int (x ||| z) :: st) ws) : AW g y cc nL ret R E F kc ks pc lv (.int z :: .int x :: st) ws :=
  fun p e s m args below meth c H locs A ls C D hl => lv_ior C.1 C.2.1 hd (k p e s m args below meth c H locs A ls C D hl)
theorem aw_ixor {x z : Int32} (hd : decode cc pc = .ok (.ixor, 1)) (k : AW g y cc nL ret R E F kc ks (pc + 1) lv (.int (x ^^^ z) :: st) ws) : AW g y cc nL ret R E F kc ks pc lv (.int z :: .int x :: st) ws :=
  fun p e s m args below meth c H locs A ls C D hl => lv_ixor C.1 C.2.1 hd (k p e s m args below meth c H locs A ls C D hl)
theorem aw_ishl {x z : Int32} (hd : decode cc pc = .ok (.ishl, 1)) (k : AW g y cc nL ret R E F kc ks (pc + 1) lv (.int (x <<< (z &&& 31)) :: st) ws) : AW g y cc nL ret R E F kc ks pc lv (.int z :: .int x :: st) ws :=
  fun p e s m args below meth c H locs A ls C D hl => lv_ishl C.1 C.2.1 hd (k p e s m args below meth c H locs A ls C D hl)
theorem aw_ishr {x z : Int32} (hd : decode cc pc = .ok (.ishr, 1)) (k : AW g y cc nL ret R E F kc ks (pc + 1) lv (.int (x >>> (z &&& 31)) :: st) ws) : AW g y cc nL ret R E F kc ks pc lv (.int z :: .int x :: st) ws :=
  fun p e s m args below meth c H locs A ls C D hl => lv_ishr C.1 C.2.1 hd (k p e s m args below meth c H locs A ls C D hl)
theorem aw_ladd {x z : Int64} (hd : decode cc pc = .ok (.ladd, 1)) (k : AW g y cc nL ret R E F kc ks (pc + 1) lv (.long (x + z) :: st) ws) : AW g y cc nL ret R E F kc ks pc lv (.long z :: .long x :: st) ws :=
  fun p e s m args below meth c H locs A ls C D hl => lv_ladd C.1 C.2.1 hd (k p e s m args below meth c H locs A ls C D hl)
theorem aw_lsub {x z : Int64} (hd : decode cc pc = .ok (.lsub, 1)) (k : AW g y cc nL ret R E F kc ks (pc + 1) lv (.long (x - z) :: st) ws) : AW g y cc nL ret R E F kc ks pc lv (.long z :: .long x :: st) ws :=
  fun p e s m args below meth c H locs A ls C D hl => lv_lsub C.1 C.2.1 hd (k p e s m args below meth c H locs A ls C D hl)
theorem aw_lmul {x z : Int64} (hd : decode cc pc = .ok (.lmul, 1)) (k : AW g y cc nL ret R E F kc ks (pc + 1) lv (.long (x * z) :: st) ws) : AW g y cc nL ret R E F kc ks pc lv (.long z :: .long x :: st) ws :=
  fun p e s m args below meth c H locs A ls C D hl => lv_lmul C.1 C.2.1 hd (k p e s m args below meth c H locs A ls C D hl)
theorem aw_land {x z : Int64} (hd : decode cc pc = .ok (.land, 1)) (k : AW g y cc nL ret R E F kc ks (pc + 1) lv (.long (x &&& z) :: st) ws) : AW g y cc nL ret R E F kc ks pc lv (.long z :: .long x :: st) ws :=
  fun p e s m args below meth c H locs A ls C D hl => lv_land C.1 C.2.1 hd (k p e s m args below meth c H locs A ls C D hl)
theorem aw_lor {x z : Int64} (hd : decode cc pc = .ok (.lor, 1)) (k : AW g y cc nL ret R E F kc ks (pc + 1) lv (.long (x ||| z) :: st) ws) : AW g y cc nL ret R E F kc ks pc lv (.long z :: .long x :: st) ws :=
  fun p e s m args below meth c H locs A ls C D hl => lv_lor C.1 C.2.1 hd (k p e s m args below meth c H locs A ls C D hl)
theorem aw_lxor {x z : Int64} (hd : decode cc pc = .ok (.lxor, 1)) (k : AW g y cc nL ret R E F kc ks (pc + 1) lv (.long (x ^^^ z) :: st) ws) : AW g y cc nL ret R E F kc ks pc lv (.long z :: .long x :: st) ws :=
  fun p e s m args below meth c H locs A ls C D hl => lv_lxor C.1 C.2.1 hd (k p e s m args below meth c H locs A ls C D hl)
theorem aw_idiv {x z : Int32} (hd : decode cc pc = .ok (.idiv, 1)) (hne : ¬ z = 0) (k : AW g y cc nL ret R E F kc ks (pc + 1) lv (.int (x / z) :: st) ws) : AW g y cc nL ret R E F kc ks pc lv (.int z :: .int x :: st) ws :=
  fun p e s m args below meth c H locs A ls C D hl => lv_idiv C.1 C.2.1 hd hne (k p e s m args below meth c H locs A ls C D hl)
theorem aw_irem {x z : Int32} (hd : decode cc pc = .ok (.irem, 1)) (hne : ¬ z = 0) (k : AW g y cc nL ret R E F kc ks (pc + 1) lv (.int (x - x / z * z) :: st) ws) : AW g y cc nL ret R E F kc ks pc lv (.int z :: .int x :: st) ws :=
  fun p e s m args below meth c H locs A ls C D hl => lv_irem C.1 C.2.1 hd hne (k p e s m args below meth c H locs A ls C D hl)
theorem aw_ldiv {x z : Int64} (hd : decode cc pc = .ok (.ldiv, 1)) (hne : ¬ z = 0) (k : AW g y cc nL ret R E F kc ks (pc + 1) lv (.long (x / z) :: st) ws) : AW g y cc nL ret R E F kc ks pc lv (.long z :: .long x :: st) ws :=
  fun p e s m args below meth c H locs A ls C D hl => lv_ldiv C.1 C.2.1 hd hne (k p e s m args below meth c H locs A ls C D hl)
theorem aw_lrem {x z : Int64} (hd : decode cc pc = .ok (.lrem, 1)) (hne : ¬ z = 0) (k : AW g y cc nL ret R E F kc ks (pc + 1) lv (.long (x - x / z * z) :: st) ws) : AW g y cc nL ret R E F kc ks pc lv (.long z :: .long x :: st) ws :=
  fun p e s m args below meth c H locs A ls C D hl => lv_lrem C.1 C.2.1 hd hne (k p e s m args below meth c H locs A ls C D hl)
theorem aw_ineg {x : Int32} (hd : decode cc pc = .ok (.ineg, 1)) (k : AW g y cc nL ret R E F kc ks (pc + 1) lv (.int (-x) :: st) ws) : AW g y cc nL ret R E F kc ks pc lv (.int x :: st) ws :=
  fun p e s m args below meth c H locs A ls C D hl => lv_ineg C.1 C.2.1 hd (k p e s m args below meth c H locs A ls C D hl)
theorem aw_lneg {x : Int64} (hd : decode cc pc = .ok (.lneg, 1)) (k : AW g y cc nL ret R E F kc ks (pc + 1) lv (.long (-x) :: st) ws) : AW g y cc nL ret R E F kc ks pc lv (.long x :: st) ws :=
  fun p e s m args below meth c H locs A ls C D hl => lv_lneg C.1 C.2.1 hd (k p e s m args below meth c H locs A ls C D hl)
theorem aw_i2l {x : Int32} (hd : decode cc pc = .ok (.i2l, 1)) (k : AW g y cc nL ret R E F kc ks (pc + 1) lv (.long x.toInt64 :: st) ws) : AW g y cc nL ret R E F kc ks pc lv (.int x :: st) ws :=
  fun p e s m args below meth c H locs A ls C D hl => lv_i2l C.1 C.2.1 hd rfl (k p e s m args below meth c H locs A ls C D hl)
theorem aw_l2i {x : Int64} (hd : decode cc pc = .ok (.l2i, 1)) (k : AW g y cc nL ret R E F kc ks (pc + 1) lv (.int x.toInt32 :: st) ws) : AW g y cc nL ret R E F kc ks pc lv (.long x :: st) ws :=
  fun p e s m args below meth c H locs A ls C D hl => lv_l2i C.1 C.2.1 hd rfl (k p e s m args below meth c H locs A ls C D hl)
theorem aw_iushr {x z : Int32} (hd : decode cc pc = .ok (.iushr, 1)) (k : AW g y cc nL ret R E F kc ks (pc + 1) lv (.int ((x.toUInt32 >>> (z.toUInt32 &&& Int32.toUInt32 31)).toInt32) :: st) ws) : AW g y cc nL ret R E F kc ks pc lv (.int z :: .int x :: st) ws :=
  fun p e s m args below meth c H locs A ls C D hl => lv_iushr C.1 C.2.1 hd rfl (k p e s m args below meth c H locs A ls C D hl)
theorem aw_lushr {x : Int64} {z : Int32} (hd : decode cc pc = .ok (.lushr, 1)) (k : AW g y cc nL ret R E F kc ks (pc + 1) lv (.long ((x.toUInt64 >>> (z.toInt64.toUInt64 &&& Int64.toUInt64 63)).toInt64) :: st) ws) : AW g y cc nL ret R E F kc ks pc lv (.int z :: .long x :: st) ws :=
  fun p e s m args below meth c H locs A ls C D hl => lv_lushr C.1 C.2.1 hd rfl (k p e s m args below meth c H locs A ls C D hl)
theorem aw_lshl {x : Int64} {z : Int32} (hd : decode cc pc = .ok (.lshl, 1)) (k : AW g y cc nL ret R E F kc ks (pc + 1) lv (.long (x <<< (z.toInt64 &&& 63)) :: st) ws) : AW g y cc nL ret R E F kc ks pc lv (.int z :: .long x :: st) ws :=
  fun p e s m args below meth c H locs A ls C D hl => lv_lshl C.1 C.2.1 hd rfl (k p e s m args below meth c H locs A ls C D hl)
theorem aw_lshr {x : Int64} {z : Int32} (hd : decode cc pc = .ok (.lshr, 1)) (k : AW g y cc nL ret R E F kc ks (pc + 1) lv (.long (x >>> (z.toInt64 &&& 63)) :: st) ws) : AW g y cc nL ret R E F kc ks pc lv (.int z :: .long x :: st) ws :=
  fun p e s m args below meth c H locs A ls C D hl => lv_lshr C.1 C.2.1 hd rfl (k p e s m args below meth c H locs A ls C D hl)
theorem aw_lcmp {x z : Int64} (hd : decode cc pc = .ok (.lcmp, 1)) (k : AW g y cc nL ret R E F kc ks (pc + 1) lv (.int (lg_cmp x z) :: st) ws) : AW g y cc nL ret R E F kc ks pc lv (.long z :: .long x :: st) ws :=
  fun p e s m args below meth c H locs A ls C D hl => W.lcmp C.1 C.2.1 hd (k p e s m args below meth c H locs A ls C D hl)
theorem aw_dup {a : Value} (hd : decode cc pc = .ok (.dup, 1)) (ha : a.category = 1) (k : AW g y cc nL ret R E F kc ks (pc + 1) lv (a :: a :: st) ws) : AW g y cc nL ret R E F kc ks pc lv (a :: st) ws :=
  fun p e s m args below meth c H locs A ls C D hl => lv_dup C.1 C.2.1 hd ha (k p e s m args below meth c H locs A ls C D hl)
theorem aw_pop {a : Value} (hd : decode cc pc = .ok (.pop, 1)) (ha : a.category = 1) (k : AW g y cc nL ret R E F kc ks (pc + 1) lv (st) ws) : AW g y cc nL ret R E F kc ks pc lv (a :: st) ws :=
  fun p e s m args below meth c H locs A ls C D hl => lv_pop C.1 C.2.1 hd ha (k p e s m args below meth c H locs A ls C D hl)
theorem aw_dup_x1 {a b : Value} (hd : decode cc pc = .ok (.dup_x1, 1)) (ha : a.category = 1) (hb : b.category = 1) (k : AW g y cc nL ret R E F kc ks (pc + 1) lv (a :: b :: a :: st) ws) : AW g y cc nL ret R E F kc ks pc lv (a :: b :: st) ws :=
  fun p e s m args below meth c H locs A ls C D hl => lv_dup_x1 C.1 C.2.1 hd ha hb (k p e s m args below meth c H locs A ls C D hl)
theorem aw_dup_x2 {a b d : Value} (hd : decode cc pc = .ok (.dup_x2, 1)) (ha : a.category = 1) (hb : b.category = 1) (hc : d.category = 1) (k : AW g y cc nL ret R E F kc ks (pc + 1) lv (a :: b :: d :: a :: st) ws) : AW g y cc nL ret R E F kc ks pc lv (a :: b :: d :: st) ws :=
  fun p e s m args below meth c H locs A ls C D hl => lv_dup_x2 C.1 C.2.1 hd ha hb hc (k p e s m args below meth c H locs A ls C D hl)
theorem aw_dup2_11 {a b : Value} (hd : decode cc pc = .ok (.dup2, 1)) (ha : a.category = 1) (hb : b.category = 1) (k : AW g y cc nL ret R E F kc ks (pc + 1) lv (a :: b :: a :: b :: st) ws) : AW g y cc nL ret R E F kc ks pc lv (a :: b :: st) ws :=
  fun p e s m args below meth c H locs A ls C D hl => lv_dup2_11 C.1 C.2.1 hd ha hb (k p e s m args below meth c H locs A ls C D hl)
theorem aw_dup2_2 {a : Value} (hd : decode cc pc = .ok (.dup2, 1)) (ha : a.category = 2) (k : AW g y cc nL ret R E F kc ks (pc + 1) lv (a :: a :: st) ws) : AW g y cc nL ret R E F kc ks pc lv (a :: st) ws :=
  fun p e s m args below meth c H locs A ls C D hl => lv_dup2_2 C.1 C.2.1 hd ha (k p e s m args below meth c H locs A ls C D hl)
theorem aw_pop2_2 {a : Value} (hd : decode cc pc = .ok (.pop2, 1)) (ha : a.category = 2) (k : AW g y cc nL ret R E F kc ks (pc + 1) lv (st) ws) : AW g y cc nL ret R E F kc ks pc lv (a :: st) ws :=
  fun p e s m args below meth c H locs A ls C D hl => lv_pop2_2 C.1 C.2.1 hd ha (k p e s m args below meth c H locs A ls C D hl)
theorem aw_pop2_11 {a b : Value} (hd : decode cc pc = .ok (.pop2, 1)) (ha : a.category = 1) (hb : b.category = 1) (k : AW g y cc nL ret R E F kc ks (pc + 1) lv (st) ws) : AW g y cc nL ret R E F kc ks pc lv (a :: b :: st) ws :=
  fun p e s m args below meth c H locs A ls C D hl => lv_pop2_11 C.1 C.2.1 hd ha hb (k p e s m args below meth c H locs A ls C D hl)
theorem aw_dup2_x1_2 {a b : Value} (hd : decode cc pc = .ok (.dup2_x1, 1)) (ha : a.category = 2) (hb : b.category = 1) (k : AW g y cc nL ret R E F kc ks (pc + 1) lv (a :: b :: a :: st) ws) : AW g y cc nL ret R E F kc ks pc lv (a :: b :: st) ws :=
  fun p e s m args below meth c H locs A ls C D hl => lv_dup2_x1_2 C.1 C.2.1 hd ha hb (k p e s m args below meth c H locs A ls C D hl)
theorem aw_dup2_x2_2 {a b d : Value} (hd : decode cc pc = .ok (.dup2_x2, 1)) (ha : a.category = 2) (hb : b.category = 1) (hc : d.category = 1) (k : AW g y cc nL ret R E F kc ks (pc + 1) lv (a :: b :: d :: a :: st) ws) : AW g y cc nL ret R E F kc ks pc lv (a :: b :: d :: st) ws :=
  fun p e s m args below meth c H locs A ls C D hl => lv_dup2_x2_2 C.1 C.2.1 hd ha hb hc (k p e s m args below meth c H locs A ls C D hl)
theorem aw_if_eq {x : Int32} {off : Int} {tgt : Nat} (hd : decode cc pc = .ok (.ifCond .eq off, 3)) (ht : (pc : Int) + off = (tgt : Int)) (kt : x = 0 → AW g y cc nL ret R E F kc ks tgt lv st ws) (kf : ¬ x = 0 → AW g y cc nL ret R E F kc ks (pc + 3) lv st ws) : AW g y cc nL ret R E F kc ks pc lv (.int x :: st) ws :=
  fun p e s m args below meth c H locs A ls C D hl => lv_if_eq C.1 C.2.1 hd ht (fun h => kt h p e s m args below meth c H locs A ls C D hl) (fun h => kf h p e s m args below meth c H locs A ls C D hl)
theorem aw_icmp_eq {x z : Int32} {off : Int} {tgt : Nat} (hd : decode cc pc = .ok (.if_icmp .eq off, 3)) (ht : (pc : Int) + off = (tgt : Int)) (kt : x = z → AW g y cc nL ret R E F kc ks tgt lv st ws) (kf : ¬ x = z → AW g y cc nL ret R E F kc ks (pc + 3) lv st ws) : AW g y cc nL ret R E F kc ks pc lv (.int z :: .int x :: st) ws :=
  fun p e s m args below meth c H locs A ls C D hl => lv_icmp_eq C.1 C.2.1 hd ht (fun h => kt h p e s m args below meth c H locs A ls C D hl) (fun h => kf h p e s m args below meth c H locs A ls C D hl)
theorem aw_if_ne {x : Int32} {off : Int} {tgt : Nat} (hd : decode cc pc = .ok (.ifCond .ne off, 3)) (ht : (pc : Int) + off = (tgt : Int)) (kt : ¬ x = 0 → AW g y cc nL ret R E F kc ks tgt lv st ws) (kf : x = 0 → AW g y cc nL ret R E F kc ks (pc + 3) lv st ws) : AW g y cc nL ret R E F kc ks pc lv (.int x :: st) ws :=
  fun p e s m args below meth c H locs A ls C D hl => lv_if_ne C.1 C.2.1 hd ht (fun h => kt h p e s m args below meth c H locs A ls C D hl) (fun h => kf h p e s m args below meth c H locs A ls C D hl)
theorem aw_icmp_ne {x z : Int32} {off : Int} {tgt : Nat} (hd : decode cc pc = .ok (.if_icmp .ne off, 3)) (ht : (pc : Int) + off = (tgt : Int)) (kt : ¬ x = z → AW g y cc nL ret R E F kc ks tgt lv st ws) (kf : x = z → AW g y cc nL ret R E F kc ks (pc + 3) lv st ws) : AW g y cc nL ret R E F kc ks pc lv (.int z :: .int x :: st) ws :=
  fun p e s m args below meth c H locs A ls C D hl => lv_icmp_ne C.1 C.2.1 hd ht (fun h => kt h p e s m args below meth c H locs A ls C D hl) (fun h => kf h p e s m args below meth c H locs A ls C D hl)
theorem aw_if_lt {x : Int32} {off : Int} {tgt : Nat} (hd : decode cc pc = .ok (.ifCond .lt off, 3)) (ht : (pc : Int) + off = (tgt : Int)) (kt : x < 0 → AW g y cc nL ret R E F kc ks tgt lv st ws) (kf : ¬ x < 0 → AW g y cc nL ret R E F kc ks (pc + 3) lv st ws) : AW g y cc nL ret R E F kc ks pc lv (.int x :: st) ws :=
  fun p e s m args below meth c H locs A ls C D hl => lv_if_lt C.1 C.2.1 hd ht (fun h => kt h p e s m args below meth c H locs A ls C D hl) (fun h => kf h p e s m args below meth c H locs A ls C D hl)
theorem aw_icmp_lt {x z : Int32} {off : Int} {tgt : Nat} (hd : decode cc pc = .ok (.if_icmp .lt off, 3)) (ht : (pc : Int) + off = (tgt : Int)) (kt : x < z → AW g y cc nL ret R E F kc ks tgt lv st ws) (kf : ¬ x < z → AW g y cc nL ret R E F kc ks (pc + 3) lv st ws) : AW g y cc nL ret R E F kc ks pc lv (.int z :: .int x :: st) ws :=
  fun p e s m args below meth c H locs A ls C D hl => lv_icmp_lt C.1 C.2.1 hd ht (fun h => kt h p e s m args below meth c H locs A ls C D hl) (fun h => kf h p e s m args below meth c H locs A ls C D hl)
theorem aw_if_ge {x : Int32} {off : Int} {tgt : Nat} (hd : decode cc pc = .ok (.ifCond .ge off, 3)) (ht : (pc : Int) + off = (tgt : Int)) (kt : 0 ≤ x → AW g y cc nL ret R E F kc ks tgt lv st ws) (kf : ¬ 0 ≤ x → AW g y cc nL ret R E F kc ks (pc + 3) lv st ws) : AW g y cc nL ret R E F kc ks pc lv (.int x :: st) ws :=
  fun p e s m args below meth c H locs A ls C D hl => lv_if_ge C.1 C.2.1 hd ht (fun h => kt h p e s m args below meth c H locs A ls C D hl) (fun h => kf h p e s m args below meth c H locs A ls C D hl)
theorem aw_icmp_ge {x z : Int32} {off : Int} {tgt : Nat} (hd : decode cc pc = .ok (.if_icmp .ge off, 3)) (ht : (pc : Int) + off = (tgt : Int)) (kt : z ≤ x → AW g y cc nL ret R E F kc ks tgt lv st ws) (kf : ¬ z ≤ x → AW g y cc nL ret R E F kc ks (pc + 3) lv st ws) : AW g y cc nL ret R E F kc ks pc lv (.int z :: .int x :: st) ws :=
  fun p e s m args below meth c H locs A ls C D hl => lv_icmp_ge C.1 C.2.1 hd ht (fun h => kt h p e s m args below meth c H locs A ls C D hl) (fun h => kf h p e s m args below meth c H locs A ls C D hl)
theorem aw_if_gt {x : Int32} {off : Int} {tgt : Nat} (hd : decode cc pc = .ok (.ifCond .gt off, 3)) (ht : (pc : Int) + off = (tgt : Int)) (kt : 0 < x → AW g y cc nL ret R E F kc ks tgt lv st ws) (kf : ¬ 0 < x → AW g y cc nL ret R E F kc ks (pc + 3) lv st ws) : AW g y cc nL ret R E F kc ks pc lv (.int x :: st) ws :=
  fun p e s m args below meth c H locs A ls C D hl => lv_if_gt C.1 C.2.1 hd ht (fun h => kt h p e s m args below meth c H locs A ls C D hl) (fun h => kf h p e s m args below meth c H locs A ls C D hl)
theorem aw_icmp_gt {x z : Int32} {off : Int} {tgt : Nat} (hd : decode cc pc = .ok (.if_icmp .gt off, 3)) (ht : (pc : Int) + off = (tgt : Int)) (kt : z < x → AW g y cc nL ret R E F kc ks tgt lv st ws) (kf : ¬ z < x → AW g y cc nL ret R E F kc ks (pc + 3) lv st ws) : AW g y cc nL ret R E F kc ks pc lv (.int z :: .int x :: st) ws :=
  fun p e s m args below meth c H locs A ls C D hl => lv_icmp_gt C.1 C.2.1 hd ht (fun h => kt h p e s m args below meth c H locs A ls C D hl) (fun h => kf h p e s m args below meth c H locs A ls C D hl)
theorem aw_if_le {x : Int32} {off : Int} {tgt : Nat} (hd : decode cc pc = .ok (.ifCond .le off, 3)) (ht : (pc : Int) + off = (tgt : Int)) (kt : x ≤ 0 → AW g y cc nL ret R E F kc ks tgt lv st ws) (kf : ¬ x ≤ 0 → AW g y cc nL ret R E F kc ks (pc + 3) lv st ws) : AW g y cc nL ret R E F kc ks pc lv (.int x :: st) ws :=
  fun p e s m args below meth c H locs A ls C D hl => lv_if_le C.1 C.2.1 hd ht (fun h => kt h p e s m args below meth c H locs A ls C D hl) (fun h => kf h p e s m args below meth c H locs A ls C D hl)
theorem aw_icmp_le {x z : Int32} {off : Int} {tgt : Nat} (hd : decode cc pc = .ok (.if_icmp .le off, 3)) (ht : (pc : Int) + off = (tgt : Int)) (kt : x ≤ z → AW g y cc nL ret R E F kc ks tgt lv st ws) (kf : ¬ x ≤ z → AW g y cc nL ret R E F kc ks (pc + 3) lv st ws) : AW g y cc nL ret R E F kc ks pc lv (.int z :: .int x :: st) ws :=
  fun p e s m args below meth c H locs A ls C D hl => lv_icmp_le C.1 C.2.1 hd ht (fun h => kt h p e s m args below meth c H locs A ls C D hl) (fun h => kf h p e s m args below meth c H locs A ls C D hl)
theorem aw_goto {off : Int} {tgt : Nat} (hd : decode cc pc = .ok (.goto off, 3)) (ht : (pc : Int) + off = (tgt : Int)) (k : AW g y cc nL ret R E F kc ks tgt lv st ws) : AW g y cc nL ret R E F kc ks pc lv st ws :=
  fun p e s m args below meth c H locs A ls C D hl => lv_goto C.1 C.2.1 hd ht (k p e s m args below meth c H locs A ls C D hl)
theorem aw_ret {Q : Option Value → va_W → Prop} {v : Option Value} {A : Nat → Prop} {s t : State} {H : Heap} {locs : List Loc} {args : Array Value} (D : aw_wd g A s H locs ws) (hq : Q v ws) (ht : t.heap = H) (hW : s.WarmedH t.vm) : aw_Q g Q A args s (.returned v) t :=
  ⟨⟨v, ws, rfl, hq, by rw [ht]; exact D.2.2.1, va_K.moved hW.alike D.2.1, D.2.2.2⟩, D.1.F ht⟩
theorem aw_iret {Q : Option Value → va_W → Prop} {mc ms : Nat} {v : Int32} (hd : decode cc pc = .ok (.ireturn, 1)) (h1 : kc ≤ mc) (h2 : ks ≤ ms) (hq : Q (some (.int v)) ws) : AW g y cc nL (some .int) R E (aw_F g Q mc ms) kc ks pc lv [.int v] ws :=
  fun p e s m args below meth c H locs A ls C D hl => W.widen h1 h2 (W.iret C.1 C.2.1 C.2.2.1 (fun t ht hW => aw_ret D hq ht hW) D.1.2.2 hd (hlocks := C.2.2.2.2.2.2.1))
theorem aw_lret {Q : Option Value → va_W → Prop} {mc ms : Nat} {v : Int64} (hd : decode cc pc = .ok (.lreturn, 1)) (h1 : kc ≤ mc) (h2 : ks ≤ ms) (hq : Q (some (.long v)) ws) : AW g y cc nL (some .long) R E (aw_F g Q mc ms) kc ks pc lv [.long v] ws :=
  fun p e s m args below meth c H locs A ls C D hl => W.widen h1 h2 (W.lret C.1 C.2.1 C.2.2.1 (fun t ht hW => aw_ret D hq ht hW) D.1.2.2 hd (hlocks := C.2.2.2.2.2.2.1))
theorem aw_zret {Q : Option Value → va_W → Prop} {mc ms : Nat} {v : Int32} {ty : FieldType} (hd : decode cc pc = .ok (.ireturn, 1)) (hn : narrow ty (.int v) = .int v) (h1 : kc ≤ mc) (h2 : ks ≤ ms) (hq : Q (some (.int v)) ws) : AW g y cc nL (some ty) R E (aw_F g Q mc ms) kc ks pc lv [.int v] ws :=
  fun p e s m args below meth c H locs A ls C D hl => W.widen h1 h2 (W.zret C.1 C.2.1 C.2.2.1 hn (fun t ht hW => aw_ret D hq ht hW) D.1.2.2 hd (hlocks := C.2.2.2.2.2.2.1))
theorem aw_vret {Q : Option Value → va_W → Prop} {mc ms : Nat} (hd : decode cc pc = .ok (.return_, 1)) (h1 : kc ≤ mc) (h2 : ks ≤ ms) (hq : Q none ws) : AW g y cc nL none R E (aw_F g Q mc ms) kc ks pc lv [] ws :=
  fun p e s m args below meth c H locs A ls C D hl => W.widen h1 h2 (W.vret C.1 C.2.1 C.2.2.1 (fun t ht hW => aw_ret D hq ht hW) D.1.2.2 hd (hlocks := C.2.2.2.2.2.2.1))
def aw_cc (ci : Nat) (Cn : String) (T : u_T) (N : Nat) (ty : Nat → FieldType) : Prop := vwCl[ci]? = some (Cn, T, N) ∧ (∀ w ∈ u_ws Cn T N, w ∈ aw_WS) ∧ (∀ k, k < N → parseFieldDescriptor (T k).2.2.1 = some (ty k)) ∧ (∀ a, a < N → ∀ b, b < N → a ≠ b → (T a).2.1 ≠ (T b).2.1)
theorem aw_get {ci N index a : Nat} {Cn : String} {T : u_T} {ty : Nat → FieldType} {fs : List Value} {v : Value} (K : aw_cc ci Cn T N ty) (i : Nat) (hi : i < N) (hw : Cond.fieldLink y.cls index (T i).1 (T i).2.1 (T i).2.2.1 ∈ aw_WS) (hd : decode cc pc = .ok (.getfield index, 3)) {q0 : Nat} (he : ws[q0]? = some (a, .inr (ci, fs))) (hv : fs[i]? = some v) (k : AW g y cc nL ret R E F kc ks (pc + 3) lv (v :: st) ws) : AW g y cc nL ret R E F kc ks pc lv (.ref a :: st) ws :=
  fun p e s m args below meth c H locs A ls C D hl => va_get (Ts := aw_WS) C.1 C.2.1 C.2.2.2.2.2.1 K.2.1 C.2.2.2.2.1 D.2.1 D.2.2.1 q0 he K.1 i hi (C.2.2.2.2.2.1 _ hw) (fun _ h9 => h9) hv hd (k p e s m args below meth c H locs A ls C D hl)
theorem aw_put {ci N index a : Nat} {Cn : String} {T : u_T} {ty : Nat → FieldType} {fs : List Value} {v : Value} (K : aw_cc ci Cn T N ty) (i : Nat) (hi : i < N) (hw : Cond.fieldLink y.cls index (T i).1 (T i).2.1 (T i).2.2.1 ∈ aw_WS) (hd : decode cc pc = .ok (.putfield index, 3)) {q0 : Nat} (he : ws[q0]? = some (a, .inr (ci, fs))) (hfin : (T i).2.2.2 = false) (hn : narrow (ty i) v = v) (hfit : fits (ty i) v = true) (hlen : i < fs.length) (k : AW g y cc nL ret R E F kc ks (pc + 3) lv st (ws.set q0 (a, .inr (ci, fs.set i v)))) : AW g y cc nL ret R E F kc ks pc lv (v :: .ref a :: st) ws :=
  fun p e s m args below meth c H locs A ls C D hl => va_put (Ts := aw_WS) C.1 C.2.1 C.2.2.2.2.2.1 K.2.1 ty K.2.2.1 K.2.2.2 C.2.2.2.2.1 D.2.1 D.2.2.1 D.2.2.2 D.1 q0 he K.1 i hi (C.2.2.2.2.2.1 _ hw) (fun _ h9 => h9) hfin (K.2.2.1 i hi) hn hfit hlen hd (fun H locs hP hD hS => k p e s m args below meth c H locs A ls C ⟨hS, D.2.1, hP, hD⟩ hl)
theorem aw_putF {ci N index a : Nat} {Cn : String} {T : u_T} {ty : Nat → FieldType} {fs : List Value} {v : Value} (K : aw_cc ci Cn T N ty) (i : Nat) (hi : i < N) (hw : Cond.fieldLink y.cls index (T i).1 (T i).2.1 (T i).2.2.1 ∈ aw_WS) (hd : decode cc pc = .ok (.putfield index, 3)) {q0 : Nat} (he : ws[q0]? = some (a, .inr (ci, fs))) (hfin : (T i).2.2.2 = true) (hin : y.name = "<init>") (hde : (T i).1 = y.cls) (hn : narrow (ty i) v = v) (hfit : fits (ty i) v = true) (hlen : i < fs.length) (k : AW g y cc nL ret R E F kc ks (pc + 3) lv st (ws.set q0 (a, .inr (ci, fs.set i v)))) : AW g y cc nL ret R E F kc ks pc lv (v :: .ref a :: st) ws :=
  fun p e s m args below meth c H locs A ls C D hl => va_putF (Ts := aw_WS) C.1 C.2.1 C.2.2.2.2.2.1 K.2.1 ty K.2.2.1 K.2.2.2 C.2.2.2.2.1 D.2.1 D.2.2.1 D.2.2.2 D.1 q0 he K.1 i hi (C.2.2.2.2.2.1 _ hw) (fun _ h9 => h9) hfin (C.2.2.2.2.2.2.2.1.trans hin) hde (K.2.2.1 i hi) hn hfit hlen hd (fun H locs hP hD hS => k p e s m args below meth c H locs A ls C ⟨hS, D.2.1, hP, hD⟩ hl)
theorem aw_iald {a n t0 q0 : Nat} {cA : ClassId} {f : Nat → Int32} {i : Int32} (hd : decode cc pc = .ok (.iaload, 1)) (he : ws[q0]? = some (a, .inl (cA, n, .inl f))) (ht : g.2.2[t0]? = some (cA, .int)) (hin : vp_in i n) (k : AW g y cc nL ret R E F kc ks (pc + 1) lv (.int (f i.toNatClampNeg) :: st) ws) : AW g y cc nL ret R E F kc ks pc lv (.int i :: .ref a :: st) ws :=
  fun p e s m args below meth c H locs A ls C D hl => va_iald C.1 C.2.1 D.2.1 D.2.2.1 q0 t0 he ht hin hd (k p e s m args below meth c H locs A ls C D hl)
theorem aw_iast {a n t0 q0 : Nat} {cA : ClassId} {f : Nat → Int32} {i : Int32} {x : Int32} (hd : decode cc pc = .ok (.iastore, 1)) (he : ws[q0]? = some (a, .inl (cA, n, .inl f))) (ht : g.2.2[t0]? = some (cA, .int)) (hin : vp_in i n) (k : AW g y cc nL ret R E F kc ks (pc + 1) lv st (ws.set q0 (a, .inl (cA, n, .inl (upd f i.toNatClampNeg x))))) : AW g y cc nL ret R E F kc ks pc lv (.int x :: .int i :: .ref a :: st) ws :=
  fun p e s m args below meth c H locs A ls C D hl => va_iast C.1 C.2.1 D.2.1 D.2.2.1 D.2.2.2 D.1 q0 t0 he ht hin hd (fun H locs hP hD hS => k p e s m args below meth c H locs A ls C ⟨hS, D.2.1, hP, hD⟩ hl)
theorem aw_lald {a n t0 q0 : Nat} {cA : ClassId} {f : Nat → Int64} {i : Int32} (hd : decode cc pc = .ok (.laload, 1)) (he : ws[q0]? = some (a, .inl (cA, n, .inr (.inl f)))) (ht : g.2.2[t0]? = some (cA, .long)) (hin : vp_in i n) (k : AW g y cc nL ret R E F kc ks (pc + 1) lv (.long (f i.toNatClampNeg) :: st) ws) : AW g y cc nL ret R E F kc ks pc lv (.int i :: .ref a :: st) ws :=
  fun p e s m args below meth c H locs A ls C D hl => va_lald C.1 C.2.1 D.2.1 D.2.2.1 q0 t0 he ht hin hd (k p e s m args below meth c H locs A ls C D hl)
theorem aw_last {a n t0 q0 : Nat} {cA : ClassId} {f : Nat → Int64} {i : Int32} {x : Int64} (hd : decode cc pc = .ok (.lastore, 1)) (he : ws[q0]? = some (a, .inl (cA, n, .inr (.inl f)))) (ht : g.2.2[t0]? = some (cA, .long)) (hin : vp_in i n) (k : AW g y cc nL ret R E F kc ks (pc + 1) lv st (ws.set q0 (a, .inl (cA, n, .inr (.inl (vp_updL f i.toNatClampNeg x)))))) : AW g y cc nL ret R E F kc ks pc lv (.long x :: .int i :: .ref a :: st) ws :=
  fun p e s m args below meth c H locs A ls C D hl => va_last C.1 C.2.1 D.2.1 D.2.2.1 D.2.2.2 D.1 q0 t0 he ht hin hd (fun H locs hP hD hS => k p e s m args below meth c H locs A ls C ⟨hS, D.2.1, hP, hD⟩ hl)
theorem aw_alen {a t0 q0 : Nat} {cA : ClassId} {x : vp_A} {fty : FieldType} {v : Int32} (hd : decode cc pc = .ok (.arraylength, 1)) (he : ws[q0]? = some (a, .inl (cA, x))) (ht : g.2.2[t0]? = some (cA, fty)) (hv : Int32.ofNat x.1 = v) (k : AW g y cc nL ret R E F kc ks (pc + 1) lv (.int v :: st) ws) : AW g y cc nL ret R E F kc ks pc lv (.ref a :: st) ws :=
  fun p e s m args below meth c H locs A ls C D hl => va_alen C.1 C.2.1 D.2.1 D.2.2.1 q0 t0 he ht hv hd (k p e s m args below meth c H locs A ls C D hl)
theorem aw_aald {a n t0 q0 b : Nat} {cA : ClassId} {t : FieldType} {f : Nat → Option Nat} {i : Int32} (hd : decode cc pc = .ok (.aaload, 1)) (he : ws[q0]? = some (a, .inl (cA, n, .inr (.inr (.inr (.inr f)))))) (ht : g.2.2[t0]? = some (cA, .array t)) (hin : vp_in i n) (hf : f i.toNatClampNeg = some b) (k : AW g y cc nL ret R E F kc ks (pc + 1) lv (.ref b :: st) ws) : AW g y cc nL ret R E F kc ks pc lv (.int i :: .ref a :: st) ws :=
  fun p e s m args below meth c H locs A ls C D hl => W.aald (v := va_rf (f i.toNatClampNeg)) (ty := .array t) C.1 C.2.1 (D.2.2.1 q0 _ he) ((D.2.1.2 t0 _ ht).1 n (fun j => va_rf (f j))) rfl (fun q => by cases q) (by show ¬ (i < 0 ∨ (arrV _ _ _).slots.size ≤ _); rw [arrV_size]; exact hin) (by show (arrV _ _ _).slots[_]? = _; rw [arrV_read _ _ (Nat.not_le.mp fun q => hin (Or.inr q))]) rfl rfl hd (by rw [hf]; exact (k p e s m args below meth c H locs A ls C D hl))
theorem aw_new {ci N index : Nat} {Cn : String} {T : u_T} {ty : Nat → FieldType} {fs : List Value} (K : aw_cc ci Cn T N ty) (hw1 : Cond.classLink y.cls index Cn ∈ aw_WS) (hw2 : Cond.instantiable Cn N ∈ aw_WS) (hw3 : Cond.initialized Cn ∈ aw_WS) (hd : decode cc pc = .ok (.new index, 3)) (hfs : ∀ j, j < N → defaultValue (ty j) = vp_V fs j) (hc : kc + 1 ≤ R.cells) (hs : ks + N ≤ R.slots) (k : ∀ q : Nat, AW g y cc nL ret R E F (kc + 1) (ks + N) (pc + 3) lv (.ref q :: st) (ws ++ [(q, .inr (ci, fs))])) : AW g y cc nL ret R E F kc ks pc lv st ws :=
  fun p e s m args below meth c H locs A ls C D hl => va_new (Ts := aw_WS) C.1 C.2.1 C.2.2.2.2.2.1 K.2.1 ty K.2.2.1 C.2.2.2.2.1 (C.2.2.2.2.2.1 _ hw1) (C.2.2.2.2.2.1 _ hw2) (C.2.2.2.2.2.1 _ hw3) D.2.1 D.2.2.1 D.2.2.2 D.1 C.2.2.2.2.2.2.2.2.1 K.1 hfs hc hs hd (fun q H hP hD hS => k q p e s m args below meth c H locs A ls C ⟨hS, D.2.1, hP, hD⟩ hl)
theorem aw_newai {t0 N : Nat} {cA : ClassId} {n : Int32} (hd : decode cc pc = .ok (.newarray .int, 2)) (hw : Cond.arrayClass .int ∈ aw_WS) (ht : g.2.2[t0]? = some (cA, .int)) (hn : ¬ n < 0) (hN : n.toNatClampNeg = N) (hby : N * componentBytes .int ≤ 536870912) (hc : kc + 1 ≤ R.cells) (hs : ks + N ≤ R.slots) (k : ∀ q : Nat, AW g y cc nL ret R E F (kc + 1) (ks + N) (pc + 2) lv (.ref q :: st) (ws ++ [(q, .inl (cA, N, .inl (fun _ => 0)))])) : AW g y cc nL ret R E F kc ks pc lv (.int n :: st) ws := by
  intro p e s m args below meth c H locs A ls C D hl
  refine va_newa (atype := .int) (ty := .int) (a0 := (N, .inl (fun _ => 0))) C.1 C.2.1 (C.2.2.2.2.2.1 _ hw) rfl D.2.1 D.2.2.1 D.2.2.2 D.1 C.2.2.2.2.2.2.2.2.1 (fun cA => rfl) hn hN hby hc hs hd (fun q cB H1 hK hP hD hS => ?_)
  have e1 := (hK.2 g.2.2.length (cB, .int) (by rw [List.getElem?_append_right (Nat.le_refl _), Nat.sub_self]; rfl)).2
  have e2 := (D.2.1.2 t0 _ ht).2
  have e3 : cA = cB := Option.some.inj (e2.symm.trans e1)
  subst e3
  exact k q p e s m args below meth c H1 locs A ls C ⟨hS, D.2.1, hP, hD⟩ hl
theorem aw_newal {t0 N : Nat} {cA : ClassId} {n : Int32} (hd : decode cc pc = .ok (.newarray .long, 2)) (hw : Cond.arrayClass .long ∈ aw_WS) (ht : g.2.2[t0]? = some (cA, .long)) (hn : ¬ n < 0) (hN : n.toNatClampNeg = N) (hby : N * componentBytes .long ≤ 536870912) (hc : kc + 1 ≤ R.cells) (hs : ks + N ≤ R.slots) (k : ∀ q : Nat, AW g y cc nL ret R E F (kc + 1) (ks + N) (pc + 2) lv (.ref q :: st) (ws ++ [(q, .inl (cA, N, .inr (.inl (fun _ => 0))))])) : AW g y cc nL ret R E F kc ks pc lv (.int n :: st) ws := by
  intro p e s m args below meth c H locs A ls C D hl
  refine va_newa (atype := .long) (ty := .long) (a0 := (N, .inr (.inl (fun _ => 0)))) C.1 C.2.1 (C.2.2.2.2.2.1 _ hw) rfl D.2.1 D.2.2.1 D.2.2.2 D.1 C.2.2.2.2.2.2.2.2.1 (fun cA => rfl) hn hN hby hc hs hd (fun q cB H1 hK hP hD hS => ?_)
  have e1 := (hK.2 g.2.2.length (cB, .long) (by rw [List.getElem?_append_right (Nat.le_refl _), Nat.sub_self]; rfl)).2
  have e2 := (D.2.1.2 t0 _ ht).2
  have e3 : cA = cB := Option.some.inj (e2.symm.trans e1)
  subst e3
  exact k q p e s m args below meth c H1 locs A ls C ⟨hS, D.2.1, hP, hD⟩ hl
theorem aw_mr {m : MethodId} {pc : Nat} {ls : Array Slot} {st : List Value} {x r : Nat} (h : x + 12 ≤ r) : 2 * (F0 m pc ls st).monitorRoom + x + 12 ≤ r := by
  have z : (F0 m pc ls st).monitorRoom = 0 := rfl
  rw [z]; omega
theorem aw_objInit {idx a : Nat} (hd : decode cc pc = .ok (.invokespecial idx, 3)) (w1 : Cond.methodLink y.cls idx Lib.objectInit ∈ aw_WS) (w2 : Cond.instanceMethod Lib.objectInit ∈ aw_WS) (w3 : Cond.code Lib.objectInit ⟨#[0xb1]⟩ 1 none ∈ aw_WS) (h1 : 1 ≤ R.frames) (h2 : (st.map fun v => v.category).sum + 12 ≤ R.locals) (k : AW g y cc nL ret R E F kc ks (pc + 3) lv st ws) : AW g y cc nL ret R E F kc ks pc lv (.ref a :: st) ws :=
  fun p e s m args below meth c H locs A ls C D hl => W.objInit C.1 C.2.1 C.2.2.2.2.1 (C.2.2.2.2.2.1 _ w1) (C.2.2.2.2.2.1 _ w2) (C.2.2.2.2.2.1 _ w3) rfl (hl.1.trans C.2.2.2.1.symm) rfl hd h1 (aw_mr h2) (k p e s m args below meth c H locs A ls C D hl)
def aw_card (y : MethodName) (cc : ByteArray) (nL : Nat) (ret : Option FieldType) (n : Nat) : Prop := Cond.code y cc nL ret ∈ aw_WS ∧ Cond.initialized y.cls ∈ aw_WS ∧ y.cls ≠ "java/lang/invoke/MethodHandle" ∧ y.cls ≠ "java/lang/invoke/VarHandle" ∧ (parseMethodDescriptor y.desc).map (fun d => d.parameters.length) = some n
theorem aw_after {p : Program} {e : Env} {s : State} {m : MethodId} {args : Array Value} {below : List Frame} {meth : Method} {c : Code} {H : Heap} {locs : List Loc} {A : Nat → Prop} {ls : Array Slot} {Qf : State → Prop} {Q2 : Option Value → va_W → Prop} {mc2 ms2 : Nat} {st0 rest : List Value} {a : Array Value}
    (hr : va_Run p g.1 e R s m args below meth c H locs kc ks mc2 ms2 (F0 m pc ls st0) rest (aw_Q g Q2 (va_A ws H.size) a) (va_A ws H.size)) (D : aw_wd g A s H locs ws) (hA : ∀ q : Nat, s.heap.size ≤ q → A q)
    (kk : ∀ (v : Option Value) (ws' : va_W) (H1 : Heap) (locs1 : List Loc), Q2 v ws' → aw_wd g A s H1 locs1 ws' → W p g.1 e R s m args below meth c H1 locs1 (kc + mc2) (ks + ms2) Qf (F0 m (pc + 3) ls (v.toList ++ rest))) : W p g.1 e R s m args below meth c H locs kc ks Qf (F0 m pc ls st0) := by
  have hf : ∀ q, va_A ws H.size q → A q := fun q h => by
    rcases h with ⟨k, e', hk⟩ | h
    · exact D.2.2.2.2 k _ hk
    · exact hA q (Nat.le_trans D.1.1 h)
  intro T hT X
  obtain ⟨v, st₀, t, T', L, h0, X', hL, e1, e2, ⟨⟨v', ws', hv, hq, hP, hK, hD⟩, hz, hk⟩, stp⟩ := hr T hT X
  cases hv
  rw [h0] at hz hk
  obtain ⟨t2, a1, b1⟩ := kk v ws' T'.heap (locs ++ L) hq ⟨⟨Nat.le_trans D.1.1 (by rw [e1]; exact hz), fun q h1 h2 => by rw [e1, hk q (Nat.lt_of_lt_of_le h1 D.1.1) (fun z => h2 (hf q z))]; exact D.1.2.1 q h1 h2, fun q hq => by
      rcases List.mem_append.mp hq with h | h
      · exact D.1.2.2 q h
      · exact hf _ (hL q h)⟩, D.2.1, by rw [e1]; exact hP, hD.weaken (fun _ _ _ h => hf _ h)⟩ T' rfl X'
  exact ⟨t2, stp t2 a1, b1⟩
theorem aw_pre {s : State} {H : Heap} {locs : List Loc} {A : Nat → Prop} (av : List Value) (D : aw_wd g A s H locs ws) (hN : aw_NK s) : FrameBlind (aw_Pc g av ws H.size) ∧ ∀ U : State, U.heap = H → s.WarmedH U.vm → aw_Pc g av ws H.size av.toArray U :=
  ⟨fun a U gg mk q => by
    obtain ⟨q0, q1, qP, qK, qD, qN⟩ := q
    exact ⟨q0, q1, qP, va_K.moved (u := U) (U := U.calling gg mk a) (Vm.Alike.refl U.vm) qK, qD, aw_NK.same (s := U) (U := U.calling gg mk a) rfl qN⟩, fun U hU hW => ⟨rfl, by rw [hU], by rw [hU]; exact D.2.2.1, va_K.moved hW.alike D.2.1, D.2.2.2.weaken (fun _ _ _ _ => trivial), hN.warm hW⟩⟩
theorem aw_callS {y2 : MethodName} {cc2 : ByteArray} {nL2 : Nat} {ret2 : Option FieldType} {n d2 mc2 ms2 idx : Nat} {av rest : List Value} {Q2 : Option Value → va_W → Prop} (hM : AMet g y2 cc2 nL2 ret2 d2 av ws Q2 mc2 ms2) (hK : aw_card y2 cc2 nL2 ret2 n) (w1 : Cond.methodLink y.cls idx y2 ∈ aw_WS) (w2 : Cond.static y2 ∈ aw_WS) (hd : decode cc pc = .ok (.invokestatic idx, 3)) (hn : av.length = n) (hR : d2 + 1 ≤ R.frames ∧ 8 + (nL2 + 11) + 48 * d2 ≤ R.locals) (hcat : (rest.map fun v => v.category).sum ≤ 8) (hf : kc + mc2 ≤ R.cells ∧ ks + ms2 ≤ R.slots) {st0 : List Value} (hst : st0 = av.reverse ++ rest) (k : ∀ (v : Option Value) (ws' : va_W), Q2 v ws' → AW g y cc nL ret R E F (kc + mc2) (ks + ms2) (pc + 3) lv (v.toList ++ rest) ws') : AW g y cc nL ret R E F kc ks pc lv st0 ws := by
  intro p e s m args below meth c H locs A ls C D hl
  exact aw_after (va_runS (Ts := aw_WS) (own := y.cls) (As := av) (rest := rest) ⟨C.1, C.2.1, C.2.2.2.1, C.2.2.2.2.1, C.2.2.2.2.2.1⟩ (hM H.size) ⟨callB_of n C.2.2.2.2.2.1 (aw_goodIn y2 cc2 nL2 ret2 hK.1) rfl rfl rfl (C.2.2.2.2.2.1 _ hK.2.1) (C.2.2.2.2.2.1 _ w1) hK.2.2 hR, C.2.2.2.2.2.1 _ w2⟩ (aw_pre av D C.2.2.2.2.2.2.2.2.2.2) rfl hn hl.1 hst (lv_room hcat) hd hf) D C.2.2.2.2.2.2.2.2.1 (fun v ws' H1 locs1 hq D' => k v ws' hq p e s m args below meth c H1 locs1 A ls C D' hl)
theorem aw_callSN {y2 : MethodName} {cc2 : ByteArray} {nL2 : Nat} {ret2 : Option FieldType} {n d2 mc2 ms2 idx : Nat} {av rest : List Value} {Q2 : Option Value → va_W → Prop} {host : String} (hM : AMet g y2 cc2 nL2 ret2 d2 av ws Q2 mc2 ms2) (hK : aw_card y2 cc2 nL2 ret2 n) (w1 : Cond.methodLinkNest y.cls idx y2 host ∈ aw_NW) (w2 : Cond.static y2 ∈ aw_WS) (hd : decode cc pc = .ok (.invokestatic idx, 3)) (hn : av.length = n) (hR : d2 + 1 ≤ R.frames ∧ 8 + (nL2 + 11) + 48 * d2 ≤ R.locals) (hcat : (rest.map fun v => v.category).sum ≤ 8) (hf : kc + mc2 ≤ R.cells ∧ ks + ms2 ≤ R.slots) {st0 : List Value} (hst : st0 = av.reverse ++ rest) (k : ∀ (v : Option Value) (ws' : va_W), Q2 v ws' → AW g y cc nL ret R E F (kc + mc2) (ks + ms2) (pc + 3) lv (v.toList ++ rest) ws') : AW g y cc nL ret R E F kc ks pc lv st0 ws := by
  intro p e s m args below meth c H locs A ls C D hl
  exact aw_after (va_runSN (Ts := aw_WS) (own := y.cls) (As := av) (rest := rest) ⟨C.1, C.2.1, C.2.2.2.1, C.2.2.2.2.1, C.2.2.2.2.2.1⟩ (hM H.size) ⟨va_cnB n C.2.2.2.2.2.1 (aw_goodIn y2 cc2 nL2 ret2 hK.1) rfl rfl rfl (C.2.2.2.2.2.2.2.2.2.2.1 _ w1) (C.2.2.2.2.2.1 _ hK.2.1) hK.2.2 hR, C.2.2.2.2.2.1 _ w2, trivial⟩ (aw_pre av D C.2.2.2.2.2.2.2.2.2.2) rfl hn hl.1 hst (lv_room hcat) hd hf) D C.2.2.2.2.2.2.2.2.1 (fun v ws' H1 locs1 hq D' => k v ws' hq p e s m args below meth c H1 locs1 A ls C D' hl)
theorem aw_callV {y2 : MethodName} {cc2 : ByteArray} {nL2 : Nat} {ret2 : Option FieldType} {n d2 mc2 ms2 idx : Nat} {av rest : List Value} {Q2 : Option Value → va_W → Prop} {b : Nat} {ci N q0 : Nat} {Cn : String} {T : u_T} {fs : List Value} (hM : AMet g y2 cc2 nL2 ret2 d2 (.ref b :: av) ws Q2 mc2 ms2) (hK : aw_card y2 cc2 nL2 ret2 n) (w1 : Cond.methodLink y.cls idx y2 ∈ aw_WS) (w2 : Cond.instanceMethod y2 ∈ aw_WS) (w3 : Cond.selects Cn y2 y2 ∈ aw_WS) (hc : vwCl[ci]? = some (Cn, T, N)) (he : ws[q0]? = some (b, .inr (ci, fs))) (hd : decode cc pc = .ok (.invokevirtual idx, 3)) (hn : av.length = n) (hR : d2 + 1 ≤ R.frames ∧ 8 + (nL2 + 11) + 48 * d2 ≤ R.locals) (hcat : (rest.map fun v => v.category).sum ≤ 8) (hf : kc + mc2 ≤ R.cells ∧ ks + ms2 ≤ R.slots) {st0 : List Value} (hst : st0 = av.reverse ++ .ref b :: rest) (k : ∀ (v : Option Value) (ws' : va_W), Q2 v ws' → AW g y cc nL ret R E F (kc + mc2) (ks + ms2) (pc + 3) lv (v.toList ++ rest) ws') : AW g y cc nL ret R E F kc ks pc lv st0 ws := by
  intro p e s m args below meth c H locs A ls C D hl
  exact aw_after (va_runV (Ts := aw_WS) (own := y.cls) (As := av) (rest := rest) ⟨C.1, C.2.1, C.2.2.2.1, C.2.2.2.2.1, C.2.2.2.2.2.1⟩ (hM H.size) ⟨callB_of n C.2.2.2.2.2.1 (aw_goodIn y2 cc2 nL2 ret2 hK.1) rfl rfl rfl (C.2.2.2.2.2.1 _ hK.2.1) (C.2.2.2.2.2.1 _ w1) hK.2.2 hR, C.2.2.2.2.2.1 _ w2, C.2.2.2.2.2.1 _ w3⟩ ⟨(aw_pre (.ref b :: av) D C.2.2.2.2.2.2.2.2.2.2).1, va_recv D.2.1 D.2.2.1 hc he, (aw_pre (.ref b :: av) D C.2.2.2.2.2.2.2.2.2.2).2⟩ rfl hn hl.1 hst (lv_room hcat) hd hf) D C.2.2.2.2.2.2.2.2.1 (fun v ws' H1 locs1 hq D' => k v ws' hq p e s m args below meth c H1 locs1 A ls C D' hl)
theorem aw_callVN {y2 : MethodName} {cc2 : ByteArray} {nL2 : Nat} {ret2 : Option FieldType} {n d2 mc2 ms2 idx : Nat} {av rest : List Value} {Q2 : Option Value → va_W → Prop} {b : Nat} {ci N q0 : Nat} {Cn : String} {T : u_T} {fs : List Value} {host : String} (hM : AMet g y2 cc2 nL2 ret2 d2 (.ref b :: av) ws Q2 mc2 ms2) (hK : aw_card y2 cc2 nL2 ret2 n) (w1 : Cond.methodLinkNest y.cls idx y2 host ∈ aw_NW) (w2 : Cond.instanceMethod y2 ∈ aw_WS) (w3 : Cond.selects Cn y2 y2 ∈ aw_WS) (hc : vwCl[ci]? = some (Cn, T, N)) (he : ws[q0]? = some (b, .inr (ci, fs))) (hd : decode cc pc = .ok (.invokevirtual idx, 3)) (hn : av.length = n) (hR : d2 + 1 ≤ R.frames ∧ 8 + (nL2 + 11) + 48 * d2 ≤ R.locals) (hcat : (rest.map fun v => v.category).sum ≤ 8) (hf : kc + mc2 ≤ R.cells ∧ ks + ms2 ≤ R.slots) {st0 : List Value} (hst : st0 = av.reverse ++ .ref b :: rest) (k : ∀ (v : Option Value) (ws' : va_W), Q2 v ws' → AW g y cc nL ret R E F (kc + mc2) (ks + ms2) (pc + 3) lv (v.toList ++ rest) ws') : AW g y cc nL ret R E F kc ks pc lv st0 ws := by
  intro p e s m args below meth c H locs A ls C D hl
  exact aw_after (va_runVN (Ts := aw_WS) (own := y.cls) (As := av) (rest := rest) ⟨C.1, C.2.1, C.2.2.2.1, C.2.2.2.2.1, C.2.2.2.2.2.1⟩ (hM H.size) ⟨va_cnB n C.2.2.2.2.2.1 (aw_goodIn y2 cc2 nL2 ret2 hK.1) rfl rfl rfl (C.2.2.2.2.2.2.2.2.2.2.1 _ w1) (C.2.2.2.2.2.1 _ hK.2.1) hK.2.2 hR, C.2.2.2.2.2.1 _ w2, C.2.2.2.2.2.1 _ w3⟩ ⟨(aw_pre (.ref b :: av) D C.2.2.2.2.2.2.2.2.2.2).1, va_recv D.2.1 D.2.2.1 hc he, (aw_pre (.ref b :: av) D C.2.2.2.2.2.2.2.2.2.2).2⟩ rfl hn hl.1 hst (lv_room hcat) hd hf) D C.2.2.2.2.2.2.2.2.1 (fun v ws' H1 locs1 hq D' => k v ws' hq p e s m args below meth c H1 locs1 A ls C D' hl)
theorem aw_callI {y2 : MethodName} {cc2 : ByteArray} {nL2 : Nat} {n d2 mc2 ms2 idx : Nat} {av rest : List Value} {Q2 : Option Value → va_W → Prop} {b : Nat} (hM : AMet g y2 cc2 nL2 none d2 (.ref b :: av) ws Q2 mc2 ms2) (hK : aw_card y2 cc2 nL2 none n) (w1 : Cond.methodLink y.cls idx y2 ∈ aw_WS) (w2 : Cond.instanceMethod y2 ∈ aw_WS) (hin : y2.name = "<init>") (hd : decode cc pc = .ok (.invokespecial idx, 3)) (hn : av.length = n) (hR : d2 + 1 ≤ R.frames ∧ 8 + (nL2 + 11) + 48 * d2 ≤ R.locals) (hcat : (rest.map fun v => v.category).sum ≤ 8) (hf : kc + mc2 ≤ R.cells ∧ ks + ms2 ≤ R.slots) {st0 : List Value} (hst : st0 = av.reverse ++ .ref b :: rest) (k : ∀ (v : Option Value) (ws' : va_W), Q2 v ws' → AW g y cc nL ret R E F (kc + mc2) (ks + ms2) (pc + 3) lv (v.toList ++ rest) ws') : AW g y cc nL ret R E F kc ks pc lv st0 ws := by
  intro p e s m args below meth c H locs A ls C D hl
  exact aw_after (va_runI (Ts := aw_WS) (own := y.cls) (As := av) (rest := rest) ⟨C.1, C.2.1, C.2.2.2.1, C.2.2.2.2.1, C.2.2.2.2.2.1⟩ (hM H.size) ⟨callB_of n C.2.2.2.2.2.1 (aw_goodIn y2 cc2 nL2 none hK.1) rfl rfl rfl (C.2.2.2.2.2.1 _ hK.2.1) (C.2.2.2.2.2.1 _ w1) hK.2.2 hR, hin, C.2.2.2.2.2.1 _ w2⟩ (aw_pre (.ref b :: av) D C.2.2.2.2.2.2.2.2.2.2) rfl hn hl.1 hst (lv_room hcat) hd hf) D C.2.2.2.2.2.2.2.2.1 (fun v ws' H1 locs1 hq D' => k v ws' hq p e s m args below meth c H1 locs1 A ls C D' hl)
theorem aw_callIN {y2 : MethodName} {cc2 : ByteArray} {nL2 : Nat} {n d2 mc2 ms2 idx : Nat} {av rest : List Value} {Q2 : Option Value → va_W → Prop} {b : Nat} {host : String} (hM : AMet g y2 cc2 nL2 none d2 (.ref b :: av) ws Q2 mc2 ms2) (hK : aw_card y2 cc2 nL2 none n) (w1 : Cond.methodLinkNest y.cls idx y2 host ∈ aw_NW) (w2 : Cond.instanceMethod y2 ∈ aw_WS) (hin : y2.name = "<init>") (hd : decode cc pc = .ok (.invokespecial idx, 3)) (hn : av.length = n) (hR : d2 + 1 ≤ R.frames ∧ 8 + (nL2 + 11) + 48 * d2 ≤ R.locals) (hcat : (rest.map fun v => v.category).sum ≤ 8) (hf : kc + mc2 ≤ R.cells ∧ ks + ms2 ≤ R.slots) {st0 : List Value} (hst : st0 = av.reverse ++ .ref b :: rest) (k : ∀ (v : Option Value) (ws' : va_W), Q2 v ws' → AW g y cc nL ret R E F (kc + mc2) (ks + ms2) (pc + 3) lv (v.toList ++ rest) ws') : AW g y cc nL ret R E F kc ks pc lv st0 ws := by
  intro p e s m args below meth c H locs A ls C D hl
  exact aw_after (va_runIN (Ts := aw_WS) (own := y.cls) (As := av) (rest := rest) ⟨C.1, C.2.1, C.2.2.2.1, C.2.2.2.2.1, C.2.2.2.2.2.1⟩ (hM H.size) ⟨va_cnB n C.2.2.2.2.2.1 (aw_goodIn y2 cc2 nL2 none hK.1) rfl rfl rfl (C.2.2.2.2.2.2.2.2.2.2.1 _ w1) (C.2.2.2.2.2.1 _ hK.2.1) hK.2.2 hR, hin, C.2.2.2.2.2.1 _ w2⟩ (aw_pre (.ref b :: av) D C.2.2.2.2.2.2.2.2.2.2) rfl hn hl.1 hst (lv_room hcat) hd hf) D C.2.2.2.2.2.2.2.2.1 (fun v ws' H1 locs1 hq D' => k v ws' hq p e s m args below meth c H1 locs1 A ls C D' hl)
def aw_EX (b L : Nat) (xs : Nat → Int32) : (Nat → Prop) → State → Array Value → Prop := fun A s args => va_X b L xs s s.heap ∧ b < s.heap.size ∧ ¬ A b ∧ args = #[Value.ref b] ∧ ∀ q, A q → s.heap.size ≤ q
theorem aw_sld {b L : Nat} {xs : Nat → Int32} {i : Int32} (hd : decode cc pc = .ok (.iaload, 1)) (hin : vp_in i L) (k : AW g y cc nL ret R (aw_EX b L xs) F kc ks (pc + 1) lv (.int (xs i.toNatClampNeg) :: st) ws) : AW g y cc nL ret R (aw_EX b L xs) F kc ks pc lv (.int i :: .ref b :: st) ws :=
  fun p e s m args below meth c H locs A ls C D hl => va_sld C.1 C.2.1 C.2.2.2.2.2.2.2.2.2.1.1 C.2.2.2.2.2.2.2.2.2.1.2.1 C.2.2.2.2.2.2.2.2.2.1.2.2.1 D.1 hin hd (k p e s m args below meth c H locs A ls C D hl)
theorem aw_slen {b L : Nat} {xs : Nat → Int32} (hd : decode cc pc = .ok (.arraylength, 1)) (k : AW g y cc nL ret R (aw_EX b L xs) F kc ks (pc + 1) lv (.int (Int32.ofNat L) :: st) ws) : AW g y cc nL ret R (aw_EX b L xs) F kc ks pc lv (.ref b :: st) ws :=
  fun p e s m args below meth c H locs A ls C D hl => va_slen C.1 C.2.1 C.2.2.2.2.2.2.2.2.2.1.1 C.2.2.2.2.2.2.2.2.2.1.2.1 C.2.2.2.2.2.2.2.2.2.1.2.2.1 D.1 hd (k p e s m args below meth c H locs A ls C D hl)
theorem aw_tableOut {dflt lo hi : Int} {offs : Array Int} {len : Nat} {x : Int32} {tgt : Nat} (hd : decode cc pc = .ok (.tableswitch dflt lo hi offs, len)) (h : x.toInt < lo ∨ hi < x.toInt) (ht : (pc : Int) + dflt = (tgt : Int)) (k : AW g y cc nL ret R E F kc ks tgt lv st ws) : AW g y cc nL ret R E F kc ks pc lv (.int x :: st) ws :=
  fun p e s m args below meth c H locs A ls C D hl => lv_tableOut C.1 C.2.1 hd h ht (k p e s m args below meth c H locs A ls C D hl)
theorem aw_tableIn {dflt lo hi off : Int} {offs : Array Int} {len : Nat} {x : Int32} {tgt : Nat} (hd : decode cc pc = .ok (.tableswitch dflt lo hi offs, len)) (h1 : ¬ x.toInt < lo) (h2 : ¬ hi < x.toInt) (ho : offs[(x.toInt - lo).toNat]? = some off) (ht : (pc : Int) + off = (tgt : Int)) (k : AW g y cc nL ret R E F kc ks tgt lv st ws) : AW g y cc nL ret R E F kc ks pc lv (.int x :: st) ws :=
  fun p e s m args below meth c H locs A ls C D hl => lv_tableIn C.1 C.2.1 hd h1 h2 ho ht (k p e s m args below meth c H locs A ls C D hl)
def bI (b : Bool) : Int32 := if b then 1 else 0
def lI (z : Int) : Int64 := Int64.ofInt z
def fup {α : Type} (f : Nat → α) (k : Nat) (x : α) : Nat → α := fun j => if j = k then x else f j
theorem fup_s {α : Type} (f : Nat → α) (k : Nat) (x : α) : fup f k x k = x := if_pos rfl
theorem fup_n {α : Type} {f : Nat → α} {k j : Nat} {x : α} (h : j ≠ k) : fup f k x j = f j := if_neg h
theorem aw_setS {ws : va_W} {q0 : Nat} {x z : Nat × va_E} (he : ws[q0]? = some x) : (ws.set q0 z)[q0]? = some z := by
  rw [List.getElem?_set_self]
  exact (List.getElem?_eq_some_iff.mp he).1
theorem aw_setN {ws : va_W} {q0 : Nat} {z : Nat × va_E} : ∀ j, j ≠ q0 → (ws.set q0 z)[j]? = ws[j]? := fun j h => List.getElem?_set_ne (Ne.symm h)
theorem upd_fup (f : Nat → Int32) (k : Nat) (x : Int32) : upd f k x = fup f k x := rfl
theorem updL_fup (f : Nat → Int64) (k : Nat) (x : Int64) : vp_updL f k x = fup f k x := rfl
theorem aw_nmi {x z : Int32} (h : x = z) (k : AW g y cc nL ret R E F kc ks pc lv (.int z :: st) ws) : AW g y cc nL ret R E F kc ks pc lv (.int x :: st) ws := by rw [h]; exact k
theorem aw_nml {x z : Int64} (h : x = z) (k : AW g y cc nL ret R E F kc ks pc lv (.long z :: st) ws) : AW g y cc nL ret R E F kc ks pc lv (.long x :: st) ws := by rw [h]; exact k
theorem aw_iinc1 {i a : Nat} {lv' : List (Nat × Value)} (hd : decode cc pc = .ok (.iinc i 1, 3)) (hj : lv.lookup i = some (.int (nI a))) (hn : i < nL) (hl' : aw_st1 lv i (.int (nI (a + 1))) = lv') (k : AW g y cc nL ret R E F kc ks (pc + 3) lv' st ws) : AW g y cc nL ret R E F kc ks pc lv st ws :=
  aw_iinc hd hj (nI_1 a) hn hl' k
theorem aw_putN {ci N index a : Nat} {Cn : String} {T : u_T} {ty : Nat → FieldType} {fs : List Value} {v : Value} (K : aw_cc ci Cn T N ty) (i : Nat) (hi : i < N) (hw : Cond.fieldLink y.cls index (T i).1 (T i).2.1 (T i).2.2.1 ∈ aw_WS) (hd : decode cc pc = .ok (.putfield index, 3)) {q0 : Nat} (he : ws[q0]? = some (a, .inr (ci, fs))) (hfin : (T i).2.2.2 = false) (hn : narrow (ty i) v = v) (hfit : fits (ty i) v = true) (hlen : i < fs.length) (k : ∀ ws' : va_W, ws'[q0]? = some (a, .inr (ci, fs.set i v)) → (∀ j, j ≠ q0 → ws'[j]? = ws[j]?) → ws'.length = ws.length → AW g y cc nL ret R E F kc ks (pc + 3) lv st ws') : AW g y cc nL ret R E F kc ks pc lv (v :: .ref a :: st) ws :=
  aw_put K i hi hw hd he hfin hn hfit hlen (k _ (aw_setS he) aw_setN List.length_set)
theorem aw_putFN {ci N index a : Nat} {Cn : String} {T : u_T} {ty : Nat → FieldType} {fs : List Value} {v : Value} (K : aw_cc ci Cn T N ty) (i : Nat) (hi : i < N) (hw : Cond.fieldLink y.cls index (T i).1 (T i).2.1 (T i).2.2.1 ∈ aw_WS) (hd : decode cc pc = .ok (.putfield index, 3)) {q0 : Nat} (he : ws[q0]? = some (a, .inr (ci, fs))) (hfin : (T i).2.2.2 = true) (hin : y.name = "<init>") (hde : (T i).1 = y.cls) (hn : narrow (ty i) v = v) (hfit : fits (ty i) v = true) (hlen : i < fs.length) (k : ∀ ws' : va_W, ws'[q0]? = some (a, .inr (ci, fs.set i v)) → (∀ j, j ≠ q0 → ws'[j]? = ws[j]?) → ws'.length = ws.length → AW g y cc nL ret R E F kc ks (pc + 3) lv st ws') : AW g y cc nL ret R E F kc ks pc lv (v :: .ref a :: st) ws :=
  aw_putF K i hi hw hd he hfin hin hde hn hfit hlen (k _ (aw_setS he) aw_setN List.length_set)
theorem aw_ialdN {a n t0 q0 j : Nat} {cA : ClassId} {f : Nat → Int32} (hd : decode cc pc = .ok (.iaload, 1)) (he : ws[q0]? = some (a, .inl (cA, n, .inl f))) (ht : g.2.2[t0]? = some (cA, .int)) (hj : j < n) (hn : n < 2 ^ 31) (k : AW g y cc nL ret R E F kc ks (pc + 1) lv (.int (f j) :: st) ws) : AW g y cc nL ret R E F kc ks pc lv (.int (nI j) :: .ref a :: st) ws :=
  aw_iald hd he ht (vp_in_nI hj hn) (by rw [nI_clamp (Nat.lt_trans hj hn)]; exact k)
theorem aw_iastN {a n t0 q0 j : Nat} {cA : ClassId} {f : Nat → Int32} {x : Int32} (hd : decode cc pc = .ok (.iastore, 1)) (he : ws[q0]? = some (a, .inl (cA, n, .inl f))) (ht : g.2.2[t0]? = some (cA, .int)) (hj : j < n) (hn : n < 2 ^ 31) (k : ∀ ws' : va_W, ws'[q0]? = some (a, .inl (cA, n, .inl (fup f j x))) → (∀ j, j ≠ q0 → ws'[j]? = ws[j]?) → ws'.length = ws.length → AW g y cc nL ret R E F kc ks (pc + 1) lv st ws') : AW g y cc nL ret R E F kc ks pc lv (.int x :: .int (nI j) :: .ref a :: st) ws :=
  aw_iast hd he ht (vp_in_nI hj hn) (by rw [nI_clamp (Nat.lt_trans hj hn)]; exact k _ (aw_setS he) aw_setN List.length_set)
theorem aw_laldN {a n t0 q0 j : Nat} {cA : ClassId} {f : Nat → Int64} (hd : decode cc pc = .ok (.laload, 1)) (he : ws[q0]? = some (a, .inl (cA, n, .inr (.inl f)))) (ht : g.2.2[t0]? = some (cA, .long)) (hj : j < n) (hn : n < 2 ^ 31) (k : AW g y cc nL ret R E F kc ks (pc + 1) lv (.long (f j) :: st) ws) : AW g y cc nL ret R E F kc ks pc lv (.int (nI j) :: .ref a :: st) ws :=
  aw_lald hd he ht (vp_in_nI hj hn) (by rw [nI_clamp (Nat.lt_trans hj hn)]; exact k)
theorem aw_lastN {a n t0 q0 j : Nat} {cA : ClassId} {f : Nat → Int64} {x : Int64} (hd : decode cc pc = .ok (.lastore, 1)) (he : ws[q0]? = some (a, .inl (cA, n, .inr (.inl f)))) (ht : g.2.2[t0]? = some (cA, .long)) (hj : j < n) (hn : n < 2 ^ 31) (k : ∀ ws' : va_W, ws'[q0]? = some (a, .inl (cA, n, .inr (.inl (fup f j x)))) → (∀ j, j ≠ q0 → ws'[j]? = ws[j]?) → ws'.length = ws.length → AW g y cc nL ret R E F kc ks (pc + 1) lv st ws') : AW g y cc nL ret R E F kc ks pc lv (.long x :: .int (nI j) :: .ref a :: st) ws :=
  aw_last hd he ht (vp_in_nI hj hn) (by rw [nI_clamp (Nat.lt_trans hj hn)]; exact k _ (aw_setS he) aw_setN List.length_set)
theorem aw_aaldN {a n t0 q0 b j : Nat} {cA : ClassId} {t : FieldType} {f : Nat → Option Nat} (hd : decode cc pc = .ok (.aaload, 1)) (he : ws[q0]? = some (a, .inl (cA, n, .inr (.inr (.inr (.inr f)))))) (ht : g.2.2[t0]? = some (cA, .array t)) (hj : j < n) (hn : n < 2 ^ 31) (hf : f j = some b) (k : AW g y cc nL ret R E F kc ks (pc + 1) lv (.ref b :: st) ws) : AW g y cc nL ret R E F kc ks pc lv (.int (nI j) :: .ref a :: st) ws :=
  aw_aald hd he ht (vp_in_nI hj hn) (by rw [nI_clamp (Nat.lt_trans hj hn)]; exact hf) k
theorem aw_icmp_eqN {a b : Nat} {off : Int} {tgt : Nat} (hd : decode cc pc = .ok (.if_icmp .eq off, 3)) (ht : (pc : Int) + off = (tgt : Int)) (ha : a < 2 ^ 31) (hb : b < 2 ^ 31) (kt : a = b → AW g y cc nL ret R E F kc ks tgt lv st ws) (kf : ¬ a = b → AW g y cc nL ret R E F kc ks (pc + 3) lv st ws) : AW g y cc nL ret R E F kc ks pc lv (.int (nI b) :: .int (nI a) :: st) ws :=
  aw_icmp_eq hd ht (fun h => kt ((nI_eq ha hb).mp h)) (fun h => kf (fun q => h ((nI_eq ha hb).mpr q)))
theorem aw_icmp_neN {a b : Nat} {off : Int} {tgt : Nat} (hd : decode cc pc = .ok (.if_icmp .ne off, 3)) (ht : (pc : Int) + off = (tgt : Int)) (ha : a < 2 ^ 31) (hb : b < 2 ^ 31) (kt : ¬ a = b → AW g y cc nL ret R E F kc ks tgt lv st ws) (kf : a = b → AW g y cc nL ret R E F kc ks (pc + 3) lv st ws) : AW g y cc nL ret R E F kc ks pc lv (.int (nI b) :: .int (nI a) :: st) ws :=
  aw_icmp_ne hd ht (fun h => kt (fun q => h ((nI_eq ha hb).mpr q))) (fun h => kf ((nI_eq ha hb).mp h))
theorem aw_icmp_ltN {a b : Nat} {off : Int} {tgt : Nat} (hd : decode cc pc = .ok (.if_icmp .lt off, 3)) (ht : (pc : Int) + off = (tgt : Int)) (ha : a < 2 ^ 31) (hb : b < 2 ^ 31) (kt : a < b → AW g y cc nL ret R E F kc ks tgt lv st ws) (kf : b ≤ a → AW g y cc nL ret R E F kc ks (pc + 3) lv st ws) : AW g y cc nL ret R E F kc ks pc lv (.int (nI b) :: .int (nI a) :: st) ws :=
  aw_icmp_lt hd ht (fun h => kt ((nI_ltI ha hb).mp h)) (fun h => kf (Nat.not_lt.mp (fun q => h ((nI_ltI ha hb).mpr q))))
theorem aw_icmp_geN {a b : Nat} {off : Int} {tgt : Nat} (hd : decode cc pc = .ok (.if_icmp .ge off, 3)) (ht : (pc : Int) + off = (tgt : Int)) (ha : a < 2 ^ 31) (hb : b < 2 ^ 31) (kt : b ≤ a → AW g y cc nL ret R E F kc ks tgt lv st ws) (kf : a < b → AW g y cc nL ret R E F kc ks (pc + 3) lv st ws) : AW g y cc nL ret R E F kc ks pc lv (.int (nI b) :: .int (nI a) :: st) ws :=
  aw_icmp_ge hd ht (fun h => kt ((nI_leI hb ha).mp h)) (fun h => kf (Nat.not_le.mp (fun q => h ((nI_leI hb ha).mpr q))))
theorem aw_icmp_gtN {a b : Nat} {off : Int} {tgt : Nat} (hd : decode cc pc = .ok (.if_icmp .gt off, 3)) (ht : (pc : Int) + off = (tgt : Int)) (ha : a < 2 ^ 31) (hb : b < 2 ^ 31) (kt : b < a → AW g y cc nL ret R E F kc ks tgt lv st ws) (kf : a ≤ b → AW g y cc nL ret R E F kc ks (pc + 3) lv st ws) : AW g y cc nL ret R E F kc ks pc lv (.int (nI b) :: .int (nI a) :: st) ws :=
  aw_icmp_gt hd ht (fun h => kt ((nI_ltI hb ha).mp h)) (fun h => kf (Nat.not_lt.mp (fun q => h ((nI_ltI hb ha).mpr q))))
theorem aw_icmp_leN {a b : Nat} {off : Int} {tgt : Nat} (hd : decode cc pc = .ok (.if_icmp .le off, 3)) (ht : (pc : Int) + off = (tgt : Int)) (ha : a < 2 ^ 31) (hb : b < 2 ^ 31) (kt : a ≤ b → AW g y cc nL ret R E F kc ks tgt lv st ws) (kf : b < a → AW g y cc nL ret R E F kc ks (pc + 3) lv st ws) : AW g y cc nL ret R E F kc ks pc lv (.int (nI b) :: .int (nI a) :: st) ws :=
  aw_icmp_le hd ht (fun h => kt ((nI_leI ha hb).mp h)) (fun h => kf (Nat.not_le.mp (fun q => h ((nI_leI ha hb).mpr q))))
theorem aw_if_eqN {a : Nat} {off : Int} {tgt : Nat} (hd : decode cc pc = .ok (.ifCond .eq off, 3)) (ht : (pc : Int) + off = (tgt : Int)) (ha : a < 2 ^ 31) (kt : a = 0 → AW g y cc nL ret R E F kc ks tgt lv st ws) (kf : ¬ a = 0 → AW g y cc nL ret R E F kc ks (pc + 3) lv st ws) : AW g y cc nL ret R E F kc ks pc lv (.int (nI a) :: st) ws :=
  aw_if_eq hd ht (fun h => kt ((nI_eq ha (by decide)).mp (h.trans nI_0.symm))) (fun h => kf (fun q => h (by rw [q]; exact nI_0)))
theorem aw_if_neN {a : Nat} {off : Int} {tgt : Nat} (hd : decode cc pc = .ok (.ifCond .ne off, 3)) (ht : (pc : Int) + off = (tgt : Int)) (ha : a < 2 ^ 31) (kt : ¬ a = 0 → AW g y cc nL ret R E F kc ks tgt lv st ws) (kf : a = 0 → AW g y cc nL ret R E F kc ks (pc + 3) lv st ws) : AW g y cc nL ret R E F kc ks pc lv (.int (nI a) :: st) ws :=
  aw_if_ne hd ht (fun h => kt (fun q => h (by rw [q]; exact nI_0))) (fun h => kf ((nI_eq ha (by decide)).mp (h.trans nI_0.symm)))
theorem aw_if_gtN {a : Nat} {off : Int} {tgt : Nat} (hd : decode cc pc = .ok (.ifCond .gt off, 3)) (ht : (pc : Int) + off = (tgt : Int)) (ha : a < 2 ^ 31) (kt : 0 < a → AW g y cc nL ret R E F kc ks tgt lv st ws) (kf : a = 0 → AW g y cc nL ret R E F kc ks (pc + 3) lv st ws) : AW g y cc nL ret R E F kc ks pc lv (.int (nI a) :: st) ws :=
  aw_if_gt hd ht (fun h => kt ((nI_ltI (by decide) ha).mp (by rw [nI_0]; exact h))) (fun h => kf (Nat.eq_zero_of_not_pos (fun q => h (by rw [← nI_0]; exact (nI_ltI (by decide) ha).mpr q))))
theorem aw_if_leN {a : Nat} {off : Int} {tgt : Nat} (hd : decode cc pc = .ok (.ifCond .le off, 3)) (ht : (pc : Int) + off = (tgt : Int)) (ha : a < 2 ^ 31) (kt : a = 0 → AW g y cc nL ret R E F kc ks tgt lv st ws) (kf : 0 < a → AW g y cc nL ret R E F kc ks (pc + 3) lv st ws) : AW g y cc nL ret R E F kc ks pc lv (.int (nI a) :: st) ws :=
  aw_if_le hd ht (fun h => kt (by have q := (nI_leI ha (b := 0) (by decide)).mp (by rw [nI_0]; exact h); omega)) (fun h => kf (Nat.pos_of_ne_zero (fun q => h (by rw [q, nI_0]; exact Int32.le_refl 0))))
theorem aw_if_eqB {b : Bool} {off : Int} {tgt : Nat} (hd : decode cc pc = .ok (.ifCond .eq off, 3)) (ht : (pc : Int) + off = (tgt : Int)) (kt : b = false → AW g y cc nL ret R E F kc ks tgt lv st ws) (kf : b = true → AW g y cc nL ret R E F kc ks (pc + 3) lv st ws) : AW g y cc nL ret R E F kc ks pc lv (.int (bI b) :: st) ws :=
  aw_if_eq hd ht (fun h => kt (by cases b <;> simp_all [bI])) (fun h => kf (by cases b <;> simp_all [bI]))
theorem aw_if_neB {b : Bool} {off : Int} {tgt : Nat} (hd : decode cc pc = .ok (.ifCond .ne off, 3)) (ht : (pc : Int) + off = (tgt : Int)) (kt : b = true → AW g y cc nL ret R E F kc ks tgt lv st ws) (kf : b = false → AW g y cc nL ret R E F kc ks (pc + 3) lv st ws) : AW g y cc nL ret R E F kc ks pc lv (.int (bI b) :: st) ws :=
  aw_if_ne hd ht (fun h => kt (by cases b <;> simp_all [bI])) (fun h => kf (by cases b <;> simp_all [bI]))
end AWR
end
section
-- the first rows (vr_, va_mna) are pasted from claim/NAMES.whole.lean.txt
/-! ===== BEGIN new T[n][m]: the outer array a place, the inner ones among the pooled ===== -/
/-- f, but v at every address of l -/
def vr_up {α : Type} (f : Nat → α) (l : List Nat) (v : α) : Nat → α := fun a => if a ∈ l then v else f a
theorem vr_up_in {α : Type} {f : Nat → α} {l : List Nat} {v : α} {a : Nat} (h : a ∈ l) : vr_up f l v a = v := if_pos h
theorem vr_up_ne {α : Type} {f : Nat → α} {l : List Nat} {v : α} {a : Nat} (h : a ∉ l) : vr_up f l v a = f a := if_neg h
theorem vr_rows {L l : List Nat} {f : Nat → va_E} {e : va_E} (h : ∀ a, a ∈ l → a ∉ L) : va_pl L f ++ l.map (fun a => (a, e)) = va_pl (L ++ l) (vr_up f l e) := by
  unfold va_pl
  rw [List.map_append]
  congr 1
  · apply List.map_congr_left
    intro a ha
    rw [vr_up_ne (fun q => h a q ha)]
  · apply List.map_congr_left
    intro a ha
    rw [vr_up_in ha]
theorem vr_lay {X rows : va_W} {x : Nat × va_E} {pl : va_W} {D : va_G} {cl : List vw_C} {H : Heap} (hP : va_P D cl (((X ++ pl) ++ [x]) ++ rows) H) : va_P D cl ((X ++ [x]) ++ (pl ++ rows)) H := by
  rw [List.append_assoc (X ++ pl)] at hP
  have h := va_P.swap hP
  rw [← List.append_assoc X] at h
  have h2 := va_P.swap h
  rw [List.append_assoc (X ++ [x])] at h2
  exact h2
theorem vr_layD {X rows : va_W} {x : Nat × va_E} {pl : va_W} {A : Nat → Prop} (hD : va_D A (((X ++ pl) ++ [x]) ++ rows)) : va_D A ((X ++ [x]) ++ (pl ++ rows)) := by
  rw [List.append_assoc (X ++ pl)] at hD
  have h := va_D.swap hD
  rw [← List.append_assoc X] at h
  have h2 := va_D.swap h
  rw [List.append_assoc (X ++ [x])] at h2
  exact h2
theorem vr_outer (c : ClassId) (N h0 : Nat) : ∀ i : Nat, Jvm.Free.Multi.outerC c N h0 i = arrV c N (fun j => va_rf (if j < i then some (h0 + 1 + j) else none))
  | 0 => by
    show ({ cls := c, slots := Array.replicate N .null, vm := .none } : Cell) = _
    rw [arrV_new]
    refine congrArg (arrV c N) (funext fun j => ?_)
    simp [va_rf]
  | i + 1 => by
    show (Jvm.Free.Multi.outerC c N h0 i).setSlot i (.ref (h0 + 1 + i)) = _
    rw [vr_outer c N h0 i, arrV_store]
    refine congrArg (arrV c N) (funext fun j => ?_)
    by_cases e : j = i
    · subst e
      simp [updV, va_rf]
    · by_cases h : j < i
      · simp [updV, e, h, Nat.lt_succ_of_lt h]
      · simp [updV, e, h, show ¬ j < i + 1 by omega]
section VGM
variable {p : Program} {l : Launch} {e : Env} {R : Room} {s : State} {m : MethodId} {args : Array Value} {below : List Frame} {meth : Method} {c : Code} {H : Heap} {locs : List Loc} {cells slots : Nat} {Q : State → Prop}
variable {cc : ByteArray} {pc : Nat} {ls : Array Slot} {rest : List Value} {D : va_G} {cl : List vw_C} {A : Nat → Prop} {a : Nat} {tys : List (ClassId × FieldType)} {ws : va_W} {H0 : Heap}
theorem va_mna {X : va_W} {L : List Nat} {f : Nat → va_E} {cc : ByteArray} (hexec : p.tables.exec = Jvm.exec) (hb : c.code = cc) {own : String} {index : Nat} {ty : FieldType} {cy : ClassId} (hown : s.vm.findClass own = some m.cls) (hclink : (Cond.classLink own index ("[" ++ (FieldType.array ty).toString)).before args s = true) (hover : va_AOA ty s) (harr : (Cond.arrayClass ty).before args s = true) (hcy : s.vm.findClass (FieldType.array ty).toString = some cy)
    (hK : va_K D cl tys s) (hP : va_P D cl (X ++ va_pl L f) H) (hD : va_D A (X ++ va_pl L f)) (hS : va_S A H0 H locs) (hA : ∀ q, H0.size ≤ q → A q) {n k : Int32} {N' K' : Nat} {z : vp_A} (hn : ¬ n < 0) (hk : ¬ k < 0) (hN : n.toNatClampNeg = N') (hM : k.toNatClampNeg = K')
    (hb1 : N' * 4 ≤ 536870912) (hb2 : K' * componentBytes ty ≤ 536870912) (hb3 : K' ≤ 536870912) (hdf : fits ty (defaultValue ty) = true) (hdd : (defaultValue ty).isDefault = true) (hcells : cells + (1 + N') ≤ R.cells) (hslots : slots + (N' + N' * K') ≤ R.slots) (hz : ∀ c : ClassId, Jvm.Free.Multi.innerC c K' (defaultValue ty) = vp_cell c z) (hdg : decode cc pc = .ok (.multianewarray index 2, 4))
    (kk : ∀ (q : Nat) (r : Nat → Nat) (cA : ClassId) (H1 : Heap), (∀ i j : Nat, i < N' → j < N' → r i = r j → i = j) → (∀ i : Nat, i < N' → r i ∉ L) → va_K D cl (tys ++ [(cA, .array ty)]) s →
      va_P D cl ((X ++ [(q, .inl (cA, N', .inr (.inr (.inr (.inr (fun i => if i < N' then some (r i) else none))))))]) ++ va_pl (L ++ (List.range N').map r) (vr_up f ((List.range N').map r) (.inl (cy, z)))) H1 → va_D A ((X ++ [(q, .inl (cA, N', .inr (.inr (.inr (.inr (fun i => if i < N' then some (r i) else none))))))]) ++ va_pl (L ++ (List.range N').map r) (vr_up f ((List.range N').map r) (.inl (cy, z)))) → va_S A H0 H1 locs →
      W p l e R s m args below meth c H1 locs (cells + 1 + N') (slots + N' + N' * K') Q (F0 m (pc + 4) ls (.ref q :: rest))) : W p l e R s m args below meth c H locs cells slots Q (F0 m pc ls (.int k :: .int n :: rest)) := by
  subst hN
  subst hM
  intro T hT Xs
  obtain ⟨vm₁, cA, comp, -, fA, fC, hO, -, X', step⟩ := Xs.multianewarray2F hexec hown hclink (va_AOA.use hover) harr (g := F0 m pc ls (.int k :: .int n :: rest)) rfl (by rw [hb]; exact hdg) rfl hn hk hb1 hb2 hb3 hdf hdd hcells hslots
  have ec : some cy = some comp := hcy.symm.trans fC
  cases ec
  generalize hF : Jvm.Free.Multi.fill (T.setVm vm₁) cA cy n.toNatClampNeg k.toNatClampNeg (defaultValue ty) n.toNatClampNeg = F at X' step
  have hTh : (T.setVm vm₁).heap = H := hT
  obtain ⟨f1, f2, -, -⟩ := Jvm.Free.Multi.fill_facts (T.setVm vm₁) cA cy n.toNatClampNeg k.toNatClampNeg (defaultValue ty) n.toNatClampNeg
  rw [hF, hTh] at f1 f2
  have hold : ∀ x : Nat, x < H.size → F.heap[x]? = H[x]? := fun x hx => by
    have := Jvm.Free.Multi.fill_old (T.setVm vm₁) cA cy n.toNatClampNeg k.toNatClampNeg (defaultValue ty) (a := x) (by rw [hTh]; exact hx) n.toNatClampNeg
    rw [hF, hTh] at this
    exact this
  have hrow : ∀ j : Nat, j < n.toNatClampNeg → F.heap[H.size + 1 + j]? = some (vp_cell cy z) := fun j hj => by
    have := Jvm.Free.Multi.fill_inner (T.setVm vm₁) cA cy n.toNatClampNeg k.toNatClampNeg (defaultValue ty) n.toNatClampNeg j hj
    rw [hF, hTh, hz] at this
    exact this
  have hout : Jvm.Free.Multi.outerC cA n.toNatClampNeg H.size n.toNatClampNeg = vp_cell cA (n.toNatClampNeg, .inr (.inr (.inr (.inr (fun i => if i < n.toNatClampNeg then some (H.size + 1 + i) else none))))) := by
    rw [vp_cell_q]
    exact vr_outer cA n.toNatClampNeg H.size n.toNatClampNeg
  rw [hout] at f2
  have hlt : ∀ a, a ∈ L → a < H.size := fun a ha => by
    obtain ⟨k9, hk9⟩ := va_pl_get (X := X) (f := f) ha
    exact (hP k9 _ hk9).lt
  have hnl : ∀ i : Nat, i < n.toNatClampNeg → H.size + 1 + i ∉ L := fun i _ h => by
    have := hlt _ h
    omega
  have hnm : ∀ a, a ∈ (List.range n.toNatClampNeg).map (fun i => H.size + 1 + i) → a ∉ L := fun a ha h => by
    obtain ⟨i, -, rfl⟩ := List.mem_map.mp ha
    have := hlt _ h
    omega
  have hP0 : va_P D cl (X ++ va_pl L f) F.heap := hP.kept (fun k9 x hx => hold x.1 ((hP k9 x hx).lt))
  have hP1 : va_P D cl ((X ++ va_pl L f) ++ [(H.size, .inl (cA, n.toNatClampNeg, .inr (.inr (.inr (.inr (fun i => if i < n.toNatClampNeg then some (H.size + 1 + i) else none))))))]) F.heap := hP0.app (fun k9 x hx => by
    have h0 : k9 < 1 := (List.getElem?_eq_some_iff.mp hx).1
    rw [show k9 = 0 by omega] at hx
    cases hx
    exact f2)
  have hP2 : va_P D cl (((X ++ va_pl L f) ++ [(H.size, .inl (cA, n.toNatClampNeg, .inr (.inr (.inr (.inr (fun i => if i < n.toNatClampNeg then some (H.size + 1 + i) else none))))))]) ++ ((List.range n.toNatClampNeg).map (fun i => H.size + 1 + i)).map (fun a => (a, .inl (cy, z)))) F.heap := hP1.app (fun k9 x hx => by
    obtain ⟨a, ha, rfl⟩ := List.mem_map.mp (List.mem_of_getElem? hx)
    obtain ⟨i, hi, rfl⟩ := List.mem_map.mp ha
    exact hrow i (List.mem_range.mp hi))
  have hD2 : va_D A (((X ++ va_pl L f) ++ [(H.size, .inl (cA, n.toNatClampNeg, .inr (.inr (.inr (.inr (fun i => if i < n.toNatClampNeg then some (H.size + 1 + i) else none))))))]) ++ ((List.range n.toNatClampNeg).map (fun i => H.size + 1 + i)).map (fun a => (a, .inl (cy, z)))) := by
    have hD1 := hD.push (e := .inl (cA, n.toNatClampNeg, .inr (.inr (.inr (.inr (fun i => if i < n.toNatClampNeg then some (H.size + 1 + i) else none)))))) hP rfl (hA _ hS.1)
    generalize hW1 : (X ++ va_pl L f) ++ [(H.size, .inl (cA, n.toNatClampNeg, .inr (.inr (.inr (.inr (fun i => if i < n.toNatClampNeg then some (H.size + 1 + i) else none))))))] = W1 at hD1 hP1 ⊢
    have hle : ∀ (k9 : Nat) (x : Nat × va_E), W1[k9]? = some x → x.1 ≤ H.size := fun k9 x hx => by
      rw [← hW1] at hx
      by_cases hl : k9 < (X ++ va_pl L f).length
      · rw [List.getElem?_append_left hl] at hx
        exact Nat.le_of_lt ((hP k9 x hx).lt)
      · rw [List.getElem?_append_right (by omega)] at hx
        have h0 : k9 - (X ++ va_pl L f).length < 1 := (List.getElem?_eq_some_iff.mp hx).1
        rw [show k9 - (X ++ va_pl L f).length = 0 by omega] at hx
        cases hx
        exact Nat.le_refl _
    have hr : ∀ (k9 : Nat) (x : Nat × va_E), (((List.range n.toNatClampNeg).map (fun i => H.size + 1 + i)).map (fun a => ((a, .inl (cy, z)) : Nat × va_E)))[k9]? = some x → x.1 = H.size + 1 + k9 := fun k9 x hx => by
      rw [List.getElem?_map, List.getElem?_map] at hx
      by_cases h9 : k9 < n.toNatClampNeg
      · rw [List.getElem?_range h9] at hx
        cases hx
        rfl
      · have hn0 : (List.range n.toNatClampNeg)[k9]? = none := List.getElem?_eq_none (by rw [List.length_range]; omega)
        rw [hn0] at hx
        cases hx
    refine ⟨fun i j x y hi hj hxy => ?_, fun k9 x hx => ?_⟩
    · by_cases h1 : i < W1.length <;> by_cases h2 : j < W1.length
      · rw [List.getElem?_append_left h1] at hi
        rw [List.getElem?_append_left h2] at hj
        exact hD1.1 i j x y hi hj hxy
      · rw [List.getElem?_append_left h1] at hi
        rw [List.getElem?_append_right (by omega)] at hj
        have := hle _ _ hi
        have := hr _ _ hj
        omega
      · rw [List.getElem?_append_right (by omega)] at hi
        rw [List.getElem?_append_left h2] at hj
        have := hle _ _ hj
        have := hr _ _ hi
        omega
      · rw [List.getElem?_append_right (by omega)] at hi hj
        have := hr _ _ hi
        have := hr _ _ hj
        omega
    · by_cases h1 : k9 < W1.length
      · rw [List.getElem?_append_left h1] at hx
        exact hD1.2 k9 x hx
      · rw [List.getElem?_append_right (by omega)] at hx
        have := hr _ _ hx
        exact hA _ (by have := hS.1; omega)
  have hAr : ArrOfT s cA (.array ty) := fun N9 z9 => by
    obtain ⟨-, k9, hk9, cm9, hkk9⟩ := (hO 0 0 0).1
    exact ⟨(fun q hq => by cases hq), k9, hk9, cm9, hkk9⟩
  have hK2 : va_K D cl (tys ++ [(cA, .array ty)]) s := ⟨hK.1, fun k9 x hx => by
    by_cases hl : k9 < tys.length
    · rw [List.getElem?_append_left hl] at hx
      exact hK.2 k9 x hx
    · rw [List.getElem?_append_right (by omega)] at hx
      have h0 : k9 - tys.length < 1 := (List.getElem?_eq_some_iff.mp hx).1
      rw [show k9 - tys.length = 0 by omega] at hx
      cases hx
      exact ⟨hAr, fA⟩⟩
  obtain ⟨t, a1, b1⟩ := kk H.size (fun i => H.size + 1 + i) cA F.heap (fun i j _ _ h => by have h9 : H.size + 1 + i = H.size + 1 + j := h; omega) hnl hK2 (by rw [← vr_rows hnm]; exact vr_lay hP2) (by rw [← vr_rows hnm]; exact vr_layD hD2) ⟨by rw [f1]; have := hS.1; omega, fun x h1 h2 => (hold x (Nat.lt_of_lt_of_le h1 hS.1)).trans (hS.2.1 x h1 h2), hS.2.2⟩ F rfl X'
  refine ⟨t, step t ?_, b1⟩
  have e : T.heap.size = H.size := by rw [hT]
  rw [e]
  exact a1
end VGM
section AWM
variable {g : aw_G} {y : MethodName} {cc : ByteArray} {nL : Nat} {ret : Option FieldType} {R : Room} {E : (Nat → Prop) → State → Array Value → Prop} {F : List Frame → Array Value → State → (Nat → Prop) → State → Prop} {kc ks pc : Nat} {lv : List (Nat × Value)} {st : List Value} {ws : va_W}
def aw_grid (cA : ClassId) (N : Nat) (r : Nat → Nat) : va_E := .inl (cA, N, .inr (.inr (.inr (.inr (fun i => if i < N then some (r i) else none)))))
theorem aw_rows {N : Nat} {r : Nat → Nat} {f : Nat → va_E} {v : va_E} : va_pl ([] ++ (List.range N).map r) (vr_up f ((List.range N).map r) v) = (List.range N).map (fun i => (r i, v)) := by
  unfold va_pl
  rw [List.nil_append, List.map_map]
  apply List.map_congr_left
  intro i hi
  show (r i, vr_up f ((List.range N).map r) v (r i)) = (r i, v)
  rw [vr_up_in (List.mem_map_of_mem hi)]
theorem aw_mna_int {index t0 t1 : Nat} {cA cy : ClassId} (N' K' : Nat) {n k : Int32} (hd : decode cc pc = .ok (.multianewarray index 2, 4)) (w1 : Cond.classLink y.cls index ("[" ++ (FieldType.array .int).toString) ∈ aw_WS) (w3 : Cond.arrayClass .int ∈ aw_WS) (ht0 : g.2.2[t0]? = some (cy, .int)) (ht1 : g.2.2[t1]? = some (cA, .array .int)) (hn : ¬ n < 0) (hk : ¬ k < 0) (hN : n.toNatClampNeg = N') (hK : k.toNatClampNeg = K') (hb1 : N' * 4 ≤ 536870912) (hb2 : K' * componentBytes .int ≤ 536870912) (hb3 : K' ≤ 536870912) (hc : kc + (1 + N') ≤ R.cells) (hs : ks + (N' + N' * K') ≤ R.slots)
    (kk : ∀ (q : Nat) (r : Nat → Nat), AW g y cc nL ret R E F (kc + 1 + N') (ks + N' + N' * K') (pc + 4) lv (.ref q :: st) ((ws ++ [(q, aw_grid cA N' r)]) ++ (List.range N').map (fun i => (r i, .inl (cy, K', .inl (fun _ => 0)))))) : AW g y cc nL ret R E F kc ks pc lv (.int k :: .int n :: st) ws := by
  intro p e s m args below meth c H locs A ls C D hl
  have ea : ws ++ va_pl [] (fun _ => (.inr (0, []) : va_E)) = ws := by simp [va_pl]
  refine va_mna (X := ws) (L := []) (f := fun _ => (.inr (0, []) : va_E)) (ty := .int) (cy := cy) (z := (K', .inl (fun _ => 0))) C.1 C.2.1 C.2.2.2.2.1 (C.2.2.2.2.2.1 _ w1) C.2.2.2.2.2.2.2.2.2.2.2.1 (C.2.2.2.2.2.1 _ w3) (D.2.1.2 t0 _ ht0).2 D.2.1 (by rw [ea]; exact D.2.2.1) (by rw [ea]; exact D.2.2.2) D.1 C.2.2.2.2.2.2.2.2.1 hn hk hN hK hb1 hb2 hb3 rfl rfl hc hs (fun cB => arrV_new cB K' _) hd (fun q r cB H1 _ _ hK1 hP1 hD1 hS1 => ?_)
  have e1 := (hK1.2 g.2.2.length (cB, .array .int) (by rw [List.getElem?_append_right (Nat.le_refl _), Nat.sub_self]; rfl)).2
  have e2 := (D.2.1.2 t1 _ ht1).2
  have e3 : cA = cB := Option.some.inj (e2.symm.trans e1)
  subst e3
  rw [aw_rows] at hP1 hD1
  exact kk q r p e s m args below meth c H1 locs A ls C ⟨hS1, D.2.1, hP1, hD1⟩ hl
theorem aw_mna_long {index t0 t1 : Nat} {cA cy : ClassId} (N' K' : Nat) {n k : Int32} (hd : decode cc pc = .ok (.multianewarray index 2, 4)) (w1 : Cond.classLink y.cls index ("[" ++ (FieldType.array .long).toString) ∈ aw_WS) (w3 : Cond.arrayClass .long ∈ aw_WS) (ht0 : g.2.2[t0]? = some (cy, .long)) (ht1 : g.2.2[t1]? = some (cA, .array .long)) (hn : ¬ n < 0) (hk : ¬ k < 0) (hN : n.toNatClampNeg = N') (hK : k.toNatClampNeg = K') (hb1 : N' * 4 ≤ 536870912) (hb2 : K' * componentBytes .long ≤ 536870912) (hb3 : K' ≤ 536870912) (hc : kc + (1 + N') ≤ R.cells) (hs : ks + (N' + N' * K') ≤ R.slots)
    (kk : ∀ (q : Nat) (r : Nat → Nat), AW g y cc nL ret R E F (kc + 1 + N') (ks + N' + N' * K') (pc + 4) lv (.ref q :: st) ((ws ++ [(q, aw_grid cA N' r)]) ++ (List.range N').map (fun i => (r i, .inl (cy, K', .inr (.inl (fun _ => 0))))))) : AW g y cc nL ret R E F kc ks pc lv (.int k :: .int n :: st) ws := by
  intro p e s m args below meth c H locs A ls C D hl
  have ea : ws ++ va_pl [] (fun _ => (.inr (0, []) : va_E)) = ws := by simp [va_pl]
  refine va_mna (X := ws) (L := []) (f := fun _ => (.inr (0, []) : va_E)) (ty := .long) (cy := cy) (z := (K', .inr (.inl (fun _ => 0)))) C.1 C.2.1 C.2.2.2.2.1 (C.2.2.2.2.2.1 _ w1) C.2.2.2.2.2.2.2.2.2.2.2.2 (C.2.2.2.2.2.1 _ w3) (D.2.1.2 t0 _ ht0).2 D.2.1 (by rw [ea]; exact D.2.2.1) (by rw [ea]; exact D.2.2.2) D.1 C.2.2.2.2.2.2.2.2.1 hn hk hN hK hb1 hb2 hb3 rfl rfl hc hs (fun cB => arrV_new cB K' _) hd (fun q r cB H1 _ _ hK1 hP1 hD1 hS1 => ?_)
  have e1 := (hK1.2 g.2.2.length (cB, .array .long) (by rw [List.getElem?_append_right (Nat.le_refl _), Nat.sub_self]; rfl)).2
  have e2 := (D.2.1.2 t1 _ ht1).2
  have e3 : cA = cB := Option.some.inj (e2.symm.trans e1)
  subst e3
  rw [aw_rows] at hP1 hD1
  exact kk q r p e s m args below meth c H1 locs A ls C ⟨hS1, D.2.1, hP1, hD1⟩ hl
end AWM
end
section
-- facts on the words of the tables, by their places
set_option maxRecDepth 100000 in
theorem k_0 : (Jvm.Cond.initialized "WalkRanksLaw") ∈ aw_WS := aw_in (List.mem_of_getElem? (i := 23) rfl) rfl
set_option maxRecDepth 100000 in
theorem k_1 : (Jvm.Cond.initialized "WalkRanks") ∈ aw_WS := aw_in (List.mem_of_getElem? (i := 24) rfl) rfl
set_option maxRecDepth 100000 in
theorem k_2 : (Jvm.Cond.initialized "WalkRanks$Graph") ∈ aw_WS := aw_in (List.mem_of_getElem? (i := 25) rfl) rfl
set_option maxRecDepth 100000 in
theorem k_3 : (Jvm.Cond.initialized "WalkRanks$Steps") ∈ aw_WS := aw_in (List.mem_of_getElem? (i := 26) rfl) rfl
set_option maxRecDepth 100000 in
theorem k_4 : (Jvm.Cond.initialized "WalkRanks$ClosedSets") ∈ aw_WS := aw_in (List.mem_of_getElem? (i := 27) rfl) rfl
set_option maxRecDepth 100000 in
theorem k_5 : (Jvm.Cond.initialized "WalkRanks$Equations") ∈ aw_WS := aw_in (List.mem_of_getElem? (i := 28) rfl) rfl
set_option maxRecDepth 100000 in
theorem k_6 : (Jvm.Cond.initialized "WalkRanks$Spread") ∈ aw_WS := aw_in (List.mem_of_getElem? (i := 29) rfl) rfl
set_option maxRecDepth 100000 in
theorem k_7 : (Jvm.Cond.initialized "WalkRanksModel") ∈ aw_WS := aw_in (List.mem_of_getElem? (i := 30) rfl) rfl
set_option maxRecDepth 100000 in
theorem k_8 : (Jvm.Cond.classLink "WalkRanksLaw" (7 : Nat) "WalkRanks") ∈ aw_WS := aw_in (List.mem_of_getElem? (i := 31) rfl) rfl
set_option maxRecDepth 100000 in
theorem k_9 : (Jvm.Cond.instantiable "WalkRanks" (6 : Nat)) ∈ aw_WS := aw_in (List.mem_of_getElem? (i := 32) rfl) rfl
set_option maxRecDepth 100000 in
theorem k_10 : (Jvm.Cond.methodLink "WalkRanksLaw" (9 : Nat) ({ cls := "WalkRanks", name := "<init>", desc := "()V" } : Jvm.MethodName)) ∈ aw_WS := aw_in (List.mem_of_getElem? (i := 33) rfl) rfl
set_option maxRecDepth 100000 in
theorem k_11 : (Jvm.Cond.instanceMethod ({ cls := "WalkRanks", name := "<init>", desc := "()V" } : Jvm.MethodName)) ∈ aw_WS := aw_in (List.mem_of_getElem? (i := 34) rfl) rfl
set_option maxRecDepth 100000 in
theorem k_12 : (Jvm.Cond.code ({ cls := "WalkRanks", name := "<init>", desc := "()V" } : Jvm.MethodName) prog_1_method_1_code (1 : Nat) (Option.none : Option Jvm.ClassFile.FieldType)) ∈ aw_WS := aw_in (List.mem_of_getElem? (i := 35) rfl) rfl
set_option maxRecDepth 100000 in
theorem k_13 : (Jvm.Cond.methodLink "WalkRanks" (1 : Nat) ({ cls := "java/lang/Object", name := "<init>", desc := "()V" } : Jvm.MethodName)) ∈ aw_WS := aw_in (List.mem_of_getElem? (i := 36) rfl) rfl
set_option maxRecDepth 100000 in
theorem k_14 : (Jvm.Cond.instanceMethod ({ cls := "java/lang/Object", name := "<init>", desc := "()V" } : Jvm.MethodName)) ∈ aw_WS := aw_in (List.mem_of_getElem? (i := 37) rfl) rfl
set_option maxRecDepth 100000 in
theorem k_15 : (Jvm.Cond.code ({ cls := "java/lang/Object", name := "<init>", desc := "()V" } : Jvm.MethodName) object_method_1_code (1 : Nat) (Option.none : Option Jvm.ClassFile.FieldType)) ∈ aw_WS := aw_in (List.mem_of_getElem? (i := 38) rfl) rfl
set_option maxRecDepth 100000 in
theorem k_16 : (Jvm.Cond.classLink "WalkRanks" (7 : Nat) "WalkRanks$Graph") ∈ aw_WS := aw_in (List.mem_of_getElem? (i := 39) rfl) rfl
set_option maxRecDepth 100000 in
theorem k_17 : (Jvm.Cond.instantiable "WalkRanks$Graph" (5 : Nat)) ∈ aw_WS := aw_in (List.mem_of_getElem? (i := 40) rfl) rfl
set_option maxRecDepth 100000 in
theorem k_18 : (Jvm.Cond.methodLinkNest "WalkRanks" (9 : Nat) ({ cls := "WalkRanks$Graph", name := "<init>", desc := "()V" } : Jvm.MethodName) "WalkRanks") ∈ aw_NW := aw_inN (List.mem_of_getElem? (i := 41) rfl) rfl
set_option maxRecDepth 100000 in
theorem k_19 : (Jvm.Cond.instanceMethod ({ cls := "WalkRanks$Graph", name := "<init>", desc := "()V" } : Jvm.MethodName)) ∈ aw_WS := aw_in (List.mem_of_getElem? (i := 42) rfl) rfl
set_option maxRecDepth 100000 in
theorem k_20 : (Jvm.Cond.code ({ cls := "WalkRanks$Graph", name := "<init>", desc := "()V" } : Jvm.MethodName) prog_4_method_1_code (1 : Nat) (Option.none : Option Jvm.ClassFile.FieldType)) ∈ aw_WS := aw_in (List.mem_of_getElem? (i := 43) rfl) rfl
set_option maxRecDepth 100000 in
theorem k_21 : (Jvm.Cond.methodLink "WalkRanks$Graph" (3 : Nat) ({ cls := "java/lang/Object", name := "<init>", desc := "()V" } : Jvm.MethodName)) ∈ aw_WS := aw_in (List.mem_of_getElem? (i := 44) rfl) rfl
set_option maxRecDepth 100000 in
theorem k_22 : (Jvm.Cond.classLink "WalkRanks$Graph" (21 : Nat) "[[I") ∈ aw_WS := aw_in (List.mem_of_getElem? (i := 45) rfl) rfl
set_option maxRecDepth 100000 in
theorem k_24 : (Jvm.Cond.fieldLink "WalkRanks$Graph" (9 : Nat) "WalkRanks$Graph" "size" "I") ∈ aw_WS := aw_in (List.mem_of_getElem? (i := 47) rfl) rfl
set_option maxRecDepth 100000 in
theorem k_25 : (Jvm.Cond.fieldLink "WalkRanks$Steps" (27 : Nat) "WalkRanks$Graph" "size" "I") ∈ aw_WS := aw_in (List.mem_of_getElem? (i := 48) rfl) rfl
set_option maxRecDepth 100000 in
theorem k_26 : (Jvm.Cond.fieldLink "WalkRanks$Spread" (27 : Nat) "WalkRanks$Graph" "size" "I") ∈ aw_WS := aw_in (List.mem_of_getElem? (i := 49) rfl) rfl
set_option maxRecDepth 100000 in
theorem k_27 : (Jvm.Cond.fieldLink "WalkRanks" (48 : Nat) "WalkRanks$Graph" "size" "I") ∈ aw_WS := aw_in (List.mem_of_getElem? (i := 50) rfl) rfl
set_option maxRecDepth 100000 in
theorem k_28 : (Jvm.Cond.fieldLink "WalkRanks$Graph" (15 : Nat) "WalkRanks$Graph" "keepAbove" "I") ∈ aw_WS := aw_in (List.mem_of_getElem? (i := 51) rfl) rfl
set_option maxRecDepth 100000 in
theorem k_29 : (Jvm.Cond.fieldLink "WalkRanks$Steps" (49 : Nat) "WalkRanks$Graph" "keepAbove" "I") ∈ aw_WS := aw_in (List.mem_of_getElem? (i := 52) rfl) rfl
set_option maxRecDepth 100000 in
theorem k_30 : (Jvm.Cond.fieldLink "WalkRanks" (71 : Nat) "WalkRanks$Graph" "keepAbove" "I") ∈ aw_WS := aw_in (List.mem_of_getElem? (i := 53) rfl) rfl
set_option maxRecDepth 100000 in
theorem k_31 : (Jvm.Cond.fieldLink "WalkRanks$Graph" (18 : Nat) "WalkRanks$Graph" "keepBelow" "I") ∈ aw_WS := aw_in (List.mem_of_getElem? (i := 54) rfl) rfl
set_option maxRecDepth 100000 in
theorem k_32 : (Jvm.Cond.fieldLink "WalkRanks$Steps" (52 : Nat) "WalkRanks$Graph" "keepBelow" "I") ∈ aw_WS := aw_in (List.mem_of_getElem? (i := 55) rfl) rfl
set_option maxRecDepth 100000 in
theorem k_33 : (Jvm.Cond.fieldLink "WalkRanks" (74 : Nat) "WalkRanks$Graph" "keepBelow" "I") ∈ aw_WS := aw_in (List.mem_of_getElem? (i := 56) rfl) rfl
set_option maxRecDepth 100000 in
theorem k_34 : (Jvm.Cond.fieldLink "WalkRanks$Graph" (23 : Nat) "WalkRanks$Graph" "weights" "[[I") ∈ aw_WS := aw_in (List.mem_of_getElem? (i := 57) rfl) rfl
set_option maxRecDepth 100000 in
theorem k_35 : (Jvm.Cond.fieldLink "WalkRanks$Spread" (30 : Nat) "WalkRanks$Graph" "weights" "[[I") ∈ aw_WS := aw_in (List.mem_of_getElem? (i := 58) rfl) rfl
set_option maxRecDepth 100000 in
theorem k_36 : (Jvm.Cond.fieldLink "WalkRanks" (63 : Nat) "WalkRanks$Graph" "weights" "[[I") ∈ aw_WS := aw_in (List.mem_of_getElem? (i := 59) rfl) rfl
set_option maxRecDepth 100000 in
theorem k_37 : (Jvm.Cond.fieldLink "WalkRanks$Steps" (55 : Nat) "WalkRanks$Graph" "weights" "[[I") ∈ aw_WS := aw_in (List.mem_of_getElem? (i := 60) rfl) rfl
set_option maxRecDepth 100000 in
theorem k_38 : (Jvm.Cond.fieldLink "WalkRanks$Graph" (26 : Nat) "WalkRanks$Graph" "jumps" "[I") ∈ aw_WS := aw_in (List.mem_of_getElem? (i := 61) rfl) rfl
set_option maxRecDepth 100000 in
theorem k_39 : (Jvm.Cond.fieldLink "WalkRanks$Steps" (58 : Nat) "WalkRanks$Graph" "jumps" "[I") ∈ aw_WS := aw_in (List.mem_of_getElem? (i := 62) rfl) rfl
set_option maxRecDepth 100000 in
theorem k_40 : (Jvm.Cond.fieldLink "WalkRanks" (67 : Nat) "WalkRanks$Graph" "jumps" "[I") ∈ aw_WS := aw_in (List.mem_of_getElem? (i := 63) rfl) rfl
set_option maxRecDepth 100000 in
theorem k_41 : (Jvm.Cond.lays "WalkRanks$Graph" "WalkRanks$Graph" "size" "I") ∈ aw_WS := aw_in (List.mem_of_getElem? (i := 64) rfl) rfl
set_option maxRecDepth 100000 in
theorem k_42 : (Jvm.Cond.soleField "WalkRanks$Graph" "size") ∈ aw_WS := aw_in (List.mem_of_getElem? (i := 65) rfl) rfl
set_option maxRecDepth 100000 in
theorem k_43 : (Jvm.Cond.lays "WalkRanks$Graph" "WalkRanks$Graph" "keepAbove" "I") ∈ aw_WS := aw_in (List.mem_of_getElem? (i := 66) rfl) rfl
set_option maxRecDepth 100000 in
theorem k_44 : (Jvm.Cond.soleField "WalkRanks$Graph" "keepAbove") ∈ aw_WS := aw_in (List.mem_of_getElem? (i := 67) rfl) rfl
set_option maxRecDepth 100000 in
theorem k_45 : (Jvm.Cond.lays "WalkRanks$Graph" "WalkRanks$Graph" "keepBelow" "I") ∈ aw_WS := aw_in (List.mem_of_getElem? (i := 68) rfl) rfl
set_option maxRecDepth 100000 in
theorem k_46 : (Jvm.Cond.soleField "WalkRanks$Graph" "keepBelow") ∈ aw_WS := aw_in (List.mem_of_getElem? (i := 69) rfl) rfl
set_option maxRecDepth 100000 in
theorem k_47 : (Jvm.Cond.laysFinal "WalkRanks$Graph" "WalkRanks$Graph" "weights" "[[I") ∈ aw_WS := aw_in (List.mem_of_getElem? (i := 70) rfl) rfl
set_option maxRecDepth 100000 in
theorem k_48 : (Jvm.Cond.soleField "WalkRanks$Graph" "weights") ∈ aw_WS := aw_in (List.mem_of_getElem? (i := 71) rfl) rfl
set_option maxRecDepth 100000 in
theorem k_49 : (Jvm.Cond.laysFinal "WalkRanks$Graph" "WalkRanks$Graph" "jumps" "[I") ∈ aw_WS := aw_in (List.mem_of_getElem? (i := 72) rfl) rfl
set_option maxRecDepth 100000 in
theorem k_50 : (Jvm.Cond.soleField "WalkRanks$Graph" "jumps") ∈ aw_WS := aw_in (List.mem_of_getElem? (i := 73) rfl) rfl
set_option maxRecDepth 100000 in
theorem k_51 : (Jvm.Cond.superclass "WalkRanks$Graph" "java/lang/Object") ∈ aw_WS := aw_in (List.mem_of_getElem? (i := 74) rfl) rfl
set_option maxRecDepth 100000 in
theorem k_52 : (Jvm.Cond.arrayClass Jvm.ClassFile.FieldType.int) ∈ aw_WS := aw_in (List.mem_of_getElem? (i := 75) rfl) rfl
set_option maxRecDepth 100000 in
theorem k_53 : (Jvm.Cond.classLink "WalkRanks" (16 : Nat) "WalkRanks$Steps") ∈ aw_WS := aw_in (List.mem_of_getElem? (i := 76) rfl) rfl
set_option maxRecDepth 100000 in
theorem k_54 : (Jvm.Cond.instantiable "WalkRanks$Steps" (4 : Nat)) ∈ aw_WS := aw_in (List.mem_of_getElem? (i := 77) rfl) rfl
set_option maxRecDepth 100000 in
theorem k_55 : (Jvm.Cond.methodLinkNest "WalkRanks" (18 : Nat) ({ cls := "WalkRanks$Steps", name := "<init>", desc := "()V" } : Jvm.MethodName) "WalkRanks") ∈ aw_NW := aw_inN (List.mem_of_getElem? (i := 78) rfl) rfl
set_option maxRecDepth 100000 in
theorem k_56 : (Jvm.Cond.instanceMethod ({ cls := "WalkRanks$Steps", name := "<init>", desc := "()V" } : Jvm.MethodName)) ∈ aw_WS := aw_in (List.mem_of_getElem? (i := 79) rfl) rfl
set_option maxRecDepth 100000 in
theorem k_57 : (Jvm.Cond.code ({ cls := "WalkRanks$Steps", name := "<init>", desc := "()V" } : Jvm.MethodName) prog_6_method_1_code (1 : Nat) (Option.none : Option Jvm.ClassFile.FieldType)) ∈ aw_WS := aw_in (List.mem_of_getElem? (i := 80) rfl) rfl
set_option maxRecDepth 100000 in
theorem k_58 : (Jvm.Cond.methodLink "WalkRanks$Steps" (3 : Nat) ({ cls := "java/lang/Object", name := "<init>", desc := "()V" } : Jvm.MethodName)) ∈ aw_WS := aw_in (List.mem_of_getElem? (i := 81) rfl) rfl
set_option maxRecDepth 100000 in
theorem k_59 : (Jvm.Cond.classLink "WalkRanks$Steps" (15 : Nat) "[[I") ∈ aw_WS := aw_in (List.mem_of_getElem? (i := 82) rfl) rfl
set_option maxRecDepth 100000 in
theorem k_60 : (Jvm.Cond.fieldLink "WalkRanks$Steps" (9 : Nat) "WalkRanks$Steps" "size" "I") ∈ aw_WS := aw_in (List.mem_of_getElem? (i := 83) rfl) rfl
set_option maxRecDepth 100000 in
theorem k_61 : (Jvm.Cond.fieldLink "WalkRanks$ClosedSets" (31 : Nat) "WalkRanks$Steps" "size" "I") ∈ aw_WS := aw_in (List.mem_of_getElem? (i := 84) rfl) rfl
set_option maxRecDepth 100000 in
theorem k_62 : (Jvm.Cond.fieldLink "WalkRanks$Equations" (20 : Nat) "WalkRanks$Steps" "size" "I") ∈ aw_WS := aw_in (List.mem_of_getElem? (i := 85) rfl) rfl
set_option maxRecDepth 100000 in
theorem k_63 : (Jvm.Cond.fieldLink "WalkRanks$Spread" (34 : Nat) "WalkRanks$Steps" "size" "I") ∈ aw_WS := aw_in (List.mem_of_getElem? (i := 86) rfl) rfl
set_option maxRecDepth 100000 in
theorem k_64 : (Jvm.Cond.fieldLink "WalkRanks$Steps" (17 : Nat) "WalkRanks$Steps" "parts" "[[I") ∈ aw_WS := aw_in (List.mem_of_getElem? (i := 87) rfl) rfl
set_option maxRecDepth 100000 in
theorem k_65 : (Jvm.Cond.fieldLink "WalkRanks$Equations" (31 : Nat) "WalkRanks$Steps" "parts" "[[I") ∈ aw_WS := aw_in (List.mem_of_getElem? (i := 88) rfl) rfl
set_option maxRecDepth 100000 in
theorem k_66 : (Jvm.Cond.fieldLink "WalkRanks$Spread" (41 : Nat) "WalkRanks$Steps" "parts" "[[I") ∈ aw_WS := aw_in (List.mem_of_getElem? (i := 89) rfl) rfl
set_option maxRecDepth 100000 in
theorem k_67 : (Jvm.Cond.fieldLink "WalkRanks" (77 : Nat) "WalkRanks$Steps" "parts" "[[I") ∈ aw_WS := aw_in (List.mem_of_getElem? (i := 90) rfl) rfl
set_option maxRecDepth 100000 in
theorem k_68 : (Jvm.Cond.fieldLink "WalkRanks$Steps" (20 : Nat) "WalkRanks$Steps" "totals" "[I") ∈ aw_WS := aw_in (List.mem_of_getElem? (i := 91) rfl) rfl
set_option maxRecDepth 100000 in
theorem k_69 : (Jvm.Cond.fieldLink "WalkRanks$Equations" (27 : Nat) "WalkRanks$Steps" "totals" "[I") ∈ aw_WS := aw_in (List.mem_of_getElem? (i := 92) rfl) rfl
set_option maxRecDepth 100000 in
theorem k_70 : (Jvm.Cond.fieldLink "WalkRanks$Spread" (37 : Nat) "WalkRanks$Steps" "totals" "[I") ∈ aw_WS := aw_in (List.mem_of_getElem? (i := 93) rfl) rfl
set_option maxRecDepth 100000 in
theorem k_71 : (Jvm.Cond.fieldLink "WalkRanks" (80 : Nat) "WalkRanks$Steps" "totals" "[I") ∈ aw_WS := aw_in (List.mem_of_getElem? (i := 94) rfl) rfl
set_option maxRecDepth 100000 in
theorem k_72 : (Jvm.Cond.fieldLink "WalkRanks$Steps" (24 : Nat) "WalkRanks$Steps" "next" "[I") ∈ aw_WS := aw_in (List.mem_of_getElem? (i := 95) rfl) rfl
set_option maxRecDepth 100000 in
theorem k_73 : (Jvm.Cond.lays "WalkRanks$Steps" "WalkRanks$Steps" "size" "I") ∈ aw_WS := aw_in (List.mem_of_getElem? (i := 96) rfl) rfl
set_option maxRecDepth 100000 in
theorem k_74 : (Jvm.Cond.soleField "WalkRanks$Steps" "size") ∈ aw_WS := aw_in (List.mem_of_getElem? (i := 97) rfl) rfl
set_option maxRecDepth 100000 in
theorem k_75 : (Jvm.Cond.laysFinal "WalkRanks$Steps" "WalkRanks$Steps" "parts" "[[I") ∈ aw_WS := aw_in (List.mem_of_getElem? (i := 98) rfl) rfl
set_option maxRecDepth 100000 in
theorem k_76 : (Jvm.Cond.soleField "WalkRanks$Steps" "parts") ∈ aw_WS := aw_in (List.mem_of_getElem? (i := 99) rfl) rfl
set_option maxRecDepth 100000 in
theorem k_77 : (Jvm.Cond.laysFinal "WalkRanks$Steps" "WalkRanks$Steps" "totals" "[I") ∈ aw_WS := aw_in (List.mem_of_getElem? (i := 100) rfl) rfl
set_option maxRecDepth 100000 in
theorem k_78 : (Jvm.Cond.soleField "WalkRanks$Steps" "totals") ∈ aw_WS := aw_in (List.mem_of_getElem? (i := 101) rfl) rfl
set_option maxRecDepth 100000 in
theorem k_79 : (Jvm.Cond.laysFinal "WalkRanks$Steps" "WalkRanks$Steps" "next" "[I") ∈ aw_WS := aw_in (List.mem_of_getElem? (i := 102) rfl) rfl
set_option maxRecDepth 100000 in
theorem k_80 : (Jvm.Cond.soleField "WalkRanks$Steps" "next") ∈ aw_WS := aw_in (List.mem_of_getElem? (i := 103) rfl) rfl
set_option maxRecDepth 100000 in
theorem k_81 : (Jvm.Cond.superclass "WalkRanks$Steps" "java/lang/Object") ∈ aw_WS := aw_in (List.mem_of_getElem? (i := 104) rfl) rfl
set_option maxRecDepth 100000 in
theorem k_82 : (Jvm.Cond.classLink "WalkRanks" (23 : Nat) "WalkRanks$ClosedSets") ∈ aw_WS := aw_in (List.mem_of_getElem? (i := 105) rfl) rfl
set_option maxRecDepth 100000 in
theorem k_83 : (Jvm.Cond.instantiable "WalkRanks$ClosedSets" (6 : Nat)) ∈ aw_WS := aw_in (List.mem_of_getElem? (i := 106) rfl) rfl
set_option maxRecDepth 100000 in
theorem k_84 : (Jvm.Cond.methodLinkNest "WalkRanks" (25 : Nat) ({ cls := "WalkRanks$ClosedSets", name := "<init>", desc := "()V" } : Jvm.MethodName) "WalkRanks") ∈ aw_NW := aw_inN (List.mem_of_getElem? (i := 107) rfl) rfl
set_option maxRecDepth 100000 in
theorem k_85 : (Jvm.Cond.instanceMethod ({ cls := "WalkRanks$ClosedSets", name := "<init>", desc := "()V" } : Jvm.MethodName)) ∈ aw_WS := aw_in (List.mem_of_getElem? (i := 108) rfl) rfl
set_option maxRecDepth 100000 in
theorem k_86 : (Jvm.Cond.code ({ cls := "WalkRanks$ClosedSets", name := "<init>", desc := "()V" } : Jvm.MethodName) prog_2_method_1_code (1 : Nat) (Option.none : Option Jvm.ClassFile.FieldType)) ∈ aw_WS := aw_in (List.mem_of_getElem? (i := 109) rfl) rfl
set_option maxRecDepth 100000 in
theorem k_87 : (Jvm.Cond.methodLink "WalkRanks$ClosedSets" (3 : Nat) ({ cls := "java/lang/Object", name := "<init>", desc := "()V" } : Jvm.MethodName)) ∈ aw_WS := aw_in (List.mem_of_getElem? (i := 110) rfl) rfl
set_option maxRecDepth 100000 in
theorem k_88 : (Jvm.Cond.fieldLink "WalkRanks$ClosedSets" (9 : Nat) "WalkRanks$ClosedSets" "number" "I") ∈ aw_WS := aw_in (List.mem_of_getElem? (i := 111) rfl) rfl
set_option maxRecDepth 100000 in
theorem k_89 : (Jvm.Cond.fieldLink "WalkRanks" (83 : Nat) "WalkRanks$ClosedSets" "number" "I") ∈ aw_WS := aw_in (List.mem_of_getElem? (i := 112) rfl) rfl
set_option maxRecDepth 100000 in
theorem k_90 : (Jvm.Cond.fieldLink "WalkRanks$ClosedSets" (15 : Nat) "WalkRanks$ClosedSets" "members" "[I") ∈ aw_WS := aw_in (List.mem_of_getElem? (i := 113) rfl) rfl
set_option maxRecDepth 100000 in
theorem k_91 : (Jvm.Cond.fieldLink "WalkRanks" (108 : Nat) "WalkRanks$ClosedSets" "members" "[I") ∈ aw_WS := aw_in (List.mem_of_getElem? (i := 114) rfl) rfl
set_option maxRecDepth 100000 in
theorem k_92 : (Jvm.Cond.fieldLink "WalkRanks$ClosedSets" (19 : Nat) "WalkRanks$ClosedSets" "leastNodes" "[I") ∈ aw_WS := aw_in (List.mem_of_getElem? (i := 115) rfl) rfl
set_option maxRecDepth 100000 in
theorem k_93 : (Jvm.Cond.fieldLink "WalkRanks" (92 : Nat) "WalkRanks$ClosedSets" "leastNodes" "[I") ∈ aw_WS := aw_in (List.mem_of_getElem? (i := 116) rfl) rfl
set_option maxRecDepth 100000 in
theorem k_94 : (Jvm.Cond.fieldLink "WalkRanks$ClosedSets" (22 : Nat) "WalkRanks$ClosedSets" "setOf" "[I") ∈ aw_WS := aw_in (List.mem_of_getElem? (i := 117) rfl) rfl
set_option maxRecDepth 100000 in
theorem k_95 : (Jvm.Cond.fieldLink "WalkRanks" (86 : Nat) "WalkRanks$ClosedSets" "setOf" "[I") ∈ aw_WS := aw_in (List.mem_of_getElem? (i := 118) rfl) rfl
set_option maxRecDepth 100000 in
theorem k_96 : (Jvm.Cond.fieldLink "WalkRanks$ClosedSets" (25 : Nat) "WalkRanks$ClosedSets" "size" "I") ∈ aw_WS := aw_in (List.mem_of_getElem? (i := 119) rfl) rfl
set_option maxRecDepth 100000 in
theorem k_97 : (Jvm.Cond.fieldLink "WalkRanks$ClosedSets" (28 : Nat) "WalkRanks$ClosedSets" "leads" "[I") ∈ aw_WS := aw_in (List.mem_of_getElem? (i := 120) rfl) rfl
set_option maxRecDepth 100000 in
theorem k_98 : (Jvm.Cond.lays "WalkRanks$ClosedSets" "WalkRanks$ClosedSets" "number" "I") ∈ aw_WS := aw_in (List.mem_of_getElem? (i := 121) rfl) rfl
set_option maxRecDepth 100000 in
theorem k_99 : (Jvm.Cond.soleField "WalkRanks$ClosedSets" "number") ∈ aw_WS := aw_in (List.mem_of_getElem? (i := 122) rfl) rfl
set_option maxRecDepth 100000 in
theorem k_100 : (Jvm.Cond.laysFinal "WalkRanks$ClosedSets" "WalkRanks$ClosedSets" "members" "[I") ∈ aw_WS := aw_in (List.mem_of_getElem? (i := 123) rfl) rfl
set_option maxRecDepth 100000 in
theorem k_101 : (Jvm.Cond.soleField "WalkRanks$ClosedSets" "members") ∈ aw_WS := aw_in (List.mem_of_getElem? (i := 124) rfl) rfl
set_option maxRecDepth 100000 in
theorem k_102 : (Jvm.Cond.laysFinal "WalkRanks$ClosedSets" "WalkRanks$ClosedSets" "leastNodes" "[I") ∈ aw_WS := aw_in (List.mem_of_getElem? (i := 125) rfl) rfl
set_option maxRecDepth 100000 in
theorem k_103 : (Jvm.Cond.soleField "WalkRanks$ClosedSets" "leastNodes") ∈ aw_WS := aw_in (List.mem_of_getElem? (i := 126) rfl) rfl
set_option maxRecDepth 100000 in
theorem k_104 : (Jvm.Cond.laysFinal "WalkRanks$ClosedSets" "WalkRanks$ClosedSets" "setOf" "[I") ∈ aw_WS := aw_in (List.mem_of_getElem? (i := 127) rfl) rfl
set_option maxRecDepth 100000 in
theorem k_105 : (Jvm.Cond.soleField "WalkRanks$ClosedSets" "setOf") ∈ aw_WS := aw_in (List.mem_of_getElem? (i := 128) rfl) rfl
set_option maxRecDepth 100000 in
theorem k_106 : (Jvm.Cond.lays "WalkRanks$ClosedSets" "WalkRanks$ClosedSets" "size" "I") ∈ aw_WS := aw_in (List.mem_of_getElem? (i := 129) rfl) rfl
set_option maxRecDepth 100000 in
theorem k_107 : (Jvm.Cond.soleField "WalkRanks$ClosedSets" "size") ∈ aw_WS := aw_in (List.mem_of_getElem? (i := 130) rfl) rfl
set_option maxRecDepth 100000 in
theorem k_108 : (Jvm.Cond.laysFinal "WalkRanks$ClosedSets" "WalkRanks$ClosedSets" "leads" "[I") ∈ aw_WS := aw_in (List.mem_of_getElem? (i := 131) rfl) rfl
set_option maxRecDepth 100000 in
theorem k_109 : (Jvm.Cond.soleField "WalkRanks$ClosedSets" "leads") ∈ aw_WS := aw_in (List.mem_of_getElem? (i := 132) rfl) rfl
set_option maxRecDepth 100000 in
theorem k_110 : (Jvm.Cond.superclass "WalkRanks$ClosedSets" "java/lang/Object") ∈ aw_WS := aw_in (List.mem_of_getElem? (i := 133) rfl) rfl
set_option maxRecDepth 100000 in
theorem k_111 : (Jvm.Cond.classLink "WalkRanks" (30 : Nat) "WalkRanks$Equations") ∈ aw_WS := aw_in (List.mem_of_getElem? (i := 134) rfl) rfl
set_option maxRecDepth 100000 in
theorem k_112 : (Jvm.Cond.instantiable "WalkRanks$Equations" (2 : Nat)) ∈ aw_WS := aw_in (List.mem_of_getElem? (i := 135) rfl) rfl
set_option maxRecDepth 100000 in
theorem k_113 : (Jvm.Cond.methodLinkNest "WalkRanks" (32 : Nat) ({ cls := "WalkRanks$Equations", name := "<init>", desc := "()V" } : Jvm.MethodName) "WalkRanks") ∈ aw_NW := aw_inN (List.mem_of_getElem? (i := 136) rfl) rfl
set_option maxRecDepth 100000 in
theorem k_114 : (Jvm.Cond.instanceMethod ({ cls := "WalkRanks$Equations", name := "<init>", desc := "()V" } : Jvm.MethodName)) ∈ aw_WS := aw_in (List.mem_of_getElem? (i := 137) rfl) rfl
set_option maxRecDepth 100000 in
theorem k_115 : (Jvm.Cond.code ({ cls := "WalkRanks$Equations", name := "<init>", desc := "()V" } : Jvm.MethodName) prog_3_method_1_code (1 : Nat) (Option.none : Option Jvm.ClassFile.FieldType)) ∈ aw_WS := aw_in (List.mem_of_getElem? (i := 138) rfl) rfl
set_option maxRecDepth 100000 in
theorem k_116 : (Jvm.Cond.methodLink "WalkRanks$Equations" (3 : Nat) ({ cls := "java/lang/Object", name := "<init>", desc := "()V" } : Jvm.MethodName)) ∈ aw_WS := aw_in (List.mem_of_getElem? (i := 139) rfl) rfl
set_option maxRecDepth 100000 in
theorem k_117 : (Jvm.Cond.classLink "WalkRanks$Equations" (15 : Nat) "[[J") ∈ aw_WS := aw_in (List.mem_of_getElem? (i := 140) rfl) rfl
set_option maxRecDepth 100000 in
theorem k_119 : (Jvm.Cond.fieldLink "WalkRanks$Equations" (9 : Nat) "WalkRanks$Equations" "size" "I") ∈ aw_WS := aw_in (List.mem_of_getElem? (i := 142) rfl) rfl
set_option maxRecDepth 100000 in
theorem k_120 : (Jvm.Cond.fieldLink "WalkRanks$Equations" (17 : Nat) "WalkRanks$Equations" "cells" "[[J") ∈ aw_WS := aw_in (List.mem_of_getElem? (i := 143) rfl) rfl
set_option maxRecDepth 100000 in
theorem k_121 : (Jvm.Cond.lays "WalkRanks$Equations" "WalkRanks$Equations" "size" "I") ∈ aw_WS := aw_in (List.mem_of_getElem? (i := 144) rfl) rfl
set_option maxRecDepth 100000 in
theorem k_122 : (Jvm.Cond.soleField "WalkRanks$Equations" "size") ∈ aw_WS := aw_in (List.mem_of_getElem? (i := 145) rfl) rfl
set_option maxRecDepth 100000 in
theorem k_123 : (Jvm.Cond.laysFinal "WalkRanks$Equations" "WalkRanks$Equations" "cells" "[[J") ∈ aw_WS := aw_in (List.mem_of_getElem? (i := 146) rfl) rfl
set_option maxRecDepth 100000 in
theorem k_124 : (Jvm.Cond.soleField "WalkRanks$Equations" "cells") ∈ aw_WS := aw_in (List.mem_of_getElem? (i := 147) rfl) rfl
set_option maxRecDepth 100000 in
theorem k_125 : (Jvm.Cond.superclass "WalkRanks$Equations" "java/lang/Object") ∈ aw_WS := aw_in (List.mem_of_getElem? (i := 148) rfl) rfl
set_option maxRecDepth 100000 in
theorem k_126 : (Jvm.Cond.arrayClass Jvm.ClassFile.FieldType.long) ∈ aw_WS := aw_in (List.mem_of_getElem? (i := 149) rfl) rfl
set_option maxRecDepth 100000 in
theorem k_127 : (Jvm.Cond.classLink "WalkRanks" (37 : Nat) "WalkRanks$Spread") ∈ aw_WS := aw_in (List.mem_of_getElem? (i := 150) rfl) rfl
set_option maxRecDepth 100000 in
theorem k_128 : (Jvm.Cond.instantiable "WalkRanks$Spread" (4 : Nat)) ∈ aw_WS := aw_in (List.mem_of_getElem? (i := 151) rfl) rfl
set_option maxRecDepth 100000 in
theorem k_129 : (Jvm.Cond.methodLinkNest "WalkRanks" (39 : Nat) ({ cls := "WalkRanks$Spread", name := "<init>", desc := "()V" } : Jvm.MethodName) "WalkRanks") ∈ aw_NW := aw_inN (List.mem_of_getElem? (i := 152) rfl) rfl
set_option maxRecDepth 100000 in
theorem k_130 : (Jvm.Cond.instanceMethod ({ cls := "WalkRanks$Spread", name := "<init>", desc := "()V" } : Jvm.MethodName)) ∈ aw_WS := aw_in (List.mem_of_getElem? (i := 153) rfl) rfl
set_option maxRecDepth 100000 in
theorem k_131 : (Jvm.Cond.code ({ cls := "WalkRanks$Spread", name := "<init>", desc := "()V" } : Jvm.MethodName) prog_5_method_1_code (1 : Nat) (Option.none : Option Jvm.ClassFile.FieldType)) ∈ aw_WS := aw_in (List.mem_of_getElem? (i := 154) rfl) rfl
set_option maxRecDepth 100000 in
theorem k_132 : (Jvm.Cond.methodLink "WalkRanks$Spread" (3 : Nat) ({ cls := "java/lang/Object", name := "<init>", desc := "()V" } : Jvm.MethodName)) ∈ aw_WS := aw_in (List.mem_of_getElem? (i := 155) rfl) rfl
set_option maxRecDepth 100000 in
theorem k_133 : (Jvm.Cond.classLink "WalkRanks$Spread" (22 : Nat) "[[J") ∈ aw_WS := aw_in (List.mem_of_getElem? (i := 156) rfl) rfl
set_option maxRecDepth 100000 in
theorem k_134 : (Jvm.Cond.fieldLink "WalkRanks$Spread" (9 : Nat) "WalkRanks$Spread" "now" "[J") ∈ aw_WS := aw_in (List.mem_of_getElem? (i := 157) rfl) rfl
set_option maxRecDepth 100000 in
theorem k_135 : (Jvm.Cond.fieldLink "WalkRanks$Spread" (15 : Nat) "WalkRanks$Spread" "next" "[J") ∈ aw_WS := aw_in (List.mem_of_getElem? (i := 158) rfl) rfl
set_option maxRecDepth 100000 in
theorem k_136 : (Jvm.Cond.fieldLink "WalkRanks$Spread" (18 : Nat) "WalkRanks$Spread" "size" "I") ∈ aw_WS := aw_in (List.mem_of_getElem? (i := 159) rfl) rfl
set_option maxRecDepth 100000 in
theorem k_137 : (Jvm.Cond.fieldLink "WalkRanks$Spread" (24 : Nat) "WalkRanks$Spread" "factors" "[[J") ∈ aw_WS := aw_in (List.mem_of_getElem? (i := 160) rfl) rfl
set_option maxRecDepth 100000 in
theorem k_138 : (Jvm.Cond.lays "WalkRanks$Spread" "WalkRanks$Spread" "now" "[J") ∈ aw_WS := aw_in (List.mem_of_getElem? (i := 161) rfl) rfl
set_option maxRecDepth 100000 in
theorem k_139 : (Jvm.Cond.soleField "WalkRanks$Spread" "now") ∈ aw_WS := aw_in (List.mem_of_getElem? (i := 162) rfl) rfl
set_option maxRecDepth 100000 in
theorem k_140 : (Jvm.Cond.lays "WalkRanks$Spread" "WalkRanks$Spread" "next" "[J") ∈ aw_WS := aw_in (List.mem_of_getElem? (i := 163) rfl) rfl
set_option maxRecDepth 100000 in
theorem k_141 : (Jvm.Cond.soleField "WalkRanks$Spread" "next") ∈ aw_WS := aw_in (List.mem_of_getElem? (i := 164) rfl) rfl
set_option maxRecDepth 100000 in
theorem k_142 : (Jvm.Cond.lays "WalkRanks$Spread" "WalkRanks$Spread" "size" "I") ∈ aw_WS := aw_in (List.mem_of_getElem? (i := 165) rfl) rfl
set_option maxRecDepth 100000 in
theorem k_143 : (Jvm.Cond.soleField "WalkRanks$Spread" "size") ∈ aw_WS := aw_in (List.mem_of_getElem? (i := 166) rfl) rfl
set_option maxRecDepth 100000 in
theorem k_144 : (Jvm.Cond.laysFinal "WalkRanks$Spread" "WalkRanks$Spread" "factors" "[[J") ∈ aw_WS := aw_in (List.mem_of_getElem? (i := 167) rfl) rfl
set_option maxRecDepth 100000 in
theorem k_145 : (Jvm.Cond.soleField "WalkRanks$Spread" "factors") ∈ aw_WS := aw_in (List.mem_of_getElem? (i := 168) rfl) rfl
set_option maxRecDepth 100000 in
theorem k_146 : (Jvm.Cond.superclass "WalkRanks$Spread" "java/lang/Object") ∈ aw_WS := aw_in (List.mem_of_getElem? (i := 169) rfl) rfl
set_option maxRecDepth 100000 in
theorem k_147 : (Jvm.Cond.fieldLink "WalkRanks" (10 : Nat) "WalkRanks" "graph" "LWalkRanks$Graph;") ∈ aw_WS := aw_in (List.mem_of_getElem? (i := 170) rfl) rfl
set_option maxRecDepth 100000 in
theorem k_148 : (Jvm.Cond.fieldLink "WalkRanks" (19 : Nat) "WalkRanks" "steps" "LWalkRanks$Steps;") ∈ aw_WS := aw_in (List.mem_of_getElem? (i := 171) rfl) rfl
set_option maxRecDepth 100000 in
theorem k_149 : (Jvm.Cond.fieldLink "WalkRanks" (26 : Nat) "WalkRanks" "sets" "LWalkRanks$ClosedSets;") ∈ aw_WS := aw_in (List.mem_of_getElem? (i := 172) rfl) rfl
set_option maxRecDepth 100000 in
theorem k_150 : (Jvm.Cond.fieldLink "WalkRanks" (33 : Nat) "WalkRanks" "equations" "LWalkRanks$Equations;") ∈ aw_WS := aw_in (List.mem_of_getElem? (i := 173) rfl) rfl
set_option maxRecDepth 100000 in
theorem k_151 : (Jvm.Cond.fieldLink "WalkRanks" (40 : Nat) "WalkRanks" "spread" "LWalkRanks$Spread;") ∈ aw_WS := aw_in (List.mem_of_getElem? (i := 174) rfl) rfl
set_option maxRecDepth 100000 in
theorem k_152 : (Jvm.Cond.fieldLink "WalkRanks" (44 : Nat) "WalkRanks" "shares" "[J") ∈ aw_WS := aw_in (List.mem_of_getElem? (i := 175) rfl) rfl
set_option maxRecDepth 100000 in
theorem k_153 : (Jvm.Cond.laysFinal "WalkRanks" "WalkRanks" "graph" "LWalkRanks$Graph;") ∈ aw_WS := aw_in (List.mem_of_getElem? (i := 176) rfl) rfl
set_option maxRecDepth 100000 in
theorem k_154 : (Jvm.Cond.soleField "WalkRanks" "graph") ∈ aw_WS := aw_in (List.mem_of_getElem? (i := 177) rfl) rfl
set_option maxRecDepth 100000 in
theorem k_155 : (Jvm.Cond.laysFinal "WalkRanks" "WalkRanks" "steps" "LWalkRanks$Steps;") ∈ aw_WS := aw_in (List.mem_of_getElem? (i := 178) rfl) rfl
set_option maxRecDepth 100000 in
theorem k_156 : (Jvm.Cond.soleField "WalkRanks" "steps") ∈ aw_WS := aw_in (List.mem_of_getElem? (i := 179) rfl) rfl
set_option maxRecDepth 100000 in
theorem k_157 : (Jvm.Cond.laysFinal "WalkRanks" "WalkRanks" "sets" "LWalkRanks$ClosedSets;") ∈ aw_WS := aw_in (List.mem_of_getElem? (i := 180) rfl) rfl
set_option maxRecDepth 100000 in
theorem k_158 : (Jvm.Cond.soleField "WalkRanks" "sets") ∈ aw_WS := aw_in (List.mem_of_getElem? (i := 181) rfl) rfl
set_option maxRecDepth 100000 in
theorem k_159 : (Jvm.Cond.laysFinal "WalkRanks" "WalkRanks" "equations" "LWalkRanks$Equations;") ∈ aw_WS := aw_in (List.mem_of_getElem? (i := 182) rfl) rfl
set_option maxRecDepth 100000 in
theorem k_160 : (Jvm.Cond.soleField "WalkRanks" "equations") ∈ aw_WS := aw_in (List.mem_of_getElem? (i := 183) rfl) rfl
set_option maxRecDepth 100000 in
theorem k_161 : (Jvm.Cond.laysFinal "WalkRanks" "WalkRanks" "spread" "LWalkRanks$Spread;") ∈ aw_WS := aw_in (List.mem_of_getElem? (i := 184) rfl) rfl
set_option maxRecDepth 100000 in
theorem k_162 : (Jvm.Cond.soleField "WalkRanks" "spread") ∈ aw_WS := aw_in (List.mem_of_getElem? (i := 185) rfl) rfl
set_option maxRecDepth 100000 in
theorem k_163 : (Jvm.Cond.laysFinal "WalkRanks" "WalkRanks" "shares" "[J") ∈ aw_WS := aw_in (List.mem_of_getElem? (i := 186) rfl) rfl
set_option maxRecDepth 100000 in
theorem k_164 : (Jvm.Cond.soleField "WalkRanks" "shares") ∈ aw_WS := aw_in (List.mem_of_getElem? (i := 187) rfl) rfl
set_option maxRecDepth 100000 in
theorem k_165 : (Jvm.Cond.superclass "WalkRanks" "java/lang/Object") ∈ aw_WS := aw_in (List.mem_of_getElem? (i := 188) rfl) rfl
set_option maxRecDepth 100000 in
theorem k_166 : (Jvm.Cond.methodLink "WalkRanksLaw" (13 : Nat) ({ cls := "WalkRanks", name := "node", desc := "()I" } : Jvm.MethodName)) ∈ aw_WS := aw_in (List.mem_of_getElem? (i := 189) rfl) rfl
set_option maxRecDepth 100000 in
theorem k_167 : (Jvm.Cond.instanceMethod ({ cls := "WalkRanks", name := "node", desc := "()I" } : Jvm.MethodName)) ∈ aw_WS := aw_in (List.mem_of_getElem? (i := 190) rfl) rfl
set_option maxRecDepth 100000 in
theorem k_168 : (Jvm.Cond.selects "WalkRanks" ({ cls := "WalkRanks", name := "node", desc := "()I" } : Jvm.MethodName) ({ cls := "WalkRanks", name := "node", desc := "()I" } : Jvm.MethodName)) ∈ aw_WS := aw_in (List.mem_of_getElem? (i := 191) rfl) rfl
set_option maxRecDepth 100000 in
theorem k_169 : (Jvm.Cond.code ({ cls := "WalkRanks", name := "node", desc := "()I" } : Jvm.MethodName) prog_1_method_2_code (2 : Nat) (Option.some Jvm.ClassFile.FieldType.int)) ∈ aw_WS := aw_in (List.mem_of_getElem? (i := 192) rfl) rfl
set_option maxRecDepth 100000 in
theorem k_170 : (Jvm.Cond.methodLink "WalkRanks" (52 : Nat) ({ cls := "WalkRanks$Graph", name := "addNode", desc := "()I" } : Jvm.MethodName)) ∈ aw_WS := aw_in (List.mem_of_getElem? (i := 193) rfl) rfl
set_option maxRecDepth 100000 in
theorem k_171 : (Jvm.Cond.instanceMethod ({ cls := "WalkRanks$Graph", name := "addNode", desc := "()I" } : Jvm.MethodName)) ∈ aw_WS := aw_in (List.mem_of_getElem? (i := 194) rfl) rfl
set_option maxRecDepth 100000 in
theorem k_172 : (Jvm.Cond.selects "WalkRanks$Graph" ({ cls := "WalkRanks$Graph", name := "addNode", desc := "()I" } : Jvm.MethodName) ({ cls := "WalkRanks$Graph", name := "addNode", desc := "()I" } : Jvm.MethodName)) ∈ aw_WS := aw_in (List.mem_of_getElem? (i := 195) rfl) rfl
set_option maxRecDepth 100000 in
theorem k_173 : (Jvm.Cond.code ({ cls := "WalkRanks$Graph", name := "addNode", desc := "()I" } : Jvm.MethodName) prog_4_method_2_code (3 : Nat) (Option.some Jvm.ClassFile.FieldType.int)) ∈ aw_WS := aw_in (List.mem_of_getElem? (i := 196) rfl) rfl
set_option maxRecDepth 100000 in
theorem k_174 : (Jvm.Cond.methodLink "WalkRanks" (56 : Nat) ({ cls := "WalkRanks", name := "renew", desc := "()V" } : Jvm.MethodName)) ∈ aw_WS := aw_in (List.mem_of_getElem? (i := 197) rfl) rfl
set_option maxRecDepth 100000 in
theorem k_176 : (Jvm.Cond.instanceMethod ({ cls := "WalkRanks", name := "renew", desc := "()V" } : Jvm.MethodName)) ∈ aw_WS := aw_in (List.mem_of_getElem? (i := 199) rfl) rfl
set_option maxRecDepth 100000 in
theorem k_177 : (Jvm.Cond.code ({ cls := "WalkRanks", name := "renew", desc := "()V" } : Jvm.MethodName) prog_1_method_24_code (1 : Nat) (Option.none : Option Jvm.ClassFile.FieldType)) ∈ aw_WS := aw_in (List.mem_of_getElem? (i := 200) rfl) rfl
set_option maxRecDepth 100000 in
theorem k_178 : (Jvm.Cond.methodLink "WalkRanks" (171 : Nat) ({ cls := "WalkRanks$Steps", name := "renew", desc := "(LWalkRanks$Graph;)V" } : Jvm.MethodName)) ∈ aw_WS := aw_in (List.mem_of_getElem? (i := 201) rfl) rfl
set_option maxRecDepth 100000 in
theorem k_179 : (Jvm.Cond.instanceMethod ({ cls := "WalkRanks$Steps", name := "renew", desc := "(LWalkRanks$Graph;)V" } : Jvm.MethodName)) ∈ aw_WS := aw_in (List.mem_of_getElem? (i := 202) rfl) rfl
set_option maxRecDepth 100000 in
theorem k_180 : (Jvm.Cond.selects "WalkRanks$Steps" ({ cls := "WalkRanks$Steps", name := "renew", desc := "(LWalkRanks$Graph;)V" } : Jvm.MethodName) ({ cls := "WalkRanks$Steps", name := "renew", desc := "(LWalkRanks$Graph;)V" } : Jvm.MethodName)) ∈ aw_WS := aw_in (List.mem_of_getElem? (i := 203) rfl) rfl
set_option maxRecDepth 100000 in
theorem k_181 : (Jvm.Cond.code ({ cls := "WalkRanks$Steps", name := "renew", desc := "(LWalkRanks$Graph;)V" } : Jvm.MethodName) prog_6_method_2_code (4 : Nat) (Option.none : Option Jvm.ClassFile.FieldType)) ∈ aw_WS := aw_in (List.mem_of_getElem? (i := 204) rfl) rfl
set_option maxRecDepth 100000 in
theorem k_182 : (Jvm.Cond.methodLink "WalkRanks$Steps" (30 : Nat) ({ cls := "WalkRanks$Graph", name := "allJumps", desc := "()I" } : Jvm.MethodName)) ∈ aw_WS := aw_in (List.mem_of_getElem? (i := 205) rfl) rfl
set_option maxRecDepth 100000 in
theorem k_183 : (Jvm.Cond.instanceMethod ({ cls := "WalkRanks$Graph", name := "allJumps", desc := "()I" } : Jvm.MethodName)) ∈ aw_WS := aw_in (List.mem_of_getElem? (i := 206) rfl) rfl
set_option maxRecDepth 100000 in
theorem k_184 : (Jvm.Cond.selects "WalkRanks$Graph" ({ cls := "WalkRanks$Graph", name := "allJumps", desc := "()I" } : Jvm.MethodName) ({ cls := "WalkRanks$Graph", name := "allJumps", desc := "()I" } : Jvm.MethodName)) ∈ aw_WS := aw_in (List.mem_of_getElem? (i := 207) rfl) rfl
set_option maxRecDepth 100000 in
theorem k_185 : (Jvm.Cond.code ({ cls := "WalkRanks$Graph", name := "allJumps", desc := "()I" } : Jvm.MethodName) prog_4_method_4_code (3 : Nat) (Option.some Jvm.ClassFile.FieldType.int)) ∈ aw_WS := aw_in (List.mem_of_getElem? (i := 208) rfl) rfl
set_option maxRecDepth 100000 in
theorem k_186 : (Jvm.Cond.methodLink "WalkRanks$Steps" (34 : Nat) ({ cls := "WalkRanks$Steps", name := "fillParts", desc := "(LWalkRanks$Graph;II)V" } : Jvm.MethodName)) ∈ aw_WS := aw_in (List.mem_of_getElem? (i := 209) rfl) rfl
set_option maxRecDepth 100000 in
theorem k_188 : (Jvm.Cond.instanceMethod ({ cls := "WalkRanks$Steps", name := "fillParts", desc := "(LWalkRanks$Graph;II)V" } : Jvm.MethodName)) ∈ aw_WS := aw_in (List.mem_of_getElem? (i := 211) rfl) rfl
set_option maxRecDepth 100000 in
theorem k_189 : (Jvm.Cond.code ({ cls := "WalkRanks$Steps", name := "fillParts", desc := "(LWalkRanks$Graph;II)V" } : Jvm.MethodName) prog_6_method_3_code (8 : Nat) (Option.none : Option Jvm.ClassFile.FieldType)) ∈ aw_WS := aw_in (List.mem_of_getElem? (i := 212) rfl) rfl
set_option maxRecDepth 100000 in
theorem k_190 : (Jvm.Cond.methodLink "WalkRanks$Steps" (45 : Nat) ({ cls := "WalkRanks$Graph", name := "outOf", desc := "(I)I" } : Jvm.MethodName)) ∈ aw_WS := aw_in (List.mem_of_getElem? (i := 213) rfl) rfl
set_option maxRecDepth 100000 in
theorem k_191 : (Jvm.Cond.instanceMethod ({ cls := "WalkRanks$Graph", name := "outOf", desc := "(I)I" } : Jvm.MethodName)) ∈ aw_WS := aw_in (List.mem_of_getElem? (i := 214) rfl) rfl
set_option maxRecDepth 100000 in
theorem k_192 : (Jvm.Cond.selects "WalkRanks$Graph" ({ cls := "WalkRanks$Graph", name := "outOf", desc := "(I)I" } : Jvm.MethodName) ({ cls := "WalkRanks$Graph", name := "outOf", desc := "(I)I" } : Jvm.MethodName)) ∈ aw_WS := aw_in (List.mem_of_getElem? (i := 215) rfl) rfl
set_option maxRecDepth 100000 in
theorem k_193 : (Jvm.Cond.code ({ cls := "WalkRanks$Graph", name := "outOf", desc := "(I)I" } : Jvm.MethodName) prog_4_method_3_code (4 : Nat) (Option.some Jvm.ClassFile.FieldType.int)) ∈ aw_WS := aw_in (List.mem_of_getElem? (i := 216) rfl) rfl
set_option maxRecDepth 100000 in
theorem k_194 : (Jvm.Cond.methodLink "WalkRanks$Steps" (38 : Nat) ({ cls := "WalkRanks$Steps", name := "lowerParts", desc := "(I)V" } : Jvm.MethodName)) ∈ aw_WS := aw_in (List.mem_of_getElem? (i := 217) rfl) rfl
set_option maxRecDepth 100000 in
theorem k_196 : (Jvm.Cond.instanceMethod ({ cls := "WalkRanks$Steps", name := "lowerParts", desc := "(I)V" } : Jvm.MethodName)) ∈ aw_WS := aw_in (List.mem_of_getElem? (i := 219) rfl) rfl
set_option maxRecDepth 100000 in
theorem k_197 : (Jvm.Cond.code ({ cls := "WalkRanks$Steps", name := "lowerParts", desc := "(I)V" } : Jvm.MethodName) prog_6_method_4_code (4 : Nat) (Option.none : Option Jvm.ClassFile.FieldType)) ∈ aw_WS := aw_in (List.mem_of_getElem? (i := 220) rfl) rfl
set_option maxRecDepth 100000 in
theorem k_198 : (Jvm.Cond.methodLinkNest "WalkRanks$Steps" (61 : Nat) ({ cls := "WalkRanks", name := "greatestDivisor", desc := "(JJ)J" } : Jvm.MethodName) "WalkRanks") ∈ aw_NW := aw_inN (List.mem_of_getElem? (i := 221) rfl) rfl
set_option maxRecDepth 100000 in
theorem k_199 : (Jvm.Cond.static ({ cls := "WalkRanks", name := "greatestDivisor", desc := "(JJ)J" } : Jvm.MethodName)) ∈ aw_WS := aw_in (List.mem_of_getElem? (i := 222) rfl) rfl
set_option maxRecDepth 100000 in
theorem k_200 : (Jvm.Cond.code ({ cls := "WalkRanks", name := "greatestDivisor", desc := "(JJ)J" } : Jvm.MethodName) prog_1_method_29_code (11 : Nat) (Option.some Jvm.ClassFile.FieldType.long)) ∈ aw_WS := aw_in (List.mem_of_getElem? (i := 223) rfl) rfl
set_option maxRecDepth 100000 in
theorem k_201 : (Jvm.Cond.methodLink "WalkRanks$Steps" (42 : Nat) ({ cls := "WalkRanks$Steps", name := "sumUp", desc := "(I)V" } : Jvm.MethodName)) ∈ aw_WS := aw_in (List.mem_of_getElem? (i := 224) rfl) rfl
set_option maxRecDepth 100000 in
theorem k_203 : (Jvm.Cond.instanceMethod ({ cls := "WalkRanks$Steps", name := "sumUp", desc := "(I)V" } : Jvm.MethodName)) ∈ aw_WS := aw_in (List.mem_of_getElem? (i := 226) rfl) rfl
set_option maxRecDepth 100000 in
theorem k_204 : (Jvm.Cond.code ({ cls := "WalkRanks$Steps", name := "sumUp", desc := "(I)V" } : Jvm.MethodName) prog_6_method_5_code (3 : Nat) (Option.none : Option Jvm.ClassFile.FieldType)) ∈ aw_WS := aw_in (List.mem_of_getElem? (i := 227) rfl) rfl
set_option maxRecDepth 100000 in
theorem k_205 : (Jvm.Cond.methodLinkNest "WalkRanks$Steps" (65 : Nat) ({ cls := "WalkRanks", name := "only", desc := "(I)I" } : Jvm.MethodName) "WalkRanks") ∈ aw_NW := aw_inN (List.mem_of_getElem? (i := 228) rfl) rfl
set_option maxRecDepth 100000 in
theorem k_206 : (Jvm.Cond.static ({ cls := "WalkRanks", name := "only", desc := "(I)I" } : Jvm.MethodName)) ∈ aw_WS := aw_in (List.mem_of_getElem? (i := 229) rfl) rfl
set_option maxRecDepth 100000 in
theorem k_207 : (Jvm.Cond.code ({ cls := "WalkRanks", name := "only", desc := "(I)I" } : Jvm.MethodName) prog_1_method_30_code (1 : Nat) (Option.some Jvm.ClassFile.FieldType.int)) ∈ aw_WS := aw_in (List.mem_of_getElem? (i := 230) rfl) rfl
set_option maxRecDepth 100000 in
theorem k_208 : (Jvm.Cond.methodLink "WalkRanks" (173 : Nat) ({ cls := "WalkRanks$ClosedSets", name := "renew", desc := "(LWalkRanks$Steps;)V" } : Jvm.MethodName)) ∈ aw_WS := aw_in (List.mem_of_getElem? (i := 231) rfl) rfl
set_option maxRecDepth 100000 in
theorem k_209 : (Jvm.Cond.instanceMethod ({ cls := "WalkRanks$ClosedSets", name := "renew", desc := "(LWalkRanks$Steps;)V" } : Jvm.MethodName)) ∈ aw_WS := aw_in (List.mem_of_getElem? (i := 232) rfl) rfl
set_option maxRecDepth 100000 in
theorem k_210 : (Jvm.Cond.selects "WalkRanks$ClosedSets" ({ cls := "WalkRanks$ClosedSets", name := "renew", desc := "(LWalkRanks$Steps;)V" } : Jvm.MethodName) ({ cls := "WalkRanks$ClosedSets", name := "renew", desc := "(LWalkRanks$Steps;)V" } : Jvm.MethodName)) ∈ aw_WS := aw_in (List.mem_of_getElem? (i := 233) rfl) rfl
set_option maxRecDepth 100000 in
theorem k_211 : (Jvm.Cond.code ({ cls := "WalkRanks$ClosedSets", name := "renew", desc := "(LWalkRanks$Steps;)V" } : Jvm.MethodName) prog_2_method_2_code (3 : Nat) (Option.none : Option Jvm.ClassFile.FieldType)) ∈ aw_WS := aw_in (List.mem_of_getElem? (i := 234) rfl) rfl
set_option maxRecDepth 100000 in
theorem k_212 : (Jvm.Cond.methodLink "WalkRanks$ClosedSets" (34 : Nat) ({ cls := "WalkRanks$Steps", name := "nodesBehind", desc := "(II)I" } : Jvm.MethodName)) ∈ aw_WS := aw_in (List.mem_of_getElem? (i := 235) rfl) rfl
set_option maxRecDepth 100000 in
theorem k_213 : (Jvm.Cond.instanceMethod ({ cls := "WalkRanks$Steps", name := "nodesBehind", desc := "(II)I" } : Jvm.MethodName)) ∈ aw_WS := aw_in (List.mem_of_getElem? (i := 236) rfl) rfl
set_option maxRecDepth 100000 in
theorem k_214 : (Jvm.Cond.selects "WalkRanks$Steps" ({ cls := "WalkRanks$Steps", name := "nodesBehind", desc := "(II)I" } : Jvm.MethodName) ({ cls := "WalkRanks$Steps", name := "nodesBehind", desc := "(II)I" } : Jvm.MethodName)) ∈ aw_WS := aw_in (List.mem_of_getElem? (i := 237) rfl) rfl
set_option maxRecDepth 100000 in
theorem k_215 : (Jvm.Cond.code ({ cls := "WalkRanks$Steps", name := "nodesBehind", desc := "(II)I" } : Jvm.MethodName) prog_6_method_8_code (5 : Nat) (Option.some Jvm.ClassFile.FieldType.int)) ∈ aw_WS := aw_in (List.mem_of_getElem? (i := 238) rfl) rfl
set_option maxRecDepth 100000 in
theorem k_216 : (Jvm.Cond.methodLink "WalkRanks$Steps" (72 : Nat) ({ cls := "WalkRanks$Steps", name := "nextOf", desc := "(I)I" } : Jvm.MethodName)) ∈ aw_WS := aw_in (List.mem_of_getElem? (i := 239) rfl) rfl
set_option maxRecDepth 100000 in
theorem k_218 : (Jvm.Cond.instanceMethod ({ cls := "WalkRanks$Steps", name := "nextOf", desc := "(I)I" } : Jvm.MethodName)) ∈ aw_WS := aw_in (List.mem_of_getElem? (i := 241) rfl) rfl
set_option maxRecDepth 100000 in
theorem k_219 : (Jvm.Cond.code ({ cls := "WalkRanks$Steps", name := "nextOf", desc := "(I)I" } : Jvm.MethodName) prog_6_method_7_code (4 : Nat) (Option.some Jvm.ClassFile.FieldType.int)) ∈ aw_WS := aw_in (List.mem_of_getElem? (i := 242) rfl) rfl
set_option maxRecDepth 100000 in
theorem k_220 : (Jvm.Cond.methodLinkNest "WalkRanks$Steps" (68 : Nat) ({ cls := "WalkRanks", name := "has", desc := "(II)Z" } : Jvm.MethodName) "WalkRanks") ∈ aw_NW := aw_inN (List.mem_of_getElem? (i := 243) rfl) rfl
set_option maxRecDepth 100000 in
theorem k_221 : (Jvm.Cond.static ({ cls := "WalkRanks", name := "has", desc := "(II)Z" } : Jvm.MethodName)) ∈ aw_WS := aw_in (List.mem_of_getElem? (i := 244) rfl) rfl
set_option maxRecDepth 100000 in
theorem k_222 : (Jvm.Cond.code ({ cls := "WalkRanks", name := "has", desc := "(II)Z" } : Jvm.MethodName) prog_1_method_31_code (2 : Nat) (Option.some Jvm.ClassFile.FieldType.boolean)) ∈ aw_WS := aw_in (List.mem_of_getElem? (i := 245) rfl) rfl
set_option maxRecDepth 100000 in
theorem k_223 : (Jvm.Cond.methodLink "WalkRanks" (122 : Nat) ({ cls := "WalkRanks", name := "only", desc := "(I)I" } : Jvm.MethodName)) ∈ aw_WS := aw_in (List.mem_of_getElem? (i := 246) rfl) rfl
set_option maxRecDepth 100000 in
theorem k_224 : (Jvm.Cond.methodLink "WalkRanks$ClosedSets" (38 : Nat) ({ cls := "WalkRanks$ClosedSets", name := "isClosedFrom", desc := "(I)Z" } : Jvm.MethodName)) ∈ aw_WS := aw_in (List.mem_of_getElem? (i := 247) rfl) rfl
set_option maxRecDepth 100000 in
theorem k_226 : (Jvm.Cond.instanceMethod ({ cls := "WalkRanks$ClosedSets", name := "isClosedFrom", desc := "(I)Z" } : Jvm.MethodName)) ∈ aw_WS := aw_in (List.mem_of_getElem? (i := 249) rfl) rfl
set_option maxRecDepth 100000 in
theorem k_227 : (Jvm.Cond.code ({ cls := "WalkRanks$ClosedSets", name := "isClosedFrom", desc := "(I)Z" } : Jvm.MethodName) prog_2_method_3_code (2 : Nat) (Option.some Jvm.ClassFile.FieldType.boolean)) ∈ aw_WS := aw_in (List.mem_of_getElem? (i := 250) rfl) rfl
set_option maxRecDepth 100000 in
theorem k_228 : (Jvm.Cond.methodLinkNest "WalkRanks$ClosedSets" (46 : Nat) ({ cls := "WalkRanks", name := "only", desc := "(I)I" } : Jvm.MethodName) "WalkRanks") ∈ aw_NW := aw_inN (List.mem_of_getElem? (i := 251) rfl) rfl
set_option maxRecDepth 100000 in
theorem k_229 : (Jvm.Cond.methodLink "WalkRanks$ClosedSets" (50 : Nat) ({ cls := "WalkRanks$ClosedSets", name := "leadingTo", desc := "(I)I" } : Jvm.MethodName)) ∈ aw_WS := aw_in (List.mem_of_getElem? (i := 252) rfl) rfl
set_option maxRecDepth 100000 in
theorem k_230 : (Jvm.Cond.instanceMethod ({ cls := "WalkRanks$ClosedSets", name := "leadingTo", desc := "(I)I" } : Jvm.MethodName)) ∈ aw_WS := aw_in (List.mem_of_getElem? (i := 253) rfl) rfl
set_option maxRecDepth 100000 in
theorem k_231 : (Jvm.Cond.selects "WalkRanks$ClosedSets" ({ cls := "WalkRanks$ClosedSets", name := "leadingTo", desc := "(I)I" } : Jvm.MethodName) ({ cls := "WalkRanks$ClosedSets", name := "leadingTo", desc := "(I)I" } : Jvm.MethodName)) ∈ aw_WS := aw_in (List.mem_of_getElem? (i := 254) rfl) rfl
set_option maxRecDepth 100000 in
theorem k_232 : (Jvm.Cond.code ({ cls := "WalkRanks$ClosedSets", name := "leadingTo", desc := "(I)I" } : Jvm.MethodName) prog_2_method_5_code (4 : Nat) (Option.some Jvm.ClassFile.FieldType.int)) ∈ aw_WS := aw_in (List.mem_of_getElem? (i := 255) rfl) rfl
set_option maxRecDepth 100000 in
theorem k_233 : (Jvm.Cond.methodLink "WalkRanks$ClosedSets" (42 : Nat) ({ cls := "WalkRanks$ClosedSets", name := "addSet", desc := "(I)V" } : Jvm.MethodName)) ∈ aw_WS := aw_in (List.mem_of_getElem? (i := 256) rfl) rfl
set_option maxRecDepth 100000 in
theorem k_235 : (Jvm.Cond.instanceMethod ({ cls := "WalkRanks$ClosedSets", name := "addSet", desc := "(I)V" } : Jvm.MethodName)) ∈ aw_WS := aw_in (List.mem_of_getElem? (i := 258) rfl) rfl
set_option maxRecDepth 100000 in
theorem k_236 : (Jvm.Cond.code ({ cls := "WalkRanks$ClosedSets", name := "addSet", desc := "(I)V" } : Jvm.MethodName) prog_2_method_4_code (3 : Nat) (Option.none : Option Jvm.ClassFile.FieldType)) ∈ aw_WS := aw_in (List.mem_of_getElem? (i := 259) rfl) rfl
set_option maxRecDepth 100000 in
theorem k_237 : (Jvm.Cond.methodLinkNest "WalkRanks$ClosedSets" (53 : Nat) ({ cls := "WalkRanks", name := "has", desc := "(II)Z" } : Jvm.MethodName) "WalkRanks") ∈ aw_NW := aw_inN (List.mem_of_getElem? (i := 260) rfl) rfl
set_option maxRecDepth 100000 in
theorem k_238 : (Jvm.Cond.methodLink "WalkRanksLaw" (18 : Nat) ({ cls := "WalkRanks", name := "weight", desc := "(III)I" } : Jvm.MethodName)) ∈ aw_WS := aw_in (List.mem_of_getElem? (i := 261) rfl) rfl
set_option maxRecDepth 100000 in
theorem k_239 : (Jvm.Cond.instanceMethod ({ cls := "WalkRanks", name := "weight", desc := "(III)I" } : Jvm.MethodName)) ∈ aw_WS := aw_in (List.mem_of_getElem? (i := 262) rfl) rfl
set_option maxRecDepth 100000 in
theorem k_240 : (Jvm.Cond.selects "WalkRanks" ({ cls := "WalkRanks", name := "weight", desc := "(III)I" } : Jvm.MethodName) ({ cls := "WalkRanks", name := "weight", desc := "(III)I" } : Jvm.MethodName)) ∈ aw_WS := aw_in (List.mem_of_getElem? (i := 263) rfl) rfl
set_option maxRecDepth 100000 in
theorem k_241 : (Jvm.Cond.code ({ cls := "WalkRanks", name := "weight", desc := "(III)I" } : Jvm.MethodName) prog_1_method_3_code (5 : Nat) (Option.some Jvm.ClassFile.FieldType.int)) ∈ aw_WS := aw_in (List.mem_of_getElem? (i := 264) rfl) rfl
set_option maxRecDepth 100000 in
theorem k_242 : (Jvm.Cond.methodLink "WalkRanks" (59 : Nat) ({ cls := "WalkRanks", name := "isNode", desc := "(I)Z" } : Jvm.MethodName)) ∈ aw_WS := aw_in (List.mem_of_getElem? (i := 265) rfl) rfl
set_option maxRecDepth 100000 in
theorem k_244 : (Jvm.Cond.instanceMethod ({ cls := "WalkRanks", name := "isNode", desc := "(I)Z" } : Jvm.MethodName)) ∈ aw_WS := aw_in (List.mem_of_getElem? (i := 267) rfl) rfl
set_option maxRecDepth 100000 in
theorem k_245 : (Jvm.Cond.code ({ cls := "WalkRanks", name := "isNode", desc := "(I)Z" } : Jvm.MethodName) prog_1_method_21_code (2 : Nat) (Option.some Jvm.ClassFile.FieldType.boolean)) ∈ aw_WS := aw_in (List.mem_of_getElem? (i := 268) rfl) rfl
set_option maxRecDepth 100000 in
theorem k_246 : (Jvm.Cond.methodLink "WalkRanksLaw" (23 : Nat) ({ cls := "WalkRanks", name := "jump", desc := "(II)I" } : Jvm.MethodName)) ∈ aw_WS := aw_in (List.mem_of_getElem? (i := 269) rfl) rfl
set_option maxRecDepth 100000 in
theorem k_247 : (Jvm.Cond.instanceMethod ({ cls := "WalkRanks", name := "jump", desc := "(II)I" } : Jvm.MethodName)) ∈ aw_WS := aw_in (List.mem_of_getElem? (i := 270) rfl) rfl
set_option maxRecDepth 100000 in
theorem k_248 : (Jvm.Cond.selects "WalkRanks" ({ cls := "WalkRanks", name := "jump", desc := "(II)I" } : Jvm.MethodName) ({ cls := "WalkRanks", name := "jump", desc := "(II)I" } : Jvm.MethodName)) ∈ aw_WS := aw_in (List.mem_of_getElem? (i := 271) rfl) rfl
set_option maxRecDepth 100000 in
theorem k_249 : (Jvm.Cond.code ({ cls := "WalkRanks", name := "jump", desc := "(II)I" } : Jvm.MethodName) prog_1_method_4_code (4 : Nat) (Option.some Jvm.ClassFile.FieldType.int)) ∈ aw_WS := aw_in (List.mem_of_getElem? (i := 272) rfl) rfl
set_option maxRecDepth 100000 in
theorem k_250 : (Jvm.Cond.methodLink "WalkRanksLaw" (28 : Nat) ({ cls := "WalkRanks", name := "keep", desc := "(II)I" } : Jvm.MethodName)) ∈ aw_WS := aw_in (List.mem_of_getElem? (i := 273) rfl) rfl
set_option maxRecDepth 100000 in
theorem k_251 : (Jvm.Cond.instanceMethod ({ cls := "WalkRanks", name := "keep", desc := "(II)I" } : Jvm.MethodName)) ∈ aw_WS := aw_in (List.mem_of_getElem? (i := 274) rfl) rfl
set_option maxRecDepth 100000 in
theorem k_252 : (Jvm.Cond.selects "WalkRanks" ({ cls := "WalkRanks", name := "keep", desc := "(II)I" } : Jvm.MethodName) ({ cls := "WalkRanks", name := "keep", desc := "(II)I" } : Jvm.MethodName)) ∈ aw_WS := aw_in (List.mem_of_getElem? (i := 275) rfl) rfl
set_option maxRecDepth 100000 in
theorem k_253 : (Jvm.Cond.code ({ cls := "WalkRanks", name := "keep", desc := "(II)I" } : Jvm.MethodName) prog_1_method_5_code (3 : Nat) (Option.some Jvm.ClassFile.FieldType.int)) ∈ aw_WS := aw_in (List.mem_of_getElem? (i := 276) rfl) rfl
set_option maxRecDepth 100000 in
theorem k_254 : (Jvm.Cond.methodLink "WalkRanksLaw" (32 : Nat) ({ cls := "WalkRanks", name := "clear", desc := "()I" } : Jvm.MethodName)) ∈ aw_WS := aw_in (List.mem_of_getElem? (i := 277) rfl) rfl
set_option maxRecDepth 100000 in
theorem k_255 : (Jvm.Cond.instanceMethod ({ cls := "WalkRanks", name := "clear", desc := "()I" } : Jvm.MethodName)) ∈ aw_WS := aw_in (List.mem_of_getElem? (i := 278) rfl) rfl
set_option maxRecDepth 100000 in
theorem k_256 : (Jvm.Cond.selects "WalkRanks" ({ cls := "WalkRanks", name := "clear", desc := "()I" } : Jvm.MethodName) ({ cls := "WalkRanks", name := "clear", desc := "()I" } : Jvm.MethodName)) ∈ aw_WS := aw_in (List.mem_of_getElem? (i := 279) rfl) rfl
set_option maxRecDepth 100000 in
theorem k_257 : (Jvm.Cond.code ({ cls := "WalkRanks", name := "clear", desc := "()I" } : Jvm.MethodName) prog_1_method_6_code (2 : Nat) (Option.some Jvm.ClassFile.FieldType.int)) ∈ aw_WS := aw_in (List.mem_of_getElem? (i := 280) rfl) rfl
set_option maxRecDepth 100000 in
theorem k_258 : (Jvm.Cond.methodLink "WalkRanksLaw" (36 : Nat) ({ cls := "WalkRanks", name := "row", desc := "(II)I" } : Jvm.MethodName)) ∈ aw_WS := aw_in (List.mem_of_getElem? (i := 281) rfl) rfl
set_option maxRecDepth 100000 in
theorem k_259 : (Jvm.Cond.instanceMethod ({ cls := "WalkRanks", name := "row", desc := "(II)I" } : Jvm.MethodName)) ∈ aw_WS := aw_in (List.mem_of_getElem? (i := 282) rfl) rfl
set_option maxRecDepth 100000 in
theorem k_260 : (Jvm.Cond.selects "WalkRanks" ({ cls := "WalkRanks", name := "row", desc := "(II)I" } : Jvm.MethodName) ({ cls := "WalkRanks", name := "row", desc := "(II)I" } : Jvm.MethodName)) ∈ aw_WS := aw_in (List.mem_of_getElem? (i := 283) rfl) rfl
set_option maxRecDepth 100000 in
theorem k_261 : (Jvm.Cond.code ({ cls := "WalkRanks", name := "row", desc := "(II)I" } : Jvm.MethodName) prog_1_method_7_code (3 : Nat) (Option.some Jvm.ClassFile.FieldType.int)) ∈ aw_WS := aw_in (List.mem_of_getElem? (i := 284) rfl) rfl
set_option maxRecDepth 100000 in
theorem k_262 : (Jvm.Cond.methodLink "WalkRanksLaw" (40 : Nat) ({ cls := "WalkRanks", name := "total", desc := "(I)I" } : Jvm.MethodName)) ∈ aw_WS := aw_in (List.mem_of_getElem? (i := 285) rfl) rfl
set_option maxRecDepth 100000 in
theorem k_263 : (Jvm.Cond.instanceMethod ({ cls := "WalkRanks", name := "total", desc := "(I)I" } : Jvm.MethodName)) ∈ aw_WS := aw_in (List.mem_of_getElem? (i := 286) rfl) rfl
set_option maxRecDepth 100000 in
theorem k_264 : (Jvm.Cond.selects "WalkRanks" ({ cls := "WalkRanks", name := "total", desc := "(I)I" } : Jvm.MethodName) ({ cls := "WalkRanks", name := "total", desc := "(I)I" } : Jvm.MethodName)) ∈ aw_WS := aw_in (List.mem_of_getElem? (i := 287) rfl) rfl
set_option maxRecDepth 100000 in
theorem k_265 : (Jvm.Cond.code ({ cls := "WalkRanks", name := "total", desc := "(I)I" } : Jvm.MethodName) prog_1_method_8_code (2 : Nat) (Option.some Jvm.ClassFile.FieldType.int)) ∈ aw_WS := aw_in (List.mem_of_getElem? (i := 288) rfl) rfl
set_option maxRecDepth 100000 in
theorem k_266 : (Jvm.Cond.methodLink "WalkRanksLaw" (45 : Nat) ({ cls := "WalkRanks", name := "closed", desc := "()I" } : Jvm.MethodName)) ∈ aw_WS := aw_in (List.mem_of_getElem? (i := 289) rfl) rfl
set_option maxRecDepth 100000 in
theorem k_267 : (Jvm.Cond.instanceMethod ({ cls := "WalkRanks", name := "closed", desc := "()I" } : Jvm.MethodName)) ∈ aw_WS := aw_in (List.mem_of_getElem? (i := 290) rfl) rfl
set_option maxRecDepth 100000 in
theorem k_268 : (Jvm.Cond.selects "WalkRanks" ({ cls := "WalkRanks", name := "closed", desc := "()I" } : Jvm.MethodName) ({ cls := "WalkRanks", name := "closed", desc := "()I" } : Jvm.MethodName)) ∈ aw_WS := aw_in (List.mem_of_getElem? (i := 291) rfl) rfl
set_option maxRecDepth 100000 in
theorem k_269 : (Jvm.Cond.code ({ cls := "WalkRanks", name := "closed", desc := "()I" } : Jvm.MethodName) prog_1_method_9_code (1 : Nat) (Option.some Jvm.ClassFile.FieldType.int)) ∈ aw_WS := aw_in (List.mem_of_getElem? (i := 292) rfl) rfl
set_option maxRecDepth 100000 in
theorem k_270 : (Jvm.Cond.methodLink "WalkRanksLaw" (49 : Nat) ({ cls := "WalkRanks", name := "closedOf", desc := "(I)I" } : Jvm.MethodName)) ∈ aw_WS := aw_in (List.mem_of_getElem? (i := 293) rfl) rfl
set_option maxRecDepth 100000 in
theorem k_271 : (Jvm.Cond.instanceMethod ({ cls := "WalkRanks", name := "closedOf", desc := "(I)I" } : Jvm.MethodName)) ∈ aw_WS := aw_in (List.mem_of_getElem? (i := 294) rfl) rfl
set_option maxRecDepth 100000 in
theorem k_272 : (Jvm.Cond.selects "WalkRanks" ({ cls := "WalkRanks", name := "closedOf", desc := "(I)I" } : Jvm.MethodName) ({ cls := "WalkRanks", name := "closedOf", desc := "(I)I" } : Jvm.MethodName)) ∈ aw_WS := aw_in (List.mem_of_getElem? (i := 295) rfl) rfl
set_option maxRecDepth 100000 in
theorem k_273 : (Jvm.Cond.code ({ cls := "WalkRanks", name := "closedOf", desc := "(I)I" } : Jvm.MethodName) prog_1_method_10_code (2 : Nat) (Option.some Jvm.ClassFile.FieldType.int)) ∈ aw_WS := aw_in (List.mem_of_getElem? (i := 296) rfl) rfl
set_option maxRecDepth 100000 in
theorem k_274 : (Jvm.Cond.methodLink "WalkRanksLaw" (53 : Nat) ({ cls := "WalkRanks", name := "period", desc := "(I)I" } : Jvm.MethodName)) ∈ aw_WS := aw_in (List.mem_of_getElem? (i := 297) rfl) rfl
set_option maxRecDepth 100000 in
theorem k_275 : (Jvm.Cond.instanceMethod ({ cls := "WalkRanks", name := "period", desc := "(I)I" } : Jvm.MethodName)) ∈ aw_WS := aw_in (List.mem_of_getElem? (i := 298) rfl) rfl
set_option maxRecDepth 100000 in
theorem k_276 : (Jvm.Cond.selects "WalkRanks" ({ cls := "WalkRanks", name := "period", desc := "(I)I" } : Jvm.MethodName) ({ cls := "WalkRanks", name := "period", desc := "(I)I" } : Jvm.MethodName)) ∈ aw_WS := aw_in (List.mem_of_getElem? (i := 299) rfl) rfl
set_option maxRecDepth 100000 in
theorem k_277 : (Jvm.Cond.code ({ cls := "WalkRanks", name := "period", desc := "(I)I" } : Jvm.MethodName) prog_1_method_11_code (2 : Nat) (Option.some Jvm.ClassFile.FieldType.int)) ∈ aw_WS := aw_in (List.mem_of_getElem? (i := 300) rfl) rfl
set_option maxRecDepth 100000 in
theorem k_278 : (Jvm.Cond.methodLink "WalkRanks" (89 : Nat) ({ cls := "WalkRanks", name := "isSet", desc := "(I)Z" } : Jvm.MethodName)) ∈ aw_WS := aw_in (List.mem_of_getElem? (i := 301) rfl) rfl
set_option maxRecDepth 100000 in
theorem k_280 : (Jvm.Cond.instanceMethod ({ cls := "WalkRanks", name := "isSet", desc := "(I)Z" } : Jvm.MethodName)) ∈ aw_WS := aw_in (List.mem_of_getElem? (i := 303) rfl) rfl
set_option maxRecDepth 100000 in
theorem k_281 : (Jvm.Cond.code ({ cls := "WalkRanks", name := "isSet", desc := "(I)Z" } : Jvm.MethodName) prog_1_method_22_code (2 : Nat) (Option.some Jvm.ClassFile.FieldType.boolean)) ∈ aw_WS := aw_in (List.mem_of_getElem? (i := 304) rfl) rfl
set_option maxRecDepth 100000 in
theorem k_282 : (Jvm.Cond.methodLink "WalkRanks" (95 : Nat) ({ cls := "WalkRanks$Steps", name := "periodAt", desc := "(I)I" } : Jvm.MethodName)) ∈ aw_WS := aw_in (List.mem_of_getElem? (i := 305) rfl) rfl
set_option maxRecDepth 100000 in
theorem k_283 : (Jvm.Cond.instanceMethod ({ cls := "WalkRanks$Steps", name := "periodAt", desc := "(I)I" } : Jvm.MethodName)) ∈ aw_WS := aw_in (List.mem_of_getElem? (i := 306) rfl) rfl
set_option maxRecDepth 100000 in
theorem k_284 : (Jvm.Cond.selects "WalkRanks$Steps" ({ cls := "WalkRanks$Steps", name := "periodAt", desc := "(I)I" } : Jvm.MethodName) ({ cls := "WalkRanks$Steps", name := "periodAt", desc := "(I)I" } : Jvm.MethodName)) ∈ aw_WS := aw_in (List.mem_of_getElem? (i := 307) rfl) rfl
set_option maxRecDepth 100000 in
theorem k_285 : (Jvm.Cond.code ({ cls := "WalkRanks$Steps", name := "periodAt", desc := "(I)I" } : Jvm.MethodName) prog_6_method_9_code (5 : Nat) (Option.some Jvm.ClassFile.FieldType.int)) ∈ aw_WS := aw_in (List.mem_of_getElem? (i := 308) rfl) rfl
set_option maxRecDepth 100000 in
theorem k_286 : (Jvm.Cond.methodLink "WalkRanksLaw" (57 : Nat) ({ cls := "WalkRanks", name := "rank", desc := "(II)J" } : Jvm.MethodName)) ∈ aw_WS := aw_in (List.mem_of_getElem? (i := 309) rfl) rfl
set_option maxRecDepth 100000 in
theorem k_287 : (Jvm.Cond.instanceMethod ({ cls := "WalkRanks", name := "rank", desc := "(II)J" } : Jvm.MethodName)) ∈ aw_WS := aw_in (List.mem_of_getElem? (i := 310) rfl) rfl
set_option maxRecDepth 100000 in
theorem k_288 : (Jvm.Cond.selects "WalkRanks" ({ cls := "WalkRanks", name := "rank", desc := "(II)J" } : Jvm.MethodName) ({ cls := "WalkRanks", name := "rank", desc := "(II)J" } : Jvm.MethodName)) ∈ aw_WS := aw_in (List.mem_of_getElem? (i := 311) rfl) rfl
set_option maxRecDepth 100000 in
theorem k_289 : (Jvm.Cond.code ({ cls := "WalkRanks", name := "rank", desc := "(II)J" } : Jvm.MethodName) prog_1_method_12_code (5 : Nat) (Option.some Jvm.ClassFile.FieldType.long)) ∈ aw_WS := aw_in (List.mem_of_getElem? (i := 312) rfl) rfl
set_option maxRecDepth 100000 in
theorem k_290 : (Jvm.Cond.constantLong "WalkRanks" (99 : Nat) (-1 : Int64)) ∈ aw_WS := aw_in (List.mem_of_getElem? (i := 313) rfl) rfl
set_option maxRecDepth 100000 in
theorem k_291 : (Jvm.Cond.methodLink "WalkRanks" (101 : Nat) ({ cls := "WalkRanks", name := "isPart", desc := "(I)Z" } : Jvm.MethodName)) ∈ aw_WS := aw_in (List.mem_of_getElem? (i := 314) rfl) rfl
set_option maxRecDepth 100000 in
theorem k_292 : (Jvm.Cond.static ({ cls := "WalkRanks", name := "isPart", desc := "(I)Z" } : Jvm.MethodName)) ∈ aw_WS := aw_in (List.mem_of_getElem? (i := 315) rfl) rfl
set_option maxRecDepth 100000 in
theorem k_293 : (Jvm.Cond.code ({ cls := "WalkRanks", name := "isPart", desc := "(I)Z" } : Jvm.MethodName) prog_1_method_23_code (1 : Nat) (Option.some Jvm.ClassFile.FieldType.boolean)) ∈ aw_WS := aw_in (List.mem_of_getElem? (i := 316) rfl) rfl
set_option maxRecDepth 100000 in
theorem k_294 : (Jvm.Cond.constantLong "WalkRanks" (104 : Nat) (-2 : Int64)) ∈ aw_WS := aw_in (List.mem_of_getElem? (i := 317) rfl) rfl
set_option maxRecDepth 100000 in
theorem k_295 : (Jvm.Cond.constantLong "WalkRanks" (106 : Nat) (-3 : Int64)) ∈ aw_WS := aw_in (List.mem_of_getElem? (i := 318) rfl) rfl
set_option maxRecDepth 100000 in
theorem k_296 : (Jvm.Cond.methodLink "WalkRanks" (111 : Nat) ({ cls := "WalkRanks", name := "fillShares", desc := "(I)J" } : Jvm.MethodName)) ∈ aw_WS := aw_in (List.mem_of_getElem? (i := 319) rfl) rfl
set_option maxRecDepth 100000 in
theorem k_298 : (Jvm.Cond.instanceMethod ({ cls := "WalkRanks", name := "fillShares", desc := "(I)J" } : Jvm.MethodName)) ∈ aw_WS := aw_in (List.mem_of_getElem? (i := 321) rfl) rfl
set_option maxRecDepth 100000 in
theorem k_299 : (Jvm.Cond.code ({ cls := "WalkRanks", name := "fillShares", desc := "(I)J" } : Jvm.MethodName) prog_1_method_25_code (5 : Nat) (Option.some Jvm.ClassFile.FieldType.long)) ∈ aw_WS := aw_in (List.mem_of_getElem? (i := 322) rfl) rfl
set_option maxRecDepth 100000 in
theorem k_300 : (Jvm.Cond.methodLink "WalkRanks" (176 : Nat) ({ cls := "WalkRanks", name := "has", desc := "(II)Z" } : Jvm.MethodName)) ∈ aw_WS := aw_in (List.mem_of_getElem? (i := 323) rfl) rfl
set_option maxRecDepth 100000 in
theorem k_301 : (Jvm.Cond.methodLink "WalkRanks" (136 : Nat) ({ cls := "WalkRanks$Equations", name := "fill", desc := "(LWalkRanks$Steps;I)V" } : Jvm.MethodName)) ∈ aw_WS := aw_in (List.mem_of_getElem? (i := 324) rfl) rfl
set_option maxRecDepth 100000 in
theorem k_302 : (Jvm.Cond.instanceMethod ({ cls := "WalkRanks$Equations", name := "fill", desc := "(LWalkRanks$Steps;I)V" } : Jvm.MethodName)) ∈ aw_WS := aw_in (List.mem_of_getElem? (i := 325) rfl) rfl
set_option maxRecDepth 100000 in
theorem k_303 : (Jvm.Cond.selects "WalkRanks$Equations" ({ cls := "WalkRanks$Equations", name := "fill", desc := "(LWalkRanks$Steps;I)V" } : Jvm.MethodName) ({ cls := "WalkRanks$Equations", name := "fill", desc := "(LWalkRanks$Steps;I)V" } : Jvm.MethodName)) ∈ aw_WS := aw_in (List.mem_of_getElem? (i := 326) rfl) rfl
set_option maxRecDepth 100000 in
theorem k_304 : (Jvm.Cond.code ({ cls := "WalkRanks$Equations", name := "fill", desc := "(LWalkRanks$Steps;I)V" } : Jvm.MethodName) prog_3_method_2_code (10 : Nat) (Option.none : Option Jvm.ClassFile.FieldType)) ∈ aw_WS := aw_in (List.mem_of_getElem? (i := 327) rfl) rfl
set_option maxRecDepth 100000 in
theorem k_305 : (Jvm.Cond.methodLinkNest "WalkRanks$Equations" (23 : Nat) ({ cls := "WalkRanks", name := "has", desc := "(II)Z" } : Jvm.MethodName) "WalkRanks") ∈ aw_NW := aw_inN (List.mem_of_getElem? (i := 328) rfl) rfl
set_option maxRecDepth 100000 in
theorem k_306 : (Jvm.Cond.methodLink "WalkRanks" (140 : Nat) ({ cls := "WalkRanks$Equations", name := "determinant", desc := "()J" } : Jvm.MethodName)) ∈ aw_WS := aw_in (List.mem_of_getElem? (i := 329) rfl) rfl
set_option maxRecDepth 100000 in
theorem k_307 : (Jvm.Cond.instanceMethod ({ cls := "WalkRanks$Equations", name := "determinant", desc := "()J" } : Jvm.MethodName)) ∈ aw_WS := aw_in (List.mem_of_getElem? (i := 330) rfl) rfl
set_option maxRecDepth 100000 in
theorem k_308 : (Jvm.Cond.selects "WalkRanks$Equations" ({ cls := "WalkRanks$Equations", name := "determinant", desc := "()J" } : Jvm.MethodName) ({ cls := "WalkRanks$Equations", name := "determinant", desc := "()J" } : Jvm.MethodName)) ∈ aw_WS := aw_in (List.mem_of_getElem? (i := 331) rfl) rfl
set_option maxRecDepth 100000 in
theorem k_309 : (Jvm.Cond.code ({ cls := "WalkRanks$Equations", name := "determinant", desc := "()J" } : Jvm.MethodName) prog_3_method_5_code (1 : Nat) (Option.some Jvm.ClassFile.FieldType.long)) ∈ aw_WS := aw_in (List.mem_of_getElem? (i := 332) rfl) rfl
set_option maxRecDepth 100000 in
theorem k_310 : (Jvm.Cond.methodLink "WalkRanks$Equations" (35 : Nat) ({ cls := "WalkRanks$Equations", name := "expand", desc := "([[JIII)J" } : Jvm.MethodName)) ∈ aw_WS := aw_in (List.mem_of_getElem? (i := 333) rfl) rfl
set_option maxRecDepth 100000 in
theorem k_311 : (Jvm.Cond.static ({ cls := "WalkRanks$Equations", name := "expand", desc := "([[JIII)J" } : Jvm.MethodName)) ∈ aw_WS := aw_in (List.mem_of_getElem? (i := 334) rfl) rfl
set_option maxRecDepth 100000 in
theorem k_312 : (Jvm.Cond.code ({ cls := "WalkRanks$Equations", name := "expand", desc := "([[JIII)J" } : Jvm.MethodName) prog_3_method_6_code (11 : Nat) (Option.some Jvm.ClassFile.FieldType.long)) ∈ aw_WS := aw_in (List.mem_of_getElem? (i := 335) rfl) rfl
set_option maxRecDepth 100000 in
theorem k_313 : (Jvm.Cond.methodLinkNest "WalkRanks$Equations" (39 : Nat) ({ cls := "WalkRanks", name := "only", desc := "(I)I" } : Jvm.MethodName) "WalkRanks") ∈ aw_NW := aw_inN (List.mem_of_getElem? (i := 336) rfl) rfl
set_option maxRecDepth 100000 in
theorem k_314 : (Jvm.Cond.methodLink "WalkRanks" (115 : Nat) ({ cls := "WalkRanks", name := "fraction", desc := "(JJI)J" } : Jvm.MethodName)) ∈ aw_WS := aw_in (List.mem_of_getElem? (i := 337) rfl) rfl
set_option maxRecDepth 100000 in
theorem k_315 : (Jvm.Cond.static ({ cls := "WalkRanks", name := "fraction", desc := "(JJI)J" } : Jvm.MethodName)) ∈ aw_WS := aw_in (List.mem_of_getElem? (i := 338) rfl) rfl
set_option maxRecDepth 100000 in
theorem k_316 : (Jvm.Cond.code ({ cls := "WalkRanks", name := "fraction", desc := "(JJI)J" } : Jvm.MethodName) prog_1_method_28_code (9 : Nat) (Option.some Jvm.ClassFile.FieldType.long)) ∈ aw_WS := aw_in (List.mem_of_getElem? (i := 339) rfl) rfl
set_option maxRecDepth 100000 in
theorem k_317 : (Jvm.Cond.methodLink "WalkRanks" (184 : Nat) ({ cls := "WalkRanks", name := "greatestDivisor", desc := "(JJ)J" } : Jvm.MethodName)) ∈ aw_WS := aw_in (List.mem_of_getElem? (i := 340) rfl) rfl
set_option maxRecDepth 100000 in
theorem k_318 : (Jvm.Cond.methodLink "WalkRanksLaw" (62 : Nat) ({ cls := "WalkRanks", name := "place", desc := "(I)I" } : Jvm.MethodName)) ∈ aw_WS := aw_in (List.mem_of_getElem? (i := 341) rfl) rfl
set_option maxRecDepth 100000 in
theorem k_319 : (Jvm.Cond.instanceMethod ({ cls := "WalkRanks", name := "place", desc := "(I)I" } : Jvm.MethodName)) ∈ aw_WS := aw_in (List.mem_of_getElem? (i := 342) rfl) rfl
set_option maxRecDepth 100000 in
theorem k_320 : (Jvm.Cond.selects "WalkRanks" ({ cls := "WalkRanks", name := "place", desc := "(I)I" } : Jvm.MethodName) ({ cls := "WalkRanks", name := "place", desc := "(I)I" } : Jvm.MethodName)) ∈ aw_WS := aw_in (List.mem_of_getElem? (i := 343) rfl) rfl
set_option maxRecDepth 100000 in
theorem k_321 : (Jvm.Cond.code ({ cls := "WalkRanks", name := "place", desc := "(I)I" } : Jvm.MethodName) prog_1_method_13_code (3 : Nat) (Option.some Jvm.ClassFile.FieldType.int)) ∈ aw_WS := aw_in (List.mem_of_getElem? (i := 344) rfl) rfl
set_option maxRecDepth 100000 in
theorem k_322 : (Jvm.Cond.methodLink "WalkRanks" (119 : Nat) ({ cls := "WalkRanks", name := "nodesAhead", desc := "(I)I" } : Jvm.MethodName)) ∈ aw_WS := aw_in (List.mem_of_getElem? (i := 345) rfl) rfl
set_option maxRecDepth 100000 in
theorem k_324 : (Jvm.Cond.instanceMethod ({ cls := "WalkRanks", name := "nodesAhead", desc := "(I)I" } : Jvm.MethodName)) ∈ aw_WS := aw_in (List.mem_of_getElem? (i := 347) rfl) rfl
set_option maxRecDepth 100000 in
theorem k_325 : (Jvm.Cond.code ({ cls := "WalkRanks", name := "nodesAhead", desc := "(I)I" } : Jvm.MethodName) prog_1_method_26_code (4 : Nat) (Option.some Jvm.ClassFile.FieldType.int)) ∈ aw_WS := aw_in (List.mem_of_getElem? (i := 348) rfl) rfl
set_option maxRecDepth 100000 in
theorem k_326 : (Jvm.Cond.methodLink "WalkRanksLaw" (66 : Nat) ({ cls := "WalkRanks", name := "reach", desc := "(III)J" } : Jvm.MethodName)) ∈ aw_WS := aw_in (List.mem_of_getElem? (i := 349) rfl) rfl
set_option maxRecDepth 100000 in
theorem k_327 : (Jvm.Cond.instanceMethod ({ cls := "WalkRanks", name := "reach", desc := "(III)J" } : Jvm.MethodName)) ∈ aw_WS := aw_in (List.mem_of_getElem? (i := 350) rfl) rfl
set_option maxRecDepth 100000 in
theorem k_328 : (Jvm.Cond.selects "WalkRanks" ({ cls := "WalkRanks", name := "reach", desc := "(III)J" } : Jvm.MethodName) ({ cls := "WalkRanks", name := "reach", desc := "(III)J" } : Jvm.MethodName)) ∈ aw_WS := aw_in (List.mem_of_getElem? (i := 351) rfl) rfl
set_option maxRecDepth 100000 in
theorem k_329 : (Jvm.Cond.code ({ cls := "WalkRanks", name := "reach", desc := "(III)J" } : Jvm.MethodName) prog_1_method_14_code (4 : Nat) (Option.some Jvm.ClassFile.FieldType.long)) ∈ aw_WS := aw_in (List.mem_of_getElem? (i := 352) rfl) rfl
set_option maxRecDepth 100000 in
theorem k_330 : (Jvm.Cond.methodLink "WalkRanks" (125 : Nat) ({ cls := "WalkRanks", name := "chanceToCome", desc := "(III)J" } : Jvm.MethodName)) ∈ aw_WS := aw_in (List.mem_of_getElem? (i := 353) rfl) rfl
set_option maxRecDepth 100000 in
theorem k_332 : (Jvm.Cond.instanceMethod ({ cls := "WalkRanks", name := "chanceToCome", desc := "(III)J" } : Jvm.MethodName)) ∈ aw_WS := aw_in (List.mem_of_getElem? (i := 355) rfl) rfl
set_option maxRecDepth 100000 in
theorem k_333 : (Jvm.Cond.code ({ cls := "WalkRanks", name := "chanceToCome", desc := "(III)J" } : Jvm.MethodName) prog_1_method_27_code (7 : Nat) (Option.some Jvm.ClassFile.FieldType.long)) ∈ aw_WS := aw_in (List.mem_of_getElem? (i := 356) rfl) rfl
set_option maxRecDepth 100000 in
theorem k_334 : (Jvm.Cond.methodLink "WalkRanks" (133 : Nat) ({ cls := "WalkRanks$ClosedSets", name := "leadingTo", desc := "(I)I" } : Jvm.MethodName)) ∈ aw_WS := aw_in (List.mem_of_getElem? (i := 357) rfl) rfl
set_option maxRecDepth 100000 in
theorem k_335 : (Jvm.Cond.methodLink "WalkRanks" (180 : Nat) ({ cls := "WalkRanks$Equations", name := "putChances", desc := "(LWalkRanks$Steps;III)V" } : Jvm.MethodName)) ∈ aw_WS := aw_in (List.mem_of_getElem? (i := 358) rfl) rfl
set_option maxRecDepth 100000 in
theorem k_336 : (Jvm.Cond.instanceMethod ({ cls := "WalkRanks$Equations", name := "putChances", desc := "(LWalkRanks$Steps;III)V" } : Jvm.MethodName)) ∈ aw_WS := aw_in (List.mem_of_getElem? (i := 359) rfl) rfl
set_option maxRecDepth 100000 in
theorem k_337 : (Jvm.Cond.selects "WalkRanks$Equations" ({ cls := "WalkRanks$Equations", name := "putChances", desc := "(LWalkRanks$Steps;III)V" } : Jvm.MethodName) ({ cls := "WalkRanks$Equations", name := "putChances", desc := "(LWalkRanks$Steps;III)V" } : Jvm.MethodName)) ∈ aw_WS := aw_in (List.mem_of_getElem? (i := 360) rfl) rfl
set_option maxRecDepth 100000 in
theorem k_338 : (Jvm.Cond.code ({ cls := "WalkRanks$Equations", name := "putChances", desc := "(LWalkRanks$Steps;III)V" } : Jvm.MethodName) prog_3_method_3_code (7 : Nat) (Option.none : Option Jvm.ClassFile.FieldType)) ∈ aw_WS := aw_in (List.mem_of_getElem? (i := 361) rfl) rfl
set_option maxRecDepth 100000 in
theorem k_339 : (Jvm.Cond.methodLink "WalkRanksLaw" (71 : Nat) ({ cls := "WalkRanks", name := "hit", desc := "(III)J" } : Jvm.MethodName)) ∈ aw_WS := aw_in (List.mem_of_getElem? (i := 362) rfl) rfl
set_option maxRecDepth 100000 in
theorem k_340 : (Jvm.Cond.instanceMethod ({ cls := "WalkRanks", name := "hit", desc := "(III)J" } : Jvm.MethodName)) ∈ aw_WS := aw_in (List.mem_of_getElem? (i := 363) rfl) rfl
set_option maxRecDepth 100000 in
theorem k_341 : (Jvm.Cond.selects "WalkRanks" ({ cls := "WalkRanks", name := "hit", desc := "(III)J" } : Jvm.MethodName) ({ cls := "WalkRanks", name := "hit", desc := "(III)J" } : Jvm.MethodName)) ∈ aw_WS := aw_in (List.mem_of_getElem? (i := 364) rfl) rfl
set_option maxRecDepth 100000 in
theorem k_342 : (Jvm.Cond.code ({ cls := "WalkRanks", name := "hit", desc := "(III)J" } : Jvm.MethodName) prog_1_method_15_code (7 : Nat) (Option.some Jvm.ClassFile.FieldType.long)) ∈ aw_WS := aw_in (List.mem_of_getElem? (i := 365) rfl) rfl
set_option maxRecDepth 100000 in
theorem k_343 : (Jvm.Cond.methodLink "WalkRanks" (129 : Nat) ({ cls := "WalkRanks$Steps", name := "nodesBehind", desc := "(II)I" } : Jvm.MethodName)) ∈ aw_WS := aw_in (List.mem_of_getElem? (i := 366) rfl) rfl
set_option maxRecDepth 100000 in
theorem k_344 : (Jvm.Cond.methodLink "WalkRanks" (144 : Nat) ({ cls := "WalkRanks$Equations", name := "putStepCounts", desc := "(LWalkRanks$Steps;II)V" } : Jvm.MethodName)) ∈ aw_WS := aw_in (List.mem_of_getElem? (i := 367) rfl) rfl
set_option maxRecDepth 100000 in
theorem k_345 : (Jvm.Cond.instanceMethod ({ cls := "WalkRanks$Equations", name := "putStepCounts", desc := "(LWalkRanks$Steps;II)V" } : Jvm.MethodName)) ∈ aw_WS := aw_in (List.mem_of_getElem? (i := 368) rfl) rfl
set_option maxRecDepth 100000 in
theorem k_346 : (Jvm.Cond.selects "WalkRanks$Equations" ({ cls := "WalkRanks$Equations", name := "putStepCounts", desc := "(LWalkRanks$Steps;II)V" } : Jvm.MethodName) ({ cls := "WalkRanks$Equations", name := "putStepCounts", desc := "(LWalkRanks$Steps;II)V" } : Jvm.MethodName)) ∈ aw_WS := aw_in (List.mem_of_getElem? (i := 369) rfl) rfl
set_option maxRecDepth 100000 in
theorem k_347 : (Jvm.Cond.code ({ cls := "WalkRanks$Equations", name := "putStepCounts", desc := "(LWalkRanks$Steps;II)V" } : Jvm.MethodName) prog_3_method_4_code (5 : Nat) (Option.none : Option Jvm.ClassFile.FieldType)) ∈ aw_WS := aw_in (List.mem_of_getElem? (i := 370) rfl) rfl
set_option maxRecDepth 100000 in
theorem k_348 : (Jvm.Cond.methodLink "WalkRanksLaw" (75 : Nat) ({ cls := "WalkRanks", name := "back", desc := "(II)J" } : Jvm.MethodName)) ∈ aw_WS := aw_in (List.mem_of_getElem? (i := 371) rfl) rfl
set_option maxRecDepth 100000 in
theorem k_349 : (Jvm.Cond.instanceMethod ({ cls := "WalkRanks", name := "back", desc := "(II)J" } : Jvm.MethodName)) ∈ aw_WS := aw_in (List.mem_of_getElem? (i := 372) rfl) rfl
set_option maxRecDepth 100000 in
theorem k_350 : (Jvm.Cond.selects "WalkRanks" ({ cls := "WalkRanks", name := "back", desc := "(II)J" } : Jvm.MethodName) ({ cls := "WalkRanks", name := "back", desc := "(II)J" } : Jvm.MethodName)) ∈ aw_WS := aw_in (List.mem_of_getElem? (i := 373) rfl) rfl
set_option maxRecDepth 100000 in
theorem k_351 : (Jvm.Cond.code ({ cls := "WalkRanks", name := "back", desc := "(II)J" } : Jvm.MethodName) prog_1_method_16_code (5 : Nat) (Option.some Jvm.ClassFile.FieldType.long)) ∈ aw_WS := aw_in (List.mem_of_getElem? (i := 374) rfl) rfl
set_option maxRecDepth 100000 in
theorem k_352 : (Jvm.Cond.methodLink "WalkRanksLaw" (79 : Nat) ({ cls := "WalkRanks", name := "end", desc := "(III)J" } : Jvm.MethodName)) ∈ aw_WS := aw_in (List.mem_of_getElem? (i := 375) rfl) rfl
set_option maxRecDepth 100000 in
theorem k_353 : (Jvm.Cond.instanceMethod ({ cls := "WalkRanks", name := "end", desc := "(III)J" } : Jvm.MethodName)) ∈ aw_WS := aw_in (List.mem_of_getElem? (i := 376) rfl) rfl
set_option maxRecDepth 100000 in
theorem k_354 : (Jvm.Cond.selects "WalkRanks" ({ cls := "WalkRanks", name := "end", desc := "(III)J" } : Jvm.MethodName) ({ cls := "WalkRanks", name := "end", desc := "(III)J" } : Jvm.MethodName)) ∈ aw_WS := aw_in (List.mem_of_getElem? (i := 377) rfl) rfl
set_option maxRecDepth 100000 in
theorem k_355 : (Jvm.Cond.code ({ cls := "WalkRanks", name := "end", desc := "(III)J" } : Jvm.MethodName) prog_1_method_17_code (4 : Nat) (Option.some Jvm.ClassFile.FieldType.long)) ∈ aw_WS := aw_in (List.mem_of_getElem? (i := 378) rfl) rfl
set_option maxRecDepth 100000 in
theorem k_356 : (Jvm.Cond.methodLink "WalkRanksLaw" (83 : Nat) ({ cls := "WalkRanks", name := "after", desc := "(IIII)J" } : Jvm.MethodName)) ∈ aw_WS := aw_in (List.mem_of_getElem? (i := 379) rfl) rfl
set_option maxRecDepth 100000 in
theorem k_357 : (Jvm.Cond.instanceMethod ({ cls := "WalkRanks", name := "after", desc := "(IIII)J" } : Jvm.MethodName)) ∈ aw_WS := aw_in (List.mem_of_getElem? (i := 380) rfl) rfl
set_option maxRecDepth 100000 in
theorem k_358 : (Jvm.Cond.selects "WalkRanks" ({ cls := "WalkRanks", name := "after", desc := "(IIII)J" } : Jvm.MethodName) ({ cls := "WalkRanks", name := "after", desc := "(IIII)J" } : Jvm.MethodName)) ∈ aw_WS := aw_in (List.mem_of_getElem? (i := 381) rfl) rfl
set_option maxRecDepth 100000 in
theorem k_359 : (Jvm.Cond.code ({ cls := "WalkRanks", name := "after", desc := "(IIII)J" } : Jvm.MethodName) prog_1_method_18_code (10 : Nat) (Option.some Jvm.ClassFile.FieldType.long)) ∈ aw_WS := aw_in (List.mem_of_getElem? (i := 382) rfl) rfl
set_option maxRecDepth 100000 in
theorem k_360 : (Jvm.Cond.methodLink "WalkRanks" (148 : Nat) ({ cls := "WalkRanks$Steps", name := "commonTotal", desc := "()J" } : Jvm.MethodName)) ∈ aw_WS := aw_in (List.mem_of_getElem? (i := 383) rfl) rfl
set_option maxRecDepth 100000 in
theorem k_361 : (Jvm.Cond.instanceMethod ({ cls := "WalkRanks$Steps", name := "commonTotal", desc := "()J" } : Jvm.MethodName)) ∈ aw_WS := aw_in (List.mem_of_getElem? (i := 384) rfl) rfl
set_option maxRecDepth 100000 in
theorem k_362 : (Jvm.Cond.selects "WalkRanks$Steps" ({ cls := "WalkRanks$Steps", name := "commonTotal", desc := "()J" } : Jvm.MethodName) ({ cls := "WalkRanks$Steps", name := "commonTotal", desc := "()J" } : Jvm.MethodName)) ∈ aw_WS := aw_in (List.mem_of_getElem? (i := 385) rfl) rfl
set_option maxRecDepth 100000 in
theorem k_363 : (Jvm.Cond.code ({ cls := "WalkRanks$Steps", name := "commonTotal", desc := "()J" } : Jvm.MethodName) prog_6_method_6_code (6 : Nat) (Option.some Jvm.ClassFile.FieldType.long)) ∈ aw_WS := aw_in (List.mem_of_getElem? (i := 386) rfl) rfl
set_option maxRecDepth 100000 in
theorem k_364 : (Jvm.Cond.methodLink "WalkRanks" (151 : Nat) ({ cls := "WalkRanks$Spread", name := "fillBySteps", desc := "(LWalkRanks$Steps;J)V" } : Jvm.MethodName)) ∈ aw_WS := aw_in (List.mem_of_getElem? (i := 387) rfl) rfl
set_option maxRecDepth 100000 in
theorem k_365 : (Jvm.Cond.instanceMethod ({ cls := "WalkRanks$Spread", name := "fillBySteps", desc := "(LWalkRanks$Steps;J)V" } : Jvm.MethodName)) ∈ aw_WS := aw_in (List.mem_of_getElem? (i := 388) rfl) rfl
set_option maxRecDepth 100000 in
theorem k_366 : (Jvm.Cond.selects "WalkRanks$Spread" ({ cls := "WalkRanks$Spread", name := "fillBySteps", desc := "(LWalkRanks$Steps;J)V" } : Jvm.MethodName) ({ cls := "WalkRanks$Spread", name := "fillBySteps", desc := "(LWalkRanks$Steps;J)V" } : Jvm.MethodName)) ∈ aw_WS := aw_in (List.mem_of_getElem? (i := 389) rfl) rfl
set_option maxRecDepth 100000 in
theorem k_367 : (Jvm.Cond.code ({ cls := "WalkRanks$Spread", name := "fillBySteps", desc := "(LWalkRanks$Steps;J)V" } : Jvm.MethodName) prog_5_method_3_code (8 : Nat) (Option.none : Option Jvm.ClassFile.FieldType)) ∈ aw_WS := aw_in (List.mem_of_getElem? (i := 390) rfl) rfl
set_option maxRecDepth 100000 in
theorem k_368 : (Jvm.Cond.methodLink "WalkRanks" (155 : Nat) ({ cls := "WalkRanks$Spread", name := "run", desc := "(II)V" } : Jvm.MethodName)) ∈ aw_WS := aw_in (List.mem_of_getElem? (i := 391) rfl) rfl
set_option maxRecDepth 100000 in
theorem k_369 : (Jvm.Cond.instanceMethod ({ cls := "WalkRanks$Spread", name := "run", desc := "(II)V" } : Jvm.MethodName)) ∈ aw_WS := aw_in (List.mem_of_getElem? (i := 392) rfl) rfl
set_option maxRecDepth 100000 in
theorem k_370 : (Jvm.Cond.selects "WalkRanks$Spread" ({ cls := "WalkRanks$Spread", name := "run", desc := "(II)V" } : Jvm.MethodName) ({ cls := "WalkRanks$Spread", name := "run", desc := "(II)V" } : Jvm.MethodName)) ∈ aw_WS := aw_in (List.mem_of_getElem? (i := 393) rfl) rfl
set_option maxRecDepth 100000 in
theorem k_371 : (Jvm.Cond.code ({ cls := "WalkRanks$Spread", name := "run", desc := "(II)V" } : Jvm.MethodName) prog_5_method_4_code (4 : Nat) (Option.none : Option Jvm.ClassFile.FieldType)) ∈ aw_WS := aw_in (List.mem_of_getElem? (i := 394) rfl) rfl
set_option maxRecDepth 100000 in
theorem k_372 : (Jvm.Cond.methodLink "WalkRanks$Spread" (44 : Nat) ({ cls := "WalkRanks$Spread", name := "move", desc := "()V" } : Jvm.MethodName)) ∈ aw_WS := aw_in (List.mem_of_getElem? (i := 395) rfl) rfl
set_option maxRecDepth 100000 in
theorem k_374 : (Jvm.Cond.instanceMethod ({ cls := "WalkRanks$Spread", name := "move", desc := "()V" } : Jvm.MethodName)) ∈ aw_WS := aw_in (List.mem_of_getElem? (i := 397) rfl) rfl
set_option maxRecDepth 100000 in
theorem k_375 : (Jvm.Cond.code ({ cls := "WalkRanks$Spread", name := "move", desc := "()V" } : Jvm.MethodName) prog_5_method_6_code (3 : Nat) (Option.none : Option Jvm.ClassFile.FieldType)) ∈ aw_WS := aw_in (List.mem_of_getElem? (i := 398) rfl) rfl
set_option maxRecDepth 100000 in
theorem k_376 : (Jvm.Cond.methodLink "WalkRanks" (159 : Nat) ({ cls := "WalkRanks$Spread", name := "numberAt", desc := "(I)J" } : Jvm.MethodName)) ∈ aw_WS := aw_in (List.mem_of_getElem? (i := 399) rfl) rfl
set_option maxRecDepth 100000 in
theorem k_377 : (Jvm.Cond.instanceMethod ({ cls := "WalkRanks$Spread", name := "numberAt", desc := "(I)J" } : Jvm.MethodName)) ∈ aw_WS := aw_in (List.mem_of_getElem? (i := 400) rfl) rfl
set_option maxRecDepth 100000 in
theorem k_378 : (Jvm.Cond.selects "WalkRanks$Spread" ({ cls := "WalkRanks$Spread", name := "numberAt", desc := "(I)J" } : Jvm.MethodName) ({ cls := "WalkRanks$Spread", name := "numberAt", desc := "(I)J" } : Jvm.MethodName)) ∈ aw_WS := aw_in (List.mem_of_getElem? (i := 401) rfl) rfl
set_option maxRecDepth 100000 in
theorem k_379 : (Jvm.Cond.code ({ cls := "WalkRanks$Spread", name := "numberAt", desc := "(I)J" } : Jvm.MethodName) prog_5_method_5_code (2 : Nat) (Option.some Jvm.ClassFile.FieldType.long)) ∈ aw_WS := aw_in (List.mem_of_getElem? (i := 402) rfl) rfl
set_option maxRecDepth 100000 in
theorem k_380 : (Jvm.Cond.methodLink "WalkRanksLaw" (88 : Nat) ({ cls := "WalkRanks", name := "walks", desc := "(III)J" } : Jvm.MethodName)) ∈ aw_WS := aw_in (List.mem_of_getElem? (i := 403) rfl) rfl
set_option maxRecDepth 100000 in
theorem k_381 : (Jvm.Cond.instanceMethod ({ cls := "WalkRanks", name := "walks", desc := "(III)J" } : Jvm.MethodName)) ∈ aw_WS := aw_in (List.mem_of_getElem? (i := 404) rfl) rfl
set_option maxRecDepth 100000 in
theorem k_382 : (Jvm.Cond.selects "WalkRanks" ({ cls := "WalkRanks", name := "walks", desc := "(III)J" } : Jvm.MethodName) ({ cls := "WalkRanks", name := "walks", desc := "(III)J" } : Jvm.MethodName)) ∈ aw_WS := aw_in (List.mem_of_getElem? (i := 405) rfl) rfl
set_option maxRecDepth 100000 in
theorem k_383 : (Jvm.Cond.code ({ cls := "WalkRanks", name := "walks", desc := "(III)J" } : Jvm.MethodName) prog_1_method_19_code (4 : Nat) (Option.some Jvm.ClassFile.FieldType.long)) ∈ aw_WS := aw_in (List.mem_of_getElem? (i := 406) rfl) rfl
set_option maxRecDepth 100000 in
theorem k_384 : (Jvm.Cond.methodLink "WalkRanks" (162 : Nat) ({ cls := "WalkRanks$Spread", name := "fillByWeights", desc := "(LWalkRanks$Graph;)V" } : Jvm.MethodName)) ∈ aw_WS := aw_in (List.mem_of_getElem? (i := 407) rfl) rfl
set_option maxRecDepth 100000 in
theorem k_385 : (Jvm.Cond.instanceMethod ({ cls := "WalkRanks$Spread", name := "fillByWeights", desc := "(LWalkRanks$Graph;)V" } : Jvm.MethodName)) ∈ aw_WS := aw_in (List.mem_of_getElem? (i := 408) rfl) rfl
set_option maxRecDepth 100000 in
theorem k_386 : (Jvm.Cond.selects "WalkRanks$Spread" ({ cls := "WalkRanks$Spread", name := "fillByWeights", desc := "(LWalkRanks$Graph;)V" } : Jvm.MethodName) ({ cls := "WalkRanks$Spread", name := "fillByWeights", desc := "(LWalkRanks$Graph;)V" } : Jvm.MethodName)) ∈ aw_WS := aw_in (List.mem_of_getElem? (i := 409) rfl) rfl
set_option maxRecDepth 100000 in
theorem k_387 : (Jvm.Cond.code ({ cls := "WalkRanks$Spread", name := "fillByWeights", desc := "(LWalkRanks$Graph;)V" } : Jvm.MethodName) prog_5_method_2_code (4 : Nat) (Option.none : Option Jvm.ClassFile.FieldType)) ∈ aw_WS := aw_in (List.mem_of_getElem? (i := 410) rfl) rfl
set_option maxRecDepth 100000 in
theorem k_388 : (Jvm.Cond.methodLink "WalkRanksLaw" (92 : Nat) ({ cls := "WalkRanks", name := "drawn", desc := "(III)I" } : Jvm.MethodName)) ∈ aw_WS := aw_in (List.mem_of_getElem? (i := 411) rfl) rfl
set_option maxRecDepth 100000 in
theorem k_389 : (Jvm.Cond.instanceMethod ({ cls := "WalkRanks", name := "drawn", desc := "(III)I" } : Jvm.MethodName)) ∈ aw_WS := aw_in (List.mem_of_getElem? (i := 412) rfl) rfl
set_option maxRecDepth 100000 in
theorem k_390 : (Jvm.Cond.selects "WalkRanks" ({ cls := "WalkRanks", name := "drawn", desc := "(III)I" } : Jvm.MethodName) ({ cls := "WalkRanks", name := "drawn", desc := "(III)I" } : Jvm.MethodName)) ∈ aw_WS := aw_in (List.mem_of_getElem? (i := 413) rfl) rfl
set_option maxRecDepth 100000 in
theorem k_391 : (Jvm.Cond.code ({ cls := "WalkRanks", name := "drawn", desc := "(III)I" } : Jvm.MethodName) prog_1_method_20_code (7 : Nat) (Option.some Jvm.ClassFile.FieldType.int)) ∈ aw_WS := aw_in (List.mem_of_getElem? (i := 414) rfl) rfl
set_option maxRecDepth 100000 in
theorem k_392 : (Jvm.Cond.constant "WalkRanks" (166 : Nat) (1664525 : Int32)) ∈ aw_WS := aw_in (List.mem_of_getElem? (i := 415) rfl) rfl
set_option maxRecDepth 100000 in
theorem k_393 : (Jvm.Cond.constant "WalkRanks" (167 : Nat) (1013904223 : Int32)) ∈ aw_WS := aw_in (List.mem_of_getElem? (i := 416) rfl) rfl
set_option maxRecDepth 100000 in
theorem k_394 : (Jvm.Cond.methodLink "WalkRanks" (168 : Nat) ({ cls := "WalkRanks$Steps", name := "nextNode", desc := "(II)I" } : Jvm.MethodName)) ∈ aw_WS := aw_in (List.mem_of_getElem? (i := 417) rfl) rfl
set_option maxRecDepth 100000 in
theorem k_395 : (Jvm.Cond.instanceMethod ({ cls := "WalkRanks$Steps", name := "nextNode", desc := "(II)I" } : Jvm.MethodName)) ∈ aw_WS := aw_in (List.mem_of_getElem? (i := 418) rfl) rfl
set_option maxRecDepth 100000 in
theorem k_396 : (Jvm.Cond.selects "WalkRanks$Steps" ({ cls := "WalkRanks$Steps", name := "nextNode", desc := "(II)I" } : Jvm.MethodName) ({ cls := "WalkRanks$Steps", name := "nextNode", desc := "(II)I" } : Jvm.MethodName)) ∈ aw_WS := aw_in (List.mem_of_getElem? (i := 419) rfl) rfl
set_option maxRecDepth 100000 in
theorem k_397 : (Jvm.Cond.code ({ cls := "WalkRanks$Steps", name := "nextNode", desc := "(II)I" } : Jvm.MethodName) prog_6_method_10_code (5 : Nat) (Option.some Jvm.ClassFile.FieldType.int)) ∈ aw_WS := aw_in (List.mem_of_getElem? (i := 420) rfl) rfl
set_option maxRecDepth 100000 in
theorem k_398 : (Jvm.Cond.classLink "WalkRanksLaw" (10 : Nat) "WalkRanksModel") ∈ aw_WS := aw_in (List.mem_of_getElem? (i := 421) rfl) rfl
set_option maxRecDepth 100000 in
theorem k_399 : (Jvm.Cond.instantiable "WalkRanksModel" (17 : Nat)) ∈ aw_WS := aw_in (List.mem_of_getElem? (i := 422) rfl) rfl
set_option maxRecDepth 100000 in
theorem k_400 : (Jvm.Cond.methodLink "WalkRanksLaw" (12 : Nat) ({ cls := "WalkRanksModel", name := "<init>", desc := "()V" } : Jvm.MethodName)) ∈ aw_WS := aw_in (List.mem_of_getElem? (i := 423) rfl) rfl
set_option maxRecDepth 100000 in
theorem k_401 : (Jvm.Cond.instanceMethod ({ cls := "WalkRanksModel", name := "<init>", desc := "()V" } : Jvm.MethodName)) ∈ aw_WS := aw_in (List.mem_of_getElem? (i := 424) rfl) rfl
set_option maxRecDepth 100000 in
theorem k_402 : (Jvm.Cond.code ({ cls := "WalkRanksModel", name := "<init>", desc := "()V" } : Jvm.MethodName) prog_8_method_1_code (1 : Nat) (Option.none : Option Jvm.ClassFile.FieldType)) ∈ aw_WS := aw_in (List.mem_of_getElem? (i := 425) rfl) rfl
set_option maxRecDepth 100000 in
theorem k_403 : (Jvm.Cond.methodLink "WalkRanksModel" (1 : Nat) ({ cls := "java/lang/Object", name := "<init>", desc := "()V" } : Jvm.MethodName)) ∈ aw_WS := aw_in (List.mem_of_getElem? (i := 426) rfl) rfl
set_option maxRecDepth 100000 in
theorem k_404 : (Jvm.Cond.fieldLink "WalkRanksModel" (48 : Nat) "WalkRanksModel" "nodes" "I") ∈ aw_WS := aw_in (List.mem_of_getElem? (i := 427) rfl) rfl
set_option maxRecDepth 100000 in
theorem k_405 : (Jvm.Cond.fieldLink "WalkRanksModel" (7 : Nat) "WalkRanksModel" "weights" "[I") ∈ aw_WS := aw_in (List.mem_of_getElem? (i := 428) rfl) rfl
set_option maxRecDepth 100000 in
theorem k_406 : (Jvm.Cond.fieldLink "WalkRanksModel" (13 : Nat) "WalkRanksModel" "jumps" "[I") ∈ aw_WS := aw_in (List.mem_of_getElem? (i := 429) rfl) rfl
set_option maxRecDepth 100000 in
theorem k_407 : (Jvm.Cond.fieldLink "WalkRanksModel" (16 : Nat) "WalkRanksModel" "above" "I") ∈ aw_WS := aw_in (List.mem_of_getElem? (i := 430) rfl) rfl
set_option maxRecDepth 100000 in
theorem k_408 : (Jvm.Cond.fieldLink "WalkRanksModel" (20 : Nat) "WalkRanksModel" "below" "I") ∈ aw_WS := aw_in (List.mem_of_getElem? (i := 431) rfl) rfl
set_option maxRecDepth 100000 in
theorem k_409 : (Jvm.Cond.fieldLink "WalkRanksModel" (23 : Nat) "WalkRanksModel" "row" "[I") ∈ aw_WS := aw_in (List.mem_of_getElem? (i := 432) rfl) rfl
set_option maxRecDepth 100000 in
theorem k_410 : (Jvm.Cond.fieldLink "WalkRanksModel" (26 : Nat) "WalkRanksModel" "total" "[I") ∈ aw_WS := aw_in (List.mem_of_getElem? (i := 433) rfl) rfl
set_option maxRecDepth 100000 in
theorem k_411 : (Jvm.Cond.fieldLink "WalkRanksModel" (70 : Nat) "WalkRanksModel" "sets" "I") ∈ aw_WS := aw_in (List.mem_of_getElem? (i := 434) rfl) rfl
set_option maxRecDepth 100000 in
theorem k_412 : (Jvm.Cond.fieldLink "WalkRanksModel" (29 : Nat) "WalkRanksModel" "setOf" "[I") ∈ aw_WS := aw_in (List.mem_of_getElem? (i := 435) rfl) rfl
set_option maxRecDepth 100000 in
theorem k_413 : (Jvm.Cond.fieldLink "WalkRanksModel" (32 : Nat) "WalkRanksModel" "bitsOf" "[I") ∈ aw_WS := aw_in (List.mem_of_getElem? (i := 436) rfl) rfl
set_option maxRecDepth 100000 in
theorem k_414 : (Jvm.Cond.fieldLink "WalkRanksModel" (79 : Nat) "WalkRanksModel" "forests" "J") ∈ aw_WS := aw_in (List.mem_of_getElem? (i := 437) rfl) rfl
set_option maxRecDepth 100000 in
theorem k_415 : (Jvm.Cond.fieldLink "WalkRanksModel" (83 : Nat) "WalkRanksModel" "toward" "J") ∈ aw_WS := aw_in (List.mem_of_getElem? (i := 438) rfl) rfl
set_option maxRecDepth 100000 in
theorem k_416 : (Jvm.Cond.fieldLink "WalkRanksModel" (35 : Nat) "WalkRanksModel" "step" "[I") ∈ aw_WS := aw_in (List.mem_of_getElem? (i := 439) rfl) rfl
set_option maxRecDepth 100000 in
theorem k_417 : (Jvm.Cond.fieldLink "WalkRanksModel" (38 : Nat) "WalkRanksModel" "shares" "[J") ∈ aw_WS := aw_in (List.mem_of_getElem? (i := 440) rfl) rfl
set_option maxRecDepth 100000 in
theorem k_418 : (Jvm.Cond.fieldLink "WalkRanksModel" (89 : Nat) "WalkRanksModel" "shareSum" "J") ∈ aw_WS := aw_in (List.mem_of_getElem? (i := 441) rfl) rfl
set_option maxRecDepth 100000 in
theorem k_419 : (Jvm.Cond.fieldLink "WalkRanksModel" (42 : Nat) "WalkRanksModel" "now" "[J") ∈ aw_WS := aw_in (List.mem_of_getElem? (i := 442) rfl) rfl
set_option maxRecDepth 100000 in
theorem k_420 : (Jvm.Cond.fieldLink "WalkRanksModel" (45 : Nat) "WalkRanksModel" "then" "[J") ∈ aw_WS := aw_in (List.mem_of_getElem? (i := 443) rfl) rfl
set_option maxRecDepth 100000 in
theorem k_421 : (Jvm.Cond.lays "WalkRanksModel" "WalkRanksModel" "nodes" "I") ∈ aw_WS := aw_in (List.mem_of_getElem? (i := 444) rfl) rfl
set_option maxRecDepth 100000 in
theorem k_422 : (Jvm.Cond.soleField "WalkRanksModel" "nodes") ∈ aw_WS := aw_in (List.mem_of_getElem? (i := 445) rfl) rfl
set_option maxRecDepth 100000 in
theorem k_423 : (Jvm.Cond.laysFinal "WalkRanksModel" "WalkRanksModel" "weights" "[I") ∈ aw_WS := aw_in (List.mem_of_getElem? (i := 446) rfl) rfl
set_option maxRecDepth 100000 in
theorem k_424 : (Jvm.Cond.soleField "WalkRanksModel" "weights") ∈ aw_WS := aw_in (List.mem_of_getElem? (i := 447) rfl) rfl
set_option maxRecDepth 100000 in
theorem k_425 : (Jvm.Cond.laysFinal "WalkRanksModel" "WalkRanksModel" "jumps" "[I") ∈ aw_WS := aw_in (List.mem_of_getElem? (i := 448) rfl) rfl
set_option maxRecDepth 100000 in
theorem k_426 : (Jvm.Cond.soleField "WalkRanksModel" "jumps") ∈ aw_WS := aw_in (List.mem_of_getElem? (i := 449) rfl) rfl
set_option maxRecDepth 100000 in
theorem k_427 : (Jvm.Cond.lays "WalkRanksModel" "WalkRanksModel" "above" "I") ∈ aw_WS := aw_in (List.mem_of_getElem? (i := 450) rfl) rfl
set_option maxRecDepth 100000 in
theorem k_428 : (Jvm.Cond.soleField "WalkRanksModel" "above") ∈ aw_WS := aw_in (List.mem_of_getElem? (i := 451) rfl) rfl
set_option maxRecDepth 100000 in
theorem k_429 : (Jvm.Cond.lays "WalkRanksModel" "WalkRanksModel" "below" "I") ∈ aw_WS := aw_in (List.mem_of_getElem? (i := 452) rfl) rfl
set_option maxRecDepth 100000 in
theorem k_430 : (Jvm.Cond.soleField "WalkRanksModel" "below") ∈ aw_WS := aw_in (List.mem_of_getElem? (i := 453) rfl) rfl
set_option maxRecDepth 100000 in
theorem k_431 : (Jvm.Cond.laysFinal "WalkRanksModel" "WalkRanksModel" "row" "[I") ∈ aw_WS := aw_in (List.mem_of_getElem? (i := 454) rfl) rfl
set_option maxRecDepth 100000 in
theorem k_432 : (Jvm.Cond.soleField "WalkRanksModel" "row") ∈ aw_WS := aw_in (List.mem_of_getElem? (i := 455) rfl) rfl
set_option maxRecDepth 100000 in
theorem k_433 : (Jvm.Cond.laysFinal "WalkRanksModel" "WalkRanksModel" "total" "[I") ∈ aw_WS := aw_in (List.mem_of_getElem? (i := 456) rfl) rfl
set_option maxRecDepth 100000 in
theorem k_434 : (Jvm.Cond.soleField "WalkRanksModel" "total") ∈ aw_WS := aw_in (List.mem_of_getElem? (i := 457) rfl) rfl
set_option maxRecDepth 100000 in
theorem k_435 : (Jvm.Cond.lays "WalkRanksModel" "WalkRanksModel" "sets" "I") ∈ aw_WS := aw_in (List.mem_of_getElem? (i := 458) rfl) rfl
set_option maxRecDepth 100000 in
theorem k_436 : (Jvm.Cond.soleField "WalkRanksModel" "sets") ∈ aw_WS := aw_in (List.mem_of_getElem? (i := 459) rfl) rfl
set_option maxRecDepth 100000 in
theorem k_437 : (Jvm.Cond.laysFinal "WalkRanksModel" "WalkRanksModel" "setOf" "[I") ∈ aw_WS := aw_in (List.mem_of_getElem? (i := 460) rfl) rfl
set_option maxRecDepth 100000 in
theorem k_438 : (Jvm.Cond.soleField "WalkRanksModel" "setOf") ∈ aw_WS := aw_in (List.mem_of_getElem? (i := 461) rfl) rfl
set_option maxRecDepth 100000 in
theorem k_439 : (Jvm.Cond.laysFinal "WalkRanksModel" "WalkRanksModel" "bitsOf" "[I") ∈ aw_WS := aw_in (List.mem_of_getElem? (i := 462) rfl) rfl
set_option maxRecDepth 100000 in
theorem k_440 : (Jvm.Cond.soleField "WalkRanksModel" "bitsOf") ∈ aw_WS := aw_in (List.mem_of_getElem? (i := 463) rfl) rfl
set_option maxRecDepth 100000 in
theorem k_441 : (Jvm.Cond.lays "WalkRanksModel" "WalkRanksModel" "forests" "J") ∈ aw_WS := aw_in (List.mem_of_getElem? (i := 464) rfl) rfl
set_option maxRecDepth 100000 in
theorem k_442 : (Jvm.Cond.soleField "WalkRanksModel" "forests") ∈ aw_WS := aw_in (List.mem_of_getElem? (i := 465) rfl) rfl
set_option maxRecDepth 100000 in
theorem k_443 : (Jvm.Cond.lays "WalkRanksModel" "WalkRanksModel" "toward" "J") ∈ aw_WS := aw_in (List.mem_of_getElem? (i := 466) rfl) rfl
set_option maxRecDepth 100000 in
theorem k_444 : (Jvm.Cond.soleField "WalkRanksModel" "toward") ∈ aw_WS := aw_in (List.mem_of_getElem? (i := 467) rfl) rfl
set_option maxRecDepth 100000 in
theorem k_445 : (Jvm.Cond.laysFinal "WalkRanksModel" "WalkRanksModel" "step" "[I") ∈ aw_WS := aw_in (List.mem_of_getElem? (i := 468) rfl) rfl
set_option maxRecDepth 100000 in
theorem k_446 : (Jvm.Cond.soleField "WalkRanksModel" "step") ∈ aw_WS := aw_in (List.mem_of_getElem? (i := 469) rfl) rfl
set_option maxRecDepth 100000 in
theorem k_447 : (Jvm.Cond.laysFinal "WalkRanksModel" "WalkRanksModel" "shares" "[J") ∈ aw_WS := aw_in (List.mem_of_getElem? (i := 470) rfl) rfl
set_option maxRecDepth 100000 in
theorem k_448 : (Jvm.Cond.soleField "WalkRanksModel" "shares") ∈ aw_WS := aw_in (List.mem_of_getElem? (i := 471) rfl) rfl
set_option maxRecDepth 100000 in
theorem k_449 : (Jvm.Cond.lays "WalkRanksModel" "WalkRanksModel" "shareSum" "J") ∈ aw_WS := aw_in (List.mem_of_getElem? (i := 472) rfl) rfl
set_option maxRecDepth 100000 in
theorem k_450 : (Jvm.Cond.soleField "WalkRanksModel" "shareSum") ∈ aw_WS := aw_in (List.mem_of_getElem? (i := 473) rfl) rfl
set_option maxRecDepth 100000 in
theorem k_451 : (Jvm.Cond.laysFinal "WalkRanksModel" "WalkRanksModel" "now" "[J") ∈ aw_WS := aw_in (List.mem_of_getElem? (i := 474) rfl) rfl
set_option maxRecDepth 100000 in
theorem k_452 : (Jvm.Cond.soleField "WalkRanksModel" "now") ∈ aw_WS := aw_in (List.mem_of_getElem? (i := 475) rfl) rfl
set_option maxRecDepth 100000 in
theorem k_453 : (Jvm.Cond.laysFinal "WalkRanksModel" "WalkRanksModel" "then" "[J") ∈ aw_WS := aw_in (List.mem_of_getElem? (i := 476) rfl) rfl
set_option maxRecDepth 100000 in
theorem k_454 : (Jvm.Cond.soleField "WalkRanksModel" "then") ∈ aw_WS := aw_in (List.mem_of_getElem? (i := 477) rfl) rfl
set_option maxRecDepth 100000 in
theorem k_455 : (Jvm.Cond.superclass "WalkRanksModel" "java/lang/Object") ∈ aw_WS := aw_in (List.mem_of_getElem? (i := 478) rfl) rfl
set_option maxRecDepth 100000 in
theorem k_456 : (Jvm.Cond.methodLink "WalkRanksLaw" (17 : Nat) ({ cls := "WalkRanksModel", name := "node", desc := "()I" } : Jvm.MethodName)) ∈ aw_WS := aw_in (List.mem_of_getElem? (i := 479) rfl) rfl
set_option maxRecDepth 100000 in
theorem k_457 : (Jvm.Cond.instanceMethod ({ cls := "WalkRanksModel", name := "node", desc := "()I" } : Jvm.MethodName)) ∈ aw_WS := aw_in (List.mem_of_getElem? (i := 480) rfl) rfl
set_option maxRecDepth 100000 in
theorem k_458 : (Jvm.Cond.selects "WalkRanksModel" ({ cls := "WalkRanksModel", name := "node", desc := "()I" } : Jvm.MethodName) ({ cls := "WalkRanksModel", name := "node", desc := "()I" } : Jvm.MethodName)) ∈ aw_WS := aw_in (List.mem_of_getElem? (i := 481) rfl) rfl
set_option maxRecDepth 100000 in
theorem k_459 : (Jvm.Cond.code ({ cls := "WalkRanksModel", name := "node", desc := "()I" } : Jvm.MethodName) prog_8_method_3_code (2 : Nat) (Option.some Jvm.ClassFile.FieldType.int)) ∈ aw_WS := aw_in (List.mem_of_getElem? (i := 482) rfl) rfl
set_option maxRecDepth 100000 in
theorem k_460 : (Jvm.Cond.methodLink "WalkRanksLaw" (22 : Nat) ({ cls := "WalkRanksModel", name := "weight", desc := "(III)I" } : Jvm.MethodName)) ∈ aw_WS := aw_in (List.mem_of_getElem? (i := 483) rfl) rfl
set_option maxRecDepth 100000 in
theorem k_461 : (Jvm.Cond.instanceMethod ({ cls := "WalkRanksModel", name := "weight", desc := "(III)I" } : Jvm.MethodName)) ∈ aw_WS := aw_in (List.mem_of_getElem? (i := 484) rfl) rfl
set_option maxRecDepth 100000 in
theorem k_462 : (Jvm.Cond.selects "WalkRanksModel" ({ cls := "WalkRanksModel", name := "weight", desc := "(III)I" } : Jvm.MethodName) ({ cls := "WalkRanksModel", name := "weight", desc := "(III)I" } : Jvm.MethodName)) ∈ aw_WS := aw_in (List.mem_of_getElem? (i := 485) rfl) rfl
set_option maxRecDepth 100000 in
theorem k_463 : (Jvm.Cond.code ({ cls := "WalkRanksModel", name := "weight", desc := "(III)I" } : Jvm.MethodName) prog_8_method_4_code (5 : Nat) (Option.some Jvm.ClassFile.FieldType.int)) ∈ aw_WS := aw_in (List.mem_of_getElem? (i := 486) rfl) rfl
set_option maxRecDepth 100000 in
theorem k_464 : (Jvm.Cond.methodLink "WalkRanksModel" (51 : Nat) ({ cls := "WalkRanksModel", name := "isNode", desc := "(I)Z" } : Jvm.MethodName)) ∈ aw_WS := aw_in (List.mem_of_getElem? (i := 487) rfl) rfl
set_option maxRecDepth 100000 in
theorem k_466 : (Jvm.Cond.instanceMethod ({ cls := "WalkRanksModel", name := "isNode", desc := "(I)Z" } : Jvm.MethodName)) ∈ aw_WS := aw_in (List.mem_of_getElem? (i := 489) rfl) rfl
set_option maxRecDepth 100000 in
theorem k_467 : (Jvm.Cond.code ({ cls := "WalkRanksModel", name := "isNode", desc := "(I)Z" } : Jvm.MethodName) prog_8_method_2_code (2 : Nat) (Option.some Jvm.ClassFile.FieldType.boolean)) ∈ aw_WS := aw_in (List.mem_of_getElem? (i := 490) rfl) rfl
set_option maxRecDepth 100000 in
theorem k_468 : (Jvm.Cond.methodLink "WalkRanksLaw" (27 : Nat) ({ cls := "WalkRanksModel", name := "jump", desc := "(II)I" } : Jvm.MethodName)) ∈ aw_WS := aw_in (List.mem_of_getElem? (i := 491) rfl) rfl
set_option maxRecDepth 100000 in
theorem k_469 : (Jvm.Cond.instanceMethod ({ cls := "WalkRanksModel", name := "jump", desc := "(II)I" } : Jvm.MethodName)) ∈ aw_WS := aw_in (List.mem_of_getElem? (i := 492) rfl) rfl
set_option maxRecDepth 100000 in
theorem k_470 : (Jvm.Cond.selects "WalkRanksModel" ({ cls := "WalkRanksModel", name := "jump", desc := "(II)I" } : Jvm.MethodName) ({ cls := "WalkRanksModel", name := "jump", desc := "(II)I" } : Jvm.MethodName)) ∈ aw_WS := aw_in (List.mem_of_getElem? (i := 493) rfl) rfl
set_option maxRecDepth 100000 in
theorem k_471 : (Jvm.Cond.code ({ cls := "WalkRanksModel", name := "jump", desc := "(II)I" } : Jvm.MethodName) prog_8_method_5_code (4 : Nat) (Option.some Jvm.ClassFile.FieldType.int)) ∈ aw_WS := aw_in (List.mem_of_getElem? (i := 494) rfl) rfl
set_option maxRecDepth 100000 in
theorem k_472 : (Jvm.Cond.methodLink "WalkRanksLaw" (31 : Nat) ({ cls := "WalkRanksModel", name := "keep", desc := "(II)I" } : Jvm.MethodName)) ∈ aw_WS := aw_in (List.mem_of_getElem? (i := 495) rfl) rfl
set_option maxRecDepth 100000 in
theorem k_473 : (Jvm.Cond.instanceMethod ({ cls := "WalkRanksModel", name := "keep", desc := "(II)I" } : Jvm.MethodName)) ∈ aw_WS := aw_in (List.mem_of_getElem? (i := 496) rfl) rfl
set_option maxRecDepth 100000 in
theorem k_474 : (Jvm.Cond.selects "WalkRanksModel" ({ cls := "WalkRanksModel", name := "keep", desc := "(II)I" } : Jvm.MethodName) ({ cls := "WalkRanksModel", name := "keep", desc := "(II)I" } : Jvm.MethodName)) ∈ aw_WS := aw_in (List.mem_of_getElem? (i := 497) rfl) rfl
set_option maxRecDepth 100000 in
theorem k_475 : (Jvm.Cond.code ({ cls := "WalkRanksModel", name := "keep", desc := "(II)I" } : Jvm.MethodName) prog_8_method_6_code (3 : Nat) (Option.some Jvm.ClassFile.FieldType.int)) ∈ aw_WS := aw_in (List.mem_of_getElem? (i := 498) rfl) rfl
set_option maxRecDepth 100000 in
theorem k_476 : (Jvm.Cond.methodLink "WalkRanksLaw" (35 : Nat) ({ cls := "WalkRanksModel", name := "clear", desc := "()I" } : Jvm.MethodName)) ∈ aw_WS := aw_in (List.mem_of_getElem? (i := 499) rfl) rfl
set_option maxRecDepth 100000 in
theorem k_477 : (Jvm.Cond.instanceMethod ({ cls := "WalkRanksModel", name := "clear", desc := "()I" } : Jvm.MethodName)) ∈ aw_WS := aw_in (List.mem_of_getElem? (i := 500) rfl) rfl
set_option maxRecDepth 100000 in
theorem k_478 : (Jvm.Cond.selects "WalkRanksModel" ({ cls := "WalkRanksModel", name := "clear", desc := "()I" } : Jvm.MethodName) ({ cls := "WalkRanksModel", name := "clear", desc := "()I" } : Jvm.MethodName)) ∈ aw_WS := aw_in (List.mem_of_getElem? (i := 501) rfl) rfl
set_option maxRecDepth 100000 in
theorem k_479 : (Jvm.Cond.code ({ cls := "WalkRanksModel", name := "clear", desc := "()I" } : Jvm.MethodName) prog_8_method_7_code (2 : Nat) (Option.some Jvm.ClassFile.FieldType.int)) ∈ aw_WS := aw_in (List.mem_of_getElem? (i := 502) rfl) rfl
set_option maxRecDepth 100000 in
theorem k_480 : (Jvm.Cond.methodLink "WalkRanksLaw" (39 : Nat) ({ cls := "WalkRanksModel", name := "row", desc := "(II)I" } : Jvm.MethodName)) ∈ aw_WS := aw_in (List.mem_of_getElem? (i := 503) rfl) rfl
set_option maxRecDepth 100000 in
theorem k_481 : (Jvm.Cond.instanceMethod ({ cls := "WalkRanksModel", name := "row", desc := "(II)I" } : Jvm.MethodName)) ∈ aw_WS := aw_in (List.mem_of_getElem? (i := 504) rfl) rfl
set_option maxRecDepth 100000 in
theorem k_482 : (Jvm.Cond.selects "WalkRanksModel" ({ cls := "WalkRanksModel", name := "row", desc := "(II)I" } : Jvm.MethodName) ({ cls := "WalkRanksModel", name := "row", desc := "(II)I" } : Jvm.MethodName)) ∈ aw_WS := aw_in (List.mem_of_getElem? (i := 505) rfl) rfl
set_option maxRecDepth 100000 in
theorem k_483 : (Jvm.Cond.code ({ cls := "WalkRanksModel", name := "row", desc := "(II)I" } : Jvm.MethodName) prog_8_method_11_code (3 : Nat) (Option.some Jvm.ClassFile.FieldType.int)) ∈ aw_WS := aw_in (List.mem_of_getElem? (i := 506) rfl) rfl
set_option maxRecDepth 100000 in
theorem k_484 : (Jvm.Cond.methodLink "WalkRanksModel" (59 : Nat) ({ cls := "WalkRanksModel", name := "findRows", desc := "()V" } : Jvm.MethodName)) ∈ aw_WS := aw_in (List.mem_of_getElem? (i := 507) rfl) rfl
set_option maxRecDepth 100000 in
theorem k_486 : (Jvm.Cond.instanceMethod ({ cls := "WalkRanksModel", name := "findRows", desc := "()V" } : Jvm.MethodName)) ∈ aw_WS := aw_in (List.mem_of_getElem? (i := 509) rfl) rfl
set_option maxRecDepth 100000 in
theorem k_487 : (Jvm.Cond.code ({ cls := "WalkRanksModel", name := "findRows", desc := "()V" } : Jvm.MethodName) prog_8_method_10_code (9 : Nat) (Option.none : Option Jvm.ClassFile.FieldType)) ∈ aw_WS := aw_in (List.mem_of_getElem? (i := 510) rfl) rfl
set_option maxRecDepth 100000 in
theorem k_488 : (Jvm.Cond.methodLink "WalkRanksModel" (55 : Nat) ({ cls := "WalkRanksModel", name := "common", desc := "(JJ)J" } : Jvm.MethodName)) ∈ aw_WS := aw_in (List.mem_of_getElem? (i := 511) rfl) rfl
set_option maxRecDepth 100000 in
theorem k_489 : (Jvm.Cond.static ({ cls := "WalkRanksModel", name := "common", desc := "(JJ)J" } : Jvm.MethodName)) ∈ aw_WS := aw_in (List.mem_of_getElem? (i := 512) rfl) rfl
set_option maxRecDepth 100000 in
theorem k_490 : (Jvm.Cond.code ({ cls := "WalkRanksModel", name := "common", desc := "(JJ)J" } : Jvm.MethodName) prog_8_method_8_code (10 : Nat) (Option.some Jvm.ClassFile.FieldType.long)) ∈ aw_WS := aw_in (List.mem_of_getElem? (i := 513) rfl) rfl
set_option maxRecDepth 100000 in
theorem k_491 : (Jvm.Cond.methodLink "WalkRanksLaw" (44 : Nat) ({ cls := "WalkRanksModel", name := "total", desc := "(I)I" } : Jvm.MethodName)) ∈ aw_WS := aw_in (List.mem_of_getElem? (i := 514) rfl) rfl
set_option maxRecDepth 100000 in
theorem k_492 : (Jvm.Cond.instanceMethod ({ cls := "WalkRanksModel", name := "total", desc := "(I)I" } : Jvm.MethodName)) ∈ aw_WS := aw_in (List.mem_of_getElem? (i := 515) rfl) rfl
set_option maxRecDepth 100000 in
theorem k_493 : (Jvm.Cond.selects "WalkRanksModel" ({ cls := "WalkRanksModel", name := "total", desc := "(I)I" } : Jvm.MethodName) ({ cls := "WalkRanksModel", name := "total", desc := "(I)I" } : Jvm.MethodName)) ∈ aw_WS := aw_in (List.mem_of_getElem? (i := 516) rfl) rfl
set_option maxRecDepth 100000 in
theorem k_494 : (Jvm.Cond.code ({ cls := "WalkRanksModel", name := "total", desc := "(I)I" } : Jvm.MethodName) prog_8_method_12_code (2 : Nat) (Option.some Jvm.ClassFile.FieldType.int)) ∈ aw_WS := aw_in (List.mem_of_getElem? (i := 517) rfl) rfl
set_option maxRecDepth 100000 in
theorem k_495 : (Jvm.Cond.methodLink "WalkRanksLaw" (48 : Nat) ({ cls := "WalkRanksModel", name := "closed", desc := "()I" } : Jvm.MethodName)) ∈ aw_WS := aw_in (List.mem_of_getElem? (i := 518) rfl) rfl
set_option maxRecDepth 100000 in
theorem k_496 : (Jvm.Cond.instanceMethod ({ cls := "WalkRanksModel", name := "closed", desc := "()I" } : Jvm.MethodName)) ∈ aw_WS := aw_in (List.mem_of_getElem? (i := 519) rfl) rfl
set_option maxRecDepth 100000 in
theorem k_497 : (Jvm.Cond.selects "WalkRanksModel" ({ cls := "WalkRanksModel", name := "closed", desc := "()I" } : Jvm.MethodName) ({ cls := "WalkRanksModel", name := "closed", desc := "()I" } : Jvm.MethodName)) ∈ aw_WS := aw_in (List.mem_of_getElem? (i := 520) rfl) rfl
set_option maxRecDepth 100000 in
theorem k_498 : (Jvm.Cond.code ({ cls := "WalkRanksModel", name := "closed", desc := "()I" } : Jvm.MethodName) prog_8_method_17_code (1 : Nat) (Option.some Jvm.ClassFile.FieldType.int)) ∈ aw_WS := aw_in (List.mem_of_getElem? (i := 521) rfl) rfl
set_option maxRecDepth 100000 in
theorem k_499 : (Jvm.Cond.methodLink "WalkRanksModel" (76 : Nat) ({ cls := "WalkRanksModel", name := "findSets", desc := "()V" } : Jvm.MethodName)) ∈ aw_WS := aw_in (List.mem_of_getElem? (i := 522) rfl) rfl
set_option maxRecDepth 100000 in
theorem k_501 : (Jvm.Cond.instanceMethod ({ cls := "WalkRanksModel", name := "findSets", desc := "()V" } : Jvm.MethodName)) ∈ aw_WS := aw_in (List.mem_of_getElem? (i := 524) rfl) rfl
set_option maxRecDepth 100000 in
theorem k_502 : (Jvm.Cond.code ({ cls := "WalkRanksModel", name := "findSets", desc := "()V" } : Jvm.MethodName) prog_8_method_16_code (4 : Nat) (Option.none : Option Jvm.ClassFile.FieldType)) ∈ aw_WS := aw_in (List.mem_of_getElem? (i := 525) rfl) rfl
set_option maxRecDepth 100000 in
theorem k_503 : (Jvm.Cond.methodLink "WalkRanksModel" (73 : Nat) ({ cls := "WalkRanksModel", name := "isClosed", desc := "(I)Z" } : Jvm.MethodName)) ∈ aw_WS := aw_in (List.mem_of_getElem? (i := 526) rfl) rfl
set_option maxRecDepth 100000 in
theorem k_505 : (Jvm.Cond.instanceMethod ({ cls := "WalkRanksModel", name := "isClosed", desc := "(I)Z" } : Jvm.MethodName)) ∈ aw_WS := aw_in (List.mem_of_getElem? (i := 528) rfl) rfl
set_option maxRecDepth 100000 in
theorem k_506 : (Jvm.Cond.code ({ cls := "WalkRanksModel", name := "isClosed", desc := "(I)Z" } : Jvm.MethodName) prog_8_method_15_code (5 : Nat) (Option.some Jvm.ClassFile.FieldType.boolean)) ∈ aw_WS := aw_in (List.mem_of_getElem? (i := 529) rfl) rfl
set_option maxRecDepth 100000 in
theorem k_507 : (Jvm.Cond.methodLink "WalkRanksModel" (62 : Nat) ({ cls := "WalkRanksModel", name := "reached", desc := "(II)I" } : Jvm.MethodName)) ∈ aw_WS := aw_in (List.mem_of_getElem? (i := 530) rfl) rfl
set_option maxRecDepth 100000 in
theorem k_509 : (Jvm.Cond.instanceMethod ({ cls := "WalkRanksModel", name := "reached", desc := "(II)I" } : Jvm.MethodName)) ∈ aw_WS := aw_in (List.mem_of_getElem? (i := 532) rfl) rfl
set_option maxRecDepth 100000 in
theorem k_510 : (Jvm.Cond.code ({ cls := "WalkRanksModel", name := "reached", desc := "(II)I" } : Jvm.MethodName) prog_8_method_13_code (7 : Nat) (Option.some Jvm.ClassFile.FieldType.int)) ∈ aw_WS := aw_in (List.mem_of_getElem? (i := 533) rfl) rfl
set_option maxRecDepth 100000 in
theorem k_511 : (Jvm.Cond.methodLink "WalkRanksModel" (66 : Nat) ({ cls := "WalkRanksModel", name := "leads", desc := "(II)Z" } : Jvm.MethodName)) ∈ aw_WS := aw_in (List.mem_of_getElem? (i := 534) rfl) rfl
set_option maxRecDepth 100000 in
theorem k_513 : (Jvm.Cond.instanceMethod ({ cls := "WalkRanksModel", name := "leads", desc := "(II)Z" } : Jvm.MethodName)) ∈ aw_WS := aw_in (List.mem_of_getElem? (i := 536) rfl) rfl
set_option maxRecDepth 100000 in
theorem k_514 : (Jvm.Cond.code ({ cls := "WalkRanksModel", name := "leads", desc := "(II)Z" } : Jvm.MethodName) prog_8_method_14_code (3 : Nat) (Option.some Jvm.ClassFile.FieldType.boolean)) ∈ aw_WS := aw_in (List.mem_of_getElem? (i := 537) rfl) rfl
set_option maxRecDepth 100000 in
theorem k_515 : (Jvm.Cond.methodLink "WalkRanksLaw" (52 : Nat) ({ cls := "WalkRanksModel", name := "closedOf", desc := "(I)I" } : Jvm.MethodName)) ∈ aw_WS := aw_in (List.mem_of_getElem? (i := 538) rfl) rfl
set_option maxRecDepth 100000 in
theorem k_516 : (Jvm.Cond.instanceMethod ({ cls := "WalkRanksModel", name := "closedOf", desc := "(I)I" } : Jvm.MethodName)) ∈ aw_WS := aw_in (List.mem_of_getElem? (i := 539) rfl) rfl
set_option maxRecDepth 100000 in
theorem k_517 : (Jvm.Cond.selects "WalkRanksModel" ({ cls := "WalkRanksModel", name := "closedOf", desc := "(I)I" } : Jvm.MethodName) ({ cls := "WalkRanksModel", name := "closedOf", desc := "(I)I" } : Jvm.MethodName)) ∈ aw_WS := aw_in (List.mem_of_getElem? (i := 540) rfl) rfl
set_option maxRecDepth 100000 in
theorem k_518 : (Jvm.Cond.code ({ cls := "WalkRanksModel", name := "closedOf", desc := "(I)I" } : Jvm.MethodName) prog_8_method_18_code (2 : Nat) (Option.some Jvm.ClassFile.FieldType.int)) ∈ aw_WS := aw_in (List.mem_of_getElem? (i := 541) rfl) rfl
set_option maxRecDepth 100000 in
theorem k_519 : (Jvm.Cond.methodLink "WalkRanksLaw" (56 : Nat) ({ cls := "WalkRanksModel", name := "period", desc := "(I)I" } : Jvm.MethodName)) ∈ aw_WS := aw_in (List.mem_of_getElem? (i := 542) rfl) rfl
set_option maxRecDepth 100000 in
theorem k_520 : (Jvm.Cond.instanceMethod ({ cls := "WalkRanksModel", name := "period", desc := "(I)I" } : Jvm.MethodName)) ∈ aw_WS := aw_in (List.mem_of_getElem? (i := 543) rfl) rfl
set_option maxRecDepth 100000 in
theorem k_521 : (Jvm.Cond.selects "WalkRanksModel" ({ cls := "WalkRanksModel", name := "period", desc := "(I)I" } : Jvm.MethodName) ({ cls := "WalkRanksModel", name := "period", desc := "(I)I" } : Jvm.MethodName)) ∈ aw_WS := aw_in (List.mem_of_getElem? (i := 544) rfl) rfl
set_option maxRecDepth 100000 in
theorem k_522 : (Jvm.Cond.code ({ cls := "WalkRanksModel", name := "period", desc := "(I)I" } : Jvm.MethodName) prog_8_method_19_code (10 : Nat) (Option.some Jvm.ClassFile.FieldType.int)) ∈ aw_WS := aw_in (List.mem_of_getElem? (i := 545) rfl) rfl
set_option maxRecDepth 100000 in
theorem k_523 : (Jvm.Cond.methodLink "WalkRanksLaw" (61 : Nat) ({ cls := "WalkRanksModel", name := "rank", desc := "(II)J" } : Jvm.MethodName)) ∈ aw_WS := aw_in (List.mem_of_getElem? (i := 546) rfl) rfl
set_option maxRecDepth 100000 in
theorem k_524 : (Jvm.Cond.instanceMethod ({ cls := "WalkRanksModel", name := "rank", desc := "(II)J" } : Jvm.MethodName)) ∈ aw_WS := aw_in (List.mem_of_getElem? (i := 547) rfl) rfl
set_option maxRecDepth 100000 in
theorem k_525 : (Jvm.Cond.selects "WalkRanksModel" ({ cls := "WalkRanksModel", name := "rank", desc := "(II)J" } : Jvm.MethodName) ({ cls := "WalkRanksModel", name := "rank", desc := "(II)J" } : Jvm.MethodName)) ∈ aw_WS := aw_in (List.mem_of_getElem? (i := 548) rfl) rfl
set_option maxRecDepth 100000 in
theorem k_526 : (Jvm.Cond.code ({ cls := "WalkRanksModel", name := "rank", desc := "(II)J" } : Jvm.MethodName) prog_8_method_25_code (3 : Nat) (Option.some Jvm.ClassFile.FieldType.long)) ∈ aw_WS := aw_in (List.mem_of_getElem? (i := 549) rfl) rfl
set_option maxRecDepth 100000 in
theorem k_527 : (Jvm.Cond.constantLong "WalkRanksModel" (96 : Nat) (-1 : Int64)) ∈ aw_WS := aw_in (List.mem_of_getElem? (i := 550) rfl) rfl
set_option maxRecDepth 100000 in
theorem k_528 : (Jvm.Cond.methodLink "WalkRanksModel" (98 : Nat) ({ cls := "WalkRanksModel", name := "isPart", desc := "(I)Z" } : Jvm.MethodName)) ∈ aw_WS := aw_in (List.mem_of_getElem? (i := 551) rfl) rfl
set_option maxRecDepth 100000 in
theorem k_529 : (Jvm.Cond.static ({ cls := "WalkRanksModel", name := "isPart", desc := "(I)Z" } : Jvm.MethodName)) ∈ aw_WS := aw_in (List.mem_of_getElem? (i := 552) rfl) rfl
set_option maxRecDepth 100000 in
theorem k_530 : (Jvm.Cond.code ({ cls := "WalkRanksModel", name := "isPart", desc := "(I)Z" } : Jvm.MethodName) prog_8_method_24_code (1 : Nat) (Option.some Jvm.ClassFile.FieldType.boolean)) ∈ aw_WS := aw_in (List.mem_of_getElem? (i := 553) rfl) rfl
set_option maxRecDepth 100000 in
theorem k_531 : (Jvm.Cond.constantLong "WalkRanksModel" (101 : Nat) (-2 : Int64)) ∈ aw_WS := aw_in (List.mem_of_getElem? (i := 554) rfl) rfl
set_option maxRecDepth 100000 in
theorem k_532 : (Jvm.Cond.constantLong "WalkRanksModel" (103 : Nat) (-3 : Int64)) ∈ aw_WS := aw_in (List.mem_of_getElem? (i := 555) rfl) rfl
set_option maxRecDepth 100000 in
theorem k_533 : (Jvm.Cond.methodLink "WalkRanksModel" (105 : Nat) ({ cls := "WalkRanksModel", name := "findShares", desc := "(I)V" } : Jvm.MethodName)) ∈ aw_WS := aw_in (List.mem_of_getElem? (i := 556) rfl) rfl
set_option maxRecDepth 100000 in
theorem k_535 : (Jvm.Cond.instanceMethod ({ cls := "WalkRanksModel", name := "findShares", desc := "(I)V" } : Jvm.MethodName)) ∈ aw_WS := aw_in (List.mem_of_getElem? (i := 558) rfl) rfl
set_option maxRecDepth 100000 in
theorem k_536 : (Jvm.Cond.code ({ cls := "WalkRanksModel", name := "findShares", desc := "(I)V" } : Jvm.MethodName) prog_8_method_23_code (3 : Nat) (Option.none : Option Jvm.ClassFile.FieldType)) ∈ aw_WS := aw_in (List.mem_of_getElem? (i := 559) rfl) rfl
set_option maxRecDepth 100000 in
theorem k_537 : (Jvm.Cond.methodLink "WalkRanksModel" (92 : Nat) ({ cls := "WalkRanksModel", name := "count", desc := "(IIII)V" } : Jvm.MethodName)) ∈ aw_WS := aw_in (List.mem_of_getElem? (i := 560) rfl) rfl
set_option maxRecDepth 100000 in
theorem k_539 : (Jvm.Cond.instanceMethod ({ cls := "WalkRanksModel", name := "count", desc := "(IIII)V" } : Jvm.MethodName)) ∈ aw_WS := aw_in (List.mem_of_getElem? (i := 562) rfl) rfl
set_option maxRecDepth 100000 in
theorem k_540 : (Jvm.Cond.code ({ cls := "WalkRanksModel", name := "count", desc := "(IIII)V" } : Jvm.MethodName) prog_8_method_21_code (12 : Nat) (Option.none : Option Jvm.ClassFile.FieldType)) ∈ aw_WS := aw_in (List.mem_of_getElem? (i := 563) rfl) rfl
set_option maxRecDepth 100000 in
theorem k_541 : (Jvm.Cond.methodLink "WalkRanksModel" (86 : Nat) ({ cls := "WalkRanksModel", name := "rootOf", desc := "(II)I" } : Jvm.MethodName)) ∈ aw_WS := aw_in (List.mem_of_getElem? (i := 564) rfl) rfl
set_option maxRecDepth 100000 in
theorem k_543 : (Jvm.Cond.instanceMethod ({ cls := "WalkRanksModel", name := "rootOf", desc := "(II)I" } : Jvm.MethodName)) ∈ aw_WS := aw_in (List.mem_of_getElem? (i := 566) rfl) rfl
set_option maxRecDepth 100000 in
theorem k_544 : (Jvm.Cond.code ({ cls := "WalkRanksModel", name := "rootOf", desc := "(II)I" } : Jvm.MethodName) prog_8_method_20_code (5 : Nat) (Option.some Jvm.ClassFile.FieldType.int)) ∈ aw_WS := aw_in (List.mem_of_getElem? (i := 567) rfl) rfl
set_option maxRecDepth 100000 in
theorem k_545 : (Jvm.Cond.methodLink "WalkRanksModel" (109 : Nat) ({ cls := "WalkRanksModel", name := "lowest", desc := "(JJI)J" } : Jvm.MethodName)) ∈ aw_WS := aw_in (List.mem_of_getElem? (i := 568) rfl) rfl
set_option maxRecDepth 100000 in
theorem k_546 : (Jvm.Cond.static ({ cls := "WalkRanksModel", name := "lowest", desc := "(JJI)J" } : Jvm.MethodName)) ∈ aw_WS := aw_in (List.mem_of_getElem? (i := 569) rfl) rfl
set_option maxRecDepth 100000 in
theorem k_547 : (Jvm.Cond.code ({ cls := "WalkRanksModel", name := "lowest", desc := "(JJI)J" } : Jvm.MethodName) prog_8_method_9_code (7 : Nat) (Option.some Jvm.ClassFile.FieldType.long)) ∈ aw_WS := aw_in (List.mem_of_getElem? (i := 570) rfl) rfl
set_option maxRecDepth 100000 in
theorem k_548 : (Jvm.Cond.methodLink "WalkRanksLaw" (65 : Nat) ({ cls := "WalkRanksModel", name := "place", desc := "(I)I" } : Jvm.MethodName)) ∈ aw_WS := aw_in (List.mem_of_getElem? (i := 571) rfl) rfl
set_option maxRecDepth 100000 in
theorem k_549 : (Jvm.Cond.instanceMethod ({ cls := "WalkRanksModel", name := "place", desc := "(I)I" } : Jvm.MethodName)) ∈ aw_WS := aw_in (List.mem_of_getElem? (i := 572) rfl) rfl
set_option maxRecDepth 100000 in
theorem k_550 : (Jvm.Cond.selects "WalkRanksModel" ({ cls := "WalkRanksModel", name := "place", desc := "(I)I" } : Jvm.MethodName) ({ cls := "WalkRanksModel", name := "place", desc := "(I)I" } : Jvm.MethodName)) ∈ aw_WS := aw_in (List.mem_of_getElem? (i := 573) rfl) rfl
set_option maxRecDepth 100000 in
theorem k_551 : (Jvm.Cond.code ({ cls := "WalkRanksModel", name := "place", desc := "(I)I" } : Jvm.MethodName) prog_8_method_26_code (5 : Nat) (Option.some Jvm.ClassFile.FieldType.int)) ∈ aw_WS := aw_in (List.mem_of_getElem? (i := 574) rfl) rfl
set_option maxRecDepth 100000 in
theorem k_552 : (Jvm.Cond.methodLink "WalkRanksLaw" (70 : Nat) ({ cls := "WalkRanksModel", name := "reach", desc := "(III)J" } : Jvm.MethodName)) ∈ aw_WS := aw_in (List.mem_of_getElem? (i := 575) rfl) rfl
set_option maxRecDepth 100000 in
theorem k_553 : (Jvm.Cond.instanceMethod ({ cls := "WalkRanksModel", name := "reach", desc := "(III)J" } : Jvm.MethodName)) ∈ aw_WS := aw_in (List.mem_of_getElem? (i := 576) rfl) rfl
set_option maxRecDepth 100000 in
theorem k_554 : (Jvm.Cond.selects "WalkRanksModel" ({ cls := "WalkRanksModel", name := "reach", desc := "(III)J" } : Jvm.MethodName) ({ cls := "WalkRanksModel", name := "reach", desc := "(III)J" } : Jvm.MethodName)) ∈ aw_WS := aw_in (List.mem_of_getElem? (i := 577) rfl) rfl
set_option maxRecDepth 100000 in
theorem k_555 : (Jvm.Cond.code ({ cls := "WalkRanksModel", name := "reach", desc := "(III)J" } : Jvm.MethodName) prog_8_method_27_code (6 : Nat) (Option.some Jvm.ClassFile.FieldType.long)) ∈ aw_WS := aw_in (List.mem_of_getElem? (i := 578) rfl) rfl
set_option maxRecDepth 100000 in
theorem k_556 : (Jvm.Cond.methodLink "WalkRanksModel" (113 : Nat) ({ cls := "WalkRanksModel", name := "all", desc := "()I" } : Jvm.MethodName)) ∈ aw_WS := aw_in (List.mem_of_getElem? (i := 579) rfl) rfl
set_option maxRecDepth 100000 in
theorem k_558 : (Jvm.Cond.instanceMethod ({ cls := "WalkRanksModel", name := "all", desc := "()I" } : Jvm.MethodName)) ∈ aw_WS := aw_in (List.mem_of_getElem? (i := 581) rfl) rfl
set_option maxRecDepth 100000 in
theorem k_559 : (Jvm.Cond.code ({ cls := "WalkRanksModel", name := "all", desc := "()I" } : Jvm.MethodName) prog_8_method_22_code (1 : Nat) (Option.some Jvm.ClassFile.FieldType.int)) ∈ aw_WS := aw_in (List.mem_of_getElem? (i := 582) rfl) rfl
set_option maxRecDepth 100000 in
theorem k_560 : (Jvm.Cond.methodLink "WalkRanksLaw" (74 : Nat) ({ cls := "WalkRanksModel", name := "hit", desc := "(III)J" } : Jvm.MethodName)) ∈ aw_WS := aw_in (List.mem_of_getElem? (i := 583) rfl) rfl
set_option maxRecDepth 100000 in
theorem k_561 : (Jvm.Cond.instanceMethod ({ cls := "WalkRanksModel", name := "hit", desc := "(III)J" } : Jvm.MethodName)) ∈ aw_WS := aw_in (List.mem_of_getElem? (i := 584) rfl) rfl
set_option maxRecDepth 100000 in
theorem k_562 : (Jvm.Cond.selects "WalkRanksModel" ({ cls := "WalkRanksModel", name := "hit", desc := "(III)J" } : Jvm.MethodName) ({ cls := "WalkRanksModel", name := "hit", desc := "(III)J" } : Jvm.MethodName)) ∈ aw_WS := aw_in (List.mem_of_getElem? (i := 585) rfl) rfl
set_option maxRecDepth 100000 in
theorem k_563 : (Jvm.Cond.code ({ cls := "WalkRanksModel", name := "hit", desc := "(III)J" } : Jvm.MethodName) prog_8_method_28_code (9 : Nat) (Option.some Jvm.ClassFile.FieldType.long)) ∈ aw_WS := aw_in (List.mem_of_getElem? (i := 586) rfl) rfl
set_option maxRecDepth 100000 in
theorem k_564 : (Jvm.Cond.methodLink "WalkRanksLaw" (78 : Nat) ({ cls := "WalkRanksModel", name := "back", desc := "(II)J" } : Jvm.MethodName)) ∈ aw_WS := aw_in (List.mem_of_getElem? (i := 587) rfl) rfl
set_option maxRecDepth 100000 in
theorem k_565 : (Jvm.Cond.instanceMethod ({ cls := "WalkRanksModel", name := "back", desc := "(II)J" } : Jvm.MethodName)) ∈ aw_WS := aw_in (List.mem_of_getElem? (i := 588) rfl) rfl
set_option maxRecDepth 100000 in
theorem k_566 : (Jvm.Cond.selects "WalkRanksModel" ({ cls := "WalkRanksModel", name := "back", desc := "(II)J" } : Jvm.MethodName) ({ cls := "WalkRanksModel", name := "back", desc := "(II)J" } : Jvm.MethodName)) ∈ aw_WS := aw_in (List.mem_of_getElem? (i := 589) rfl) rfl
set_option maxRecDepth 100000 in
theorem k_567 : (Jvm.Cond.code ({ cls := "WalkRanksModel", name := "back", desc := "(II)J" } : Jvm.MethodName) prog_8_method_29_code (3 : Nat) (Option.some Jvm.ClassFile.FieldType.long)) ∈ aw_WS := aw_in (List.mem_of_getElem? (i := 590) rfl) rfl
set_option maxRecDepth 100000 in
theorem k_568 : (Jvm.Cond.methodLink "WalkRanksLaw" (82 : Nat) ({ cls := "WalkRanksModel", name := "end", desc := "(III)J" } : Jvm.MethodName)) ∈ aw_WS := aw_in (List.mem_of_getElem? (i := 591) rfl) rfl
set_option maxRecDepth 100000 in
theorem k_569 : (Jvm.Cond.instanceMethod ({ cls := "WalkRanksModel", name := "end", desc := "(III)J" } : Jvm.MethodName)) ∈ aw_WS := aw_in (List.mem_of_getElem? (i := 592) rfl) rfl
set_option maxRecDepth 100000 in
theorem k_570 : (Jvm.Cond.selects "WalkRanksModel" ({ cls := "WalkRanksModel", name := "end", desc := "(III)J" } : Jvm.MethodName) ({ cls := "WalkRanksModel", name := "end", desc := "(III)J" } : Jvm.MethodName)) ∈ aw_WS := aw_in (List.mem_of_getElem? (i := 593) rfl) rfl
set_option maxRecDepth 100000 in
theorem k_571 : (Jvm.Cond.code ({ cls := "WalkRanksModel", name := "end", desc := "(III)J" } : Jvm.MethodName) prog_8_method_30_code (6 : Nat) (Option.some Jvm.ClassFile.FieldType.long)) ∈ aw_WS := aw_in (List.mem_of_getElem? (i := 594) rfl) rfl
set_option maxRecDepth 100000 in
theorem k_572 : (Jvm.Cond.methodLink "WalkRanksLaw" (87 : Nat) ({ cls := "WalkRanksModel", name := "after", desc := "(IIII)J" } : Jvm.MethodName)) ∈ aw_WS := aw_in (List.mem_of_getElem? (i := 595) rfl) rfl
set_option maxRecDepth 100000 in
theorem k_573 : (Jvm.Cond.instanceMethod ({ cls := "WalkRanksModel", name := "after", desc := "(IIII)J" } : Jvm.MethodName)) ∈ aw_WS := aw_in (List.mem_of_getElem? (i := 596) rfl) rfl
set_option maxRecDepth 100000 in
theorem k_574 : (Jvm.Cond.selects "WalkRanksModel" ({ cls := "WalkRanksModel", name := "after", desc := "(IIII)J" } : Jvm.MethodName) ({ cls := "WalkRanksModel", name := "after", desc := "(IIII)J" } : Jvm.MethodName)) ∈ aw_WS := aw_in (List.mem_of_getElem? (i := 597) rfl) rfl
set_option maxRecDepth 100000 in
theorem k_575 : (Jvm.Cond.code ({ cls := "WalkRanksModel", name := "after", desc := "(IIII)J" } : Jvm.MethodName) prog_8_method_31_code (12 : Nat) (Option.some Jvm.ClassFile.FieldType.long)) ∈ aw_WS := aw_in (List.mem_of_getElem? (i := 598) rfl) rfl
set_option maxRecDepth 100000 in
theorem k_576 : (Jvm.Cond.methodLink "WalkRanksLaw" (91 : Nat) ({ cls := "WalkRanksModel", name := "walks", desc := "(III)J" } : Jvm.MethodName)) ∈ aw_WS := aw_in (List.mem_of_getElem? (i := 599) rfl) rfl
set_option maxRecDepth 100000 in
theorem k_577 : (Jvm.Cond.instanceMethod ({ cls := "WalkRanksModel", name := "walks", desc := "(III)J" } : Jvm.MethodName)) ∈ aw_WS := aw_in (List.mem_of_getElem? (i := 600) rfl) rfl
set_option maxRecDepth 100000 in
theorem k_578 : (Jvm.Cond.selects "WalkRanksModel" ({ cls := "WalkRanksModel", name := "walks", desc := "(III)J" } : Jvm.MethodName) ({ cls := "WalkRanksModel", name := "walks", desc := "(III)J" } : Jvm.MethodName)) ∈ aw_WS := aw_in (List.mem_of_getElem? (i := 601) rfl) rfl
set_option maxRecDepth 100000 in
theorem k_579 : (Jvm.Cond.code ({ cls := "WalkRanksModel", name := "walks", desc := "(III)J" } : Jvm.MethodName) prog_8_method_32_code (7 : Nat) (Option.some Jvm.ClassFile.FieldType.long)) ∈ aw_WS := aw_in (List.mem_of_getElem? (i := 602) rfl) rfl
set_option maxRecDepth 100000 in
theorem k_580 : (Jvm.Cond.methodLink "WalkRanksLaw" (95 : Nat) ({ cls := "WalkRanksModel", name := "drawn", desc := "(III)I" } : Jvm.MethodName)) ∈ aw_WS := aw_in (List.mem_of_getElem? (i := 603) rfl) rfl
set_option maxRecDepth 100000 in
theorem k_581 : (Jvm.Cond.instanceMethod ({ cls := "WalkRanksModel", name := "drawn", desc := "(III)I" } : Jvm.MethodName)) ∈ aw_WS := aw_in (List.mem_of_getElem? (i := 604) rfl) rfl
set_option maxRecDepth 100000 in
theorem k_582 : (Jvm.Cond.selects "WalkRanksModel" ({ cls := "WalkRanksModel", name := "drawn", desc := "(III)I" } : Jvm.MethodName) ({ cls := "WalkRanksModel", name := "drawn", desc := "(III)I" } : Jvm.MethodName)) ∈ aw_WS := aw_in (List.mem_of_getElem? (i := 605) rfl) rfl
set_option maxRecDepth 100000 in
theorem k_583 : (Jvm.Cond.code ({ cls := "WalkRanksModel", name := "drawn", desc := "(III)I" } : Jvm.MethodName) prog_8_method_33_code (9 : Nat) (Option.some Jvm.ClassFile.FieldType.int)) ∈ aw_WS := aw_in (List.mem_of_getElem? (i := 606) rfl) rfl
set_option maxRecDepth 100000 in
theorem k_584 : (Jvm.Cond.constant "WalkRanksModel" (117 : Nat) (1664525 : Int32)) ∈ aw_WS := aw_in (List.mem_of_getElem? (i := 607) rfl) rfl
set_option maxRecDepth 100000 in
theorem k_585 : (Jvm.Cond.constant "WalkRanksModel" (118 : Nat) (1013904223 : Int32)) ∈ aw_WS := aw_in (List.mem_of_getElem? (i := 608) rfl) rfl
end
section
-- selects of the private methods; classes; cards
theorem ks_W_renew : Cond.selects "WalkRanks" ⟨"WalkRanks", "renew", "()V"⟩ ⟨"WalkRanks", "renew", "()V"⟩ ∈ aw_WS := aw_in (List.mem_of_getElem? (i := 0) rfl) rfl
theorem ks_S_fillParts : Cond.selects "WalkRanks$Steps" ⟨"WalkRanks$Steps", "fillParts", "(LWalkRanks$Graph;II)V"⟩ ⟨"WalkRanks$Steps", "fillParts", "(LWalkRanks$Graph;II)V"⟩ ∈ aw_WS := aw_in (List.mem_of_getElem? (i := 1) rfl) rfl
theorem ks_S_lowerParts : Cond.selects "WalkRanks$Steps" ⟨"WalkRanks$Steps", "lowerParts", "(I)V"⟩ ⟨"WalkRanks$Steps", "lowerParts", "(I)V"⟩ ∈ aw_WS := aw_in (List.mem_of_getElem? (i := 2) rfl) rfl
theorem ks_S_sumUp : Cond.selects "WalkRanks$Steps" ⟨"WalkRanks$Steps", "sumUp", "(I)V"⟩ ⟨"WalkRanks$Steps", "sumUp", "(I)V"⟩ ∈ aw_WS := aw_in (List.mem_of_getElem? (i := 3) rfl) rfl
theorem ks_S_nextOf : Cond.selects "WalkRanks$Steps" ⟨"WalkRanks$Steps", "nextOf", "(I)I"⟩ ⟨"WalkRanks$Steps", "nextOf", "(I)I"⟩ ∈ aw_WS := aw_in (List.mem_of_getElem? (i := 4) rfl) rfl
theorem ks_C_isClosedFrom : Cond.selects "WalkRanks$ClosedSets" ⟨"WalkRanks$ClosedSets", "isClosedFrom", "(I)Z"⟩ ⟨"WalkRanks$ClosedSets", "isClosedFrom", "(I)Z"⟩ ∈ aw_WS := aw_in (List.mem_of_getElem? (i := 5) rfl) rfl
theorem ks_C_addSet : Cond.selects "WalkRanks$ClosedSets" ⟨"WalkRanks$ClosedSets", "addSet", "(I)V"⟩ ⟨"WalkRanks$ClosedSets", "addSet", "(I)V"⟩ ∈ aw_WS := aw_in (List.mem_of_getElem? (i := 6) rfl) rfl
theorem ks_W_isNode : Cond.selects "WalkRanks" ⟨"WalkRanks", "isNode", "(I)Z"⟩ ⟨"WalkRanks", "isNode", "(I)Z"⟩ ∈ aw_WS := aw_in (List.mem_of_getElem? (i := 7) rfl) rfl
theorem ks_W_isSet : Cond.selects "WalkRanks" ⟨"WalkRanks", "isSet", "(I)Z"⟩ ⟨"WalkRanks", "isSet", "(I)Z"⟩ ∈ aw_WS := aw_in (List.mem_of_getElem? (i := 8) rfl) rfl
theorem ks_W_fillShares : Cond.selects "WalkRanks" ⟨"WalkRanks", "fillShares", "(I)J"⟩ ⟨"WalkRanks", "fillShares", "(I)J"⟩ ∈ aw_WS := aw_in (List.mem_of_getElem? (i := 9) rfl) rfl
theorem ks_W_nodesAhead : Cond.selects "WalkRanks" ⟨"WalkRanks", "nodesAhead", "(I)I"⟩ ⟨"WalkRanks", "nodesAhead", "(I)I"⟩ ∈ aw_WS := aw_in (List.mem_of_getElem? (i := 10) rfl) rfl
theorem ks_W_chanceToCome : Cond.selects "WalkRanks" ⟨"WalkRanks", "chanceToCome", "(III)J"⟩ ⟨"WalkRanks", "chanceToCome", "(III)J"⟩ ∈ aw_WS := aw_in (List.mem_of_getElem? (i := 11) rfl) rfl
theorem ks_P_move : Cond.selects "WalkRanks$Spread" ⟨"WalkRanks$Spread", "move", "()V"⟩ ⟨"WalkRanks$Spread", "move", "()V"⟩ ∈ aw_WS := aw_in (List.mem_of_getElem? (i := 12) rfl) rfl
theorem ks_M_isNode : Cond.selects "WalkRanksModel" ⟨"WalkRanksModel", "isNode", "(I)Z"⟩ ⟨"WalkRanksModel", "isNode", "(I)Z"⟩ ∈ aw_WS := aw_in (List.mem_of_getElem? (i := 13) rfl) rfl
theorem ks_M_findRows : Cond.selects "WalkRanksModel" ⟨"WalkRanksModel", "findRows", "()V"⟩ ⟨"WalkRanksModel", "findRows", "()V"⟩ ∈ aw_WS := aw_in (List.mem_of_getElem? (i := 14) rfl) rfl
theorem ks_M_findSets : Cond.selects "WalkRanksModel" ⟨"WalkRanksModel", "findSets", "()V"⟩ ⟨"WalkRanksModel", "findSets", "()V"⟩ ∈ aw_WS := aw_in (List.mem_of_getElem? (i := 15) rfl) rfl
theorem ks_M_isClosed : Cond.selects "WalkRanksModel" ⟨"WalkRanksModel", "isClosed", "(I)Z"⟩ ⟨"WalkRanksModel", "isClosed", "(I)Z"⟩ ∈ aw_WS := aw_in (List.mem_of_getElem? (i := 16) rfl) rfl
theorem ks_M_reached : Cond.selects "WalkRanksModel" ⟨"WalkRanksModel", "reached", "(II)I"⟩ ⟨"WalkRanksModel", "reached", "(II)I"⟩ ∈ aw_WS := aw_in (List.mem_of_getElem? (i := 17) rfl) rfl
theorem ks_M_leads : Cond.selects "WalkRanksModel" ⟨"WalkRanksModel", "leads", "(II)Z"⟩ ⟨"WalkRanksModel", "leads", "(II)Z"⟩ ∈ aw_WS := aw_in (List.mem_of_getElem? (i := 18) rfl) rfl
theorem ks_M_findShares : Cond.selects "WalkRanksModel" ⟨"WalkRanksModel", "findShares", "(I)V"⟩ ⟨"WalkRanksModel", "findShares", "(I)V"⟩ ∈ aw_WS := aw_in (List.mem_of_getElem? (i := 19) rfl) rfl
theorem ks_M_count : Cond.selects "WalkRanksModel" ⟨"WalkRanksModel", "count", "(IIII)V"⟩ ⟨"WalkRanksModel", "count", "(IIII)V"⟩ ∈ aw_WS := aw_in (List.mem_of_getElem? (i := 20) rfl) rfl
theorem ks_M_rootOf : Cond.selects "WalkRanksModel" ⟨"WalkRanksModel", "rootOf", "(II)I"⟩ ⟨"WalkRanksModel", "rootOf", "(II)I"⟩ ∈ aw_WS := aw_in (List.mem_of_getElem? (i := 21) rfl) rfl
theorem ks_M_all : Cond.selects "WalkRanksModel" ⟨"WalkRanksModel", "all", "()I"⟩ ⟨"WalkRanksModel", "all", "()I"⟩ ∈ aw_WS := aw_in (List.mem_of_getElem? (i := 22) rfl) rfl
theorem ks_W_node : Cond.selects "WalkRanks" y_W_node y_W_node ∈ aw_WS := k_168
theorem ks_G_addNode : Cond.selects "WalkRanks$Graph" y_G_addNode y_G_addNode ∈ aw_WS := k_172
theorem ks_S_renew : Cond.selects "WalkRanks$Steps" y_S_renew y_S_renew ∈ aw_WS := k_180
theorem ks_G_allJumps : Cond.selects "WalkRanks$Graph" y_G_allJumps y_G_allJumps ∈ aw_WS := k_184
theorem ks_G_outOf : Cond.selects "WalkRanks$Graph" y_G_outOf y_G_outOf ∈ aw_WS := k_192
theorem ks_C_renew : Cond.selects "WalkRanks$ClosedSets" y_C_renew y_C_renew ∈ aw_WS := k_210
theorem ks_S_nodesBehind : Cond.selects "WalkRanks$Steps" y_S_nodesBehind y_S_nodesBehind ∈ aw_WS := k_214
theorem ks_C_leadingTo : Cond.selects "WalkRanks$ClosedSets" y_C_leadingTo y_C_leadingTo ∈ aw_WS := k_231
theorem ks_W_weight : Cond.selects "WalkRanks" y_W_weight y_W_weight ∈ aw_WS := k_240
theorem ks_W_jump : Cond.selects "WalkRanks" y_W_jump y_W_jump ∈ aw_WS := k_248
theorem ks_W_keep : Cond.selects "WalkRanks" y_W_keep y_W_keep ∈ aw_WS := k_252
theorem ks_W_clear : Cond.selects "WalkRanks" y_W_clear y_W_clear ∈ aw_WS := k_256
theorem ks_W_row : Cond.selects "WalkRanks" y_W_row y_W_row ∈ aw_WS := k_260
theorem ks_W_total : Cond.selects "WalkRanks" y_W_total y_W_total ∈ aw_WS := k_264
theorem ks_W_closed : Cond.selects "WalkRanks" y_W_closed y_W_closed ∈ aw_WS := k_268
theorem ks_W_closedOf : Cond.selects "WalkRanks" y_W_closedOf y_W_closedOf ∈ aw_WS := k_272
theorem ks_W_period : Cond.selects "WalkRanks" y_W_period y_W_period ∈ aw_WS := k_276
theorem ks_S_periodAt : Cond.selects "WalkRanks$Steps" y_S_periodAt y_S_periodAt ∈ aw_WS := k_284
theorem ks_W_rank : Cond.selects "WalkRanks" y_W_rank y_W_rank ∈ aw_WS := k_288
theorem ks_E_fill : Cond.selects "WalkRanks$Equations" y_E_fill y_E_fill ∈ aw_WS := k_303
theorem ks_E_determinant : Cond.selects "WalkRanks$Equations" y_E_determinant y_E_determinant ∈ aw_WS := k_308
theorem ks_W_place : Cond.selects "WalkRanks" y_W_place y_W_place ∈ aw_WS := k_320
theorem ks_W_reach : Cond.selects "WalkRanks" y_W_reach y_W_reach ∈ aw_WS := k_328
theorem ks_E_putChances : Cond.selects "WalkRanks$Equations" y_E_putChances y_E_putChances ∈ aw_WS := k_337
theorem ks_W_hit : Cond.selects "WalkRanks" y_W_hit y_W_hit ∈ aw_WS := k_341
theorem ks_E_putStepCounts : Cond.selects "WalkRanks$Equations" y_E_putStepCounts y_E_putStepCounts ∈ aw_WS := k_346
theorem ks_W_back : Cond.selects "WalkRanks" y_W_back y_W_back ∈ aw_WS := k_350
theorem ks_W_end : Cond.selects "WalkRanks" y_W_end y_W_end ∈ aw_WS := k_354
theorem ks_W_after : Cond.selects "WalkRanks" y_W_after y_W_after ∈ aw_WS := k_358
theorem ks_S_commonTotal : Cond.selects "WalkRanks$Steps" y_S_commonTotal y_S_commonTotal ∈ aw_WS := k_362
theorem ks_P_fillBySteps : Cond.selects "WalkRanks$Spread" y_P_fillBySteps y_P_fillBySteps ∈ aw_WS := k_366
theorem ks_P_run : Cond.selects "WalkRanks$Spread" y_P_run y_P_run ∈ aw_WS := k_370
theorem ks_P_numberAt : Cond.selects "WalkRanks$Spread" y_P_numberAt y_P_numberAt ∈ aw_WS := k_378
theorem ks_W_walks : Cond.selects "WalkRanks" y_W_walks y_W_walks ∈ aw_WS := k_382
theorem ks_P_fillByWeights : Cond.selects "WalkRanks$Spread" y_P_fillByWeights y_P_fillByWeights ∈ aw_WS := k_386
theorem ks_W_drawn : Cond.selects "WalkRanks" y_W_drawn y_W_drawn ∈ aw_WS := k_390
theorem ks_S_nextNode : Cond.selects "WalkRanks$Steps" y_S_nextNode y_S_nextNode ∈ aw_WS := k_396
theorem ks_M_node : Cond.selects "WalkRanksModel" y_M_node y_M_node ∈ aw_WS := k_458
theorem ks_M_weight : Cond.selects "WalkRanksModel" y_M_weight y_M_weight ∈ aw_WS := k_462
theorem ks_M_jump : Cond.selects "WalkRanksModel" y_M_jump y_M_jump ∈ aw_WS := k_470
theorem ks_M_keep : Cond.selects "WalkRanksModel" y_M_keep y_M_keep ∈ aw_WS := k_474
theorem ks_M_clear : Cond.selects "WalkRanksModel" y_M_clear y_M_clear ∈ aw_WS := k_478
theorem ks_M_row : Cond.selects "WalkRanksModel" y_M_row y_M_row ∈ aw_WS := k_482
theorem ks_M_total : Cond.selects "WalkRanksModel" y_M_total y_M_total ∈ aw_WS := k_493
theorem ks_M_closed : Cond.selects "WalkRanksModel" y_M_closed y_M_closed ∈ aw_WS := k_497
theorem ks_M_closedOf : Cond.selects "WalkRanksModel" y_M_closedOf y_M_closedOf ∈ aw_WS := k_517
theorem ks_M_period : Cond.selects "WalkRanksModel" y_M_period y_M_period ∈ aw_WS := k_521
theorem ks_M_rank : Cond.selects "WalkRanksModel" y_M_rank y_M_rank ∈ aw_WS := k_525
theorem ks_M_place : Cond.selects "WalkRanksModel" y_M_place y_M_place ∈ aw_WS := k_550
theorem ks_M_reach : Cond.selects "WalkRanksModel" y_M_reach y_M_reach ∈ aw_WS := k_554
theorem ks_M_hit : Cond.selects "WalkRanksModel" y_M_hit y_M_hit ∈ aw_WS := k_562
theorem ks_M_back : Cond.selects "WalkRanksModel" y_M_back y_M_back ∈ aw_WS := k_566
theorem ks_M_end : Cond.selects "WalkRanksModel" y_M_end y_M_end ∈ aw_WS := k_570
theorem ks_M_after : Cond.selects "WalkRanksModel" y_M_after y_M_after ∈ aw_WS := k_574
theorem ks_M_walks : Cond.selects "WalkRanksModel" y_M_walks y_M_walks ∈ aw_WS := k_578
theorem ks_M_drawn : Cond.selects "WalkRanksModel" y_M_drawn y_M_drawn ∈ aw_WS := k_582
theorem kc_0 : aw_cc 0 r_W f_W 6 t_W := ⟨rfl, by decide +kernel, by decide +kernel, by decide +kernel⟩
theorem kc_1 : aw_cc 1 r_G f_G 5 t_G := ⟨rfl, by decide +kernel, by decide +kernel, by decide +kernel⟩
theorem kc_2 : aw_cc 2 r_S f_S 4 t_S := ⟨rfl, by decide +kernel, by decide +kernel, by decide +kernel⟩
theorem kc_3 : aw_cc 3 r_C f_C 6 t_C := ⟨rfl, by decide +kernel, by decide +kernel, by decide +kernel⟩
theorem kc_4 : aw_cc 4 r_E f_E 2 t_E := ⟨rfl, by decide +kernel, by decide +kernel, by decide +kernel⟩
theorem kc_5 : aw_cc 5 r_P f_P 4 t_P := ⟨rfl, by decide +kernel, by decide +kernel, by decide +kernel⟩
theorem kc_6 : aw_cc 6 r_M f_M 17 t_M := ⟨rfl, by decide +kernel, by decide +kernel, by decide +kernel⟩
theorem kd_W_init : aw_card y_W_init c_W_init 1 none 0 := ⟨k_12, k_1, by decide, by decide, by decide +kernel⟩
theorem kd_G_init : aw_card y_G_init c_G_init 1 none 0 := ⟨k_20, k_2, by decide, by decide, by decide +kernel⟩
theorem kd_S_init : aw_card y_S_init c_S_init 1 none 0 := ⟨k_57, k_3, by decide, by decide, by decide +kernel⟩
theorem kd_C_init : aw_card y_C_init c_C_init 1 none 0 := ⟨k_86, k_4, by decide, by decide, by decide +kernel⟩
theorem kd_E_init : aw_card y_E_init c_E_init 1 none 0 := ⟨k_115, k_5, by decide, by decide, by decide +kernel⟩
theorem kd_P_init : aw_card y_P_init c_P_init 1 none 0 := ⟨k_131, k_6, by decide, by decide, by decide +kernel⟩
theorem kd_W_node : aw_card y_W_node c_W_node 2 (some .int) 0 := ⟨k_169, k_1, by decide, by decide, by decide +kernel⟩
theorem kd_G_addNode : aw_card y_G_addNode c_G_addNode 3 (some .int) 0 := ⟨k_173, k_2, by decide, by decide, by decide +kernel⟩
theorem kd_W_renew : aw_card y_W_renew c_W_renew 1 none 0 := ⟨k_177, k_1, by decide, by decide, by decide +kernel⟩
theorem kd_S_renew : aw_card y_S_renew c_S_renew 4 none 1 := ⟨k_181, k_3, by decide, by decide, by decide +kernel⟩
theorem kd_G_allJumps : aw_card y_G_allJumps c_G_allJumps 3 (some .int) 0 := ⟨k_185, k_2, by decide, by decide, by decide +kernel⟩
theorem kd_S_fillParts : aw_card y_S_fillParts c_S_fillParts 8 none 3 := ⟨k_189, k_3, by decide, by decide, by decide +kernel⟩
theorem kd_G_outOf : aw_card y_G_outOf c_G_outOf 4 (some .int) 1 := ⟨k_193, k_2, by decide, by decide, by decide +kernel⟩
theorem kd_S_lowerParts : aw_card y_S_lowerParts c_S_lowerParts 4 none 1 := ⟨k_197, k_3, by decide, by decide, by decide +kernel⟩
theorem kd_W_greatestDivisor : aw_card y_W_greatestDivisor c_W_greatestDivisor 11 (some .long) 2 := ⟨k_200, k_1, by decide, by decide, by decide +kernel⟩
theorem kd_S_sumUp : aw_card y_S_sumUp c_S_sumUp 3 none 1 := ⟨k_204, k_3, by decide, by decide, by decide +kernel⟩
theorem kd_W_only : aw_card y_W_only c_W_only 1 (some .int) 1 := ⟨k_207, k_1, by decide, by decide, by decide +kernel⟩
theorem kd_C_renew : aw_card y_C_renew c_C_renew 3 none 1 := ⟨k_211, k_4, by decide, by decide, by decide +kernel⟩
theorem kd_S_nodesBehind : aw_card y_S_nodesBehind c_S_nodesBehind 5 (some .int) 2 := ⟨k_215, k_3, by decide, by decide, by decide +kernel⟩
theorem kd_S_nextOf : aw_card y_S_nextOf c_S_nextOf 4 (some .int) 1 := ⟨k_219, k_3, by decide, by decide, by decide +kernel⟩
theorem kd_W_has : aw_card y_W_has c_W_has 2 (some .boolean) 2 := ⟨k_222, k_1, by decide, by decide, by decide +kernel⟩
theorem kd_C_isClosedFrom : aw_card y_C_isClosedFrom c_C_isClosedFrom 2 (some .boolean) 1 := ⟨k_227, k_4, by decide, by decide, by decide +kernel⟩
theorem kd_C_leadingTo : aw_card y_C_leadingTo c_C_leadingTo 4 (some .int) 1 := ⟨k_232, k_4, by decide, by decide, by decide +kernel⟩
theorem kd_C_addSet : aw_card y_C_addSet c_C_addSet 3 none 1 := ⟨k_236, k_4, by decide, by decide, by decide +kernel⟩
theorem kd_W_weight : aw_card y_W_weight c_W_weight 5 (some .int) 3 := ⟨k_241, k_1, by decide, by decide, by decide +kernel⟩
theorem kd_W_isNode : aw_card y_W_isNode c_W_isNode 2 (some .boolean) 1 := ⟨k_245, k_1, by decide, by decide, by decide +kernel⟩
theorem kd_W_jump : aw_card y_W_jump c_W_jump 4 (some .int) 2 := ⟨k_249, k_1, by decide, by decide, by decide +kernel⟩
theorem kd_W_keep : aw_card y_W_keep c_W_keep 3 (some .int) 2 := ⟨k_253, k_1, by decide, by decide, by decide +kernel⟩
theorem kd_W_clear : aw_card y_W_clear c_W_clear 2 (some .int) 0 := ⟨k_257, k_1, by decide, by decide, by decide +kernel⟩
theorem kd_W_row : aw_card y_W_row c_W_row 3 (some .int) 2 := ⟨k_261, k_1, by decide, by decide, by decide +kernel⟩
theorem kd_W_total : aw_card y_W_total c_W_total 2 (some .int) 1 := ⟨k_265, k_1, by decide, by decide, by decide +kernel⟩
theorem kd_W_closed : aw_card y_W_closed c_W_closed 1 (some .int) 0 := ⟨k_269, k_1, by decide, by decide, by decide +kernel⟩
theorem kd_W_closedOf : aw_card y_W_closedOf c_W_closedOf 2 (some .int) 1 := ⟨k_273, k_1, by decide, by decide, by decide +kernel⟩
theorem kd_W_period : aw_card y_W_period c_W_period 2 (some .int) 1 := ⟨k_277, k_1, by decide, by decide, by decide +kernel⟩
theorem kd_W_isSet : aw_card y_W_isSet c_W_isSet 2 (some .boolean) 1 := ⟨k_281, k_1, by decide, by decide, by decide +kernel⟩
theorem kd_S_periodAt : aw_card y_S_periodAt c_S_periodAt 5 (some .int) 1 := ⟨k_285, k_3, by decide, by decide, by decide +kernel⟩
theorem kd_W_rank : aw_card y_W_rank c_W_rank 5 (some .long) 2 := ⟨k_289, k_1, by decide, by decide, by decide +kernel⟩
theorem kd_W_isPart : aw_card y_W_isPart c_W_isPart 1 (some .boolean) 1 := ⟨k_293, k_1, by decide, by decide, by decide +kernel⟩
theorem kd_W_fillShares : aw_card y_W_fillShares c_W_fillShares 5 (some .long) 1 := ⟨k_299, k_1, by decide, by decide, by decide +kernel⟩
theorem kd_E_fill : aw_card y_E_fill c_E_fill 10 none 2 := ⟨k_304, k_5, by decide, by decide, by decide +kernel⟩
theorem kd_E_determinant : aw_card y_E_determinant c_E_determinant 1 (some .long) 0 := ⟨k_309, k_5, by decide, by decide, by decide +kernel⟩
theorem kd_E_expand : aw_card y_E_expand c_E_expand 11 (some .long) 4 := ⟨k_312, k_5, by decide, by decide, by decide +kernel⟩
theorem kd_W_fraction : aw_card y_W_fraction c_W_fraction 9 (some .long) 3 := ⟨k_316, k_1, by decide, by decide, by decide +kernel⟩
theorem kd_W_place : aw_card y_W_place c_W_place 3 (some .int) 1 := ⟨k_321, k_1, by decide, by decide, by decide +kernel⟩
theorem kd_W_nodesAhead : aw_card y_W_nodesAhead c_W_nodesAhead 4 (some .int) 1 := ⟨k_325, k_1, by decide, by decide, by decide +kernel⟩
theorem kd_W_reach : aw_card y_W_reach c_W_reach 4 (some .long) 3 := ⟨k_329, k_1, by decide, by decide, by decide +kernel⟩
theorem kd_W_chanceToCome : aw_card y_W_chanceToCome c_W_chanceToCome 7 (some .long) 3 := ⟨k_333, k_1, by decide, by decide, by decide +kernel⟩
theorem kd_E_putChances : aw_card y_E_putChances c_E_putChances 7 none 4 := ⟨k_338, k_5, by decide, by decide, by decide +kernel⟩
theorem kd_W_hit : aw_card y_W_hit c_W_hit 7 (some .long) 3 := ⟨k_342, k_1, by decide, by decide, by decide +kernel⟩
theorem kd_E_putStepCounts : aw_card y_E_putStepCounts c_E_putStepCounts 5 none 3 := ⟨k_347, k_5, by decide, by decide, by decide +kernel⟩
theorem kd_W_back : aw_card y_W_back c_W_back 5 (some .long) 2 := ⟨k_351, k_1, by decide, by decide, by decide +kernel⟩
theorem kd_W_end : aw_card y_W_end c_W_end 4 (some .long) 3 := ⟨k_355, k_1, by decide, by decide, by decide +kernel⟩
theorem kd_W_after : aw_card y_W_after c_W_after 10 (some .long) 4 := ⟨k_359, k_1, by decide, by decide, by decide +kernel⟩
theorem kd_S_commonTotal : aw_card y_S_commonTotal c_S_commonTotal 6 (some .long) 0 := ⟨k_363, k_3, by decide, by decide, by decide +kernel⟩
theorem kd_P_fillBySteps : aw_card y_P_fillBySteps c_P_fillBySteps 8 none 2 := ⟨k_367, k_6, by decide, by decide, by decide +kernel⟩
theorem kd_P_run : aw_card y_P_run c_P_run 4 none 2 := ⟨k_371, k_6, by decide, by decide, by decide +kernel⟩
theorem kd_P_move : aw_card y_P_move c_P_move 3 none 0 := ⟨k_375, k_6, by decide, by decide, by decide +kernel⟩
theorem kd_P_numberAt : aw_card y_P_numberAt c_P_numberAt 2 (some .long) 1 := ⟨k_379, k_6, by decide, by decide, by decide +kernel⟩
theorem kd_W_walks : aw_card y_W_walks c_W_walks 4 (some .long) 3 := ⟨k_383, k_1, by decide, by decide, by decide +kernel⟩
theorem kd_P_fillByWeights : aw_card y_P_fillByWeights c_P_fillByWeights 4 none 1 := ⟨k_387, k_6, by decide, by decide, by decide +kernel⟩
theorem kd_W_drawn : aw_card y_W_drawn c_W_drawn 7 (some .int) 3 := ⟨k_391, k_1, by decide, by decide, by decide +kernel⟩
theorem kd_S_nextNode : aw_card y_S_nextNode c_S_nextNode 5 (some .int) 2 := ⟨k_397, k_3, by decide, by decide, by decide +kernel⟩
theorem kd_M_init : aw_card y_M_init c_M_init 1 none 0 := ⟨k_402, k_7, by decide, by decide, by decide +kernel⟩
theorem kd_M_node : aw_card y_M_node c_M_node 2 (some .int) 0 := ⟨k_459, k_7, by decide, by decide, by decide +kernel⟩
theorem kd_M_weight : aw_card y_M_weight c_M_weight 5 (some .int) 3 := ⟨k_463, k_7, by decide, by decide, by decide +kernel⟩
theorem kd_M_isNode : aw_card y_M_isNode c_M_isNode 2 (some .boolean) 1 := ⟨k_467, k_7, by decide, by decide, by decide +kernel⟩
theorem kd_M_jump : aw_card y_M_jump c_M_jump 4 (some .int) 2 := ⟨k_471, k_7, by decide, by decide, by decide +kernel⟩
theorem kd_M_keep : aw_card y_M_keep c_M_keep 3 (some .int) 2 := ⟨k_475, k_7, by decide, by decide, by decide +kernel⟩
theorem kd_M_clear : aw_card y_M_clear c_M_clear 2 (some .int) 0 := ⟨k_479, k_7, by decide, by decide, by decide +kernel⟩
theorem kd_M_row : aw_card y_M_row c_M_row 3 (some .int) 2 := ⟨k_483, k_7, by decide, by decide, by decide +kernel⟩
theorem kd_M_findRows : aw_card y_M_findRows c_M_findRows 9 none 0 := ⟨k_487, k_7, by decide, by decide, by decide +kernel⟩
theorem kd_M_common : aw_card y_M_common c_M_common 10 (some .long) 2 := ⟨k_490, k_7, by decide, by decide, by decide +kernel⟩
theorem kd_M_total : aw_card y_M_total c_M_total 2 (some .int) 1 := ⟨k_494, k_7, by decide, by decide, by decide +kernel⟩
theorem kd_M_closed : aw_card y_M_closed c_M_closed 1 (some .int) 0 := ⟨k_498, k_7, by decide, by decide, by decide +kernel⟩
theorem kd_M_findSets : aw_card y_M_findSets c_M_findSets 4 none 0 := ⟨k_502, k_7, by decide, by decide, by decide +kernel⟩
theorem kd_M_isClosed : aw_card y_M_isClosed c_M_isClosed 5 (some .boolean) 1 := ⟨k_506, k_7, by decide, by decide, by decide +kernel⟩
theorem kd_M_reached : aw_card y_M_reached c_M_reached 7 (some .int) 2 := ⟨k_510, k_7, by decide, by decide, by decide +kernel⟩
theorem kd_M_leads : aw_card y_M_leads c_M_leads 3 (some .boolean) 2 := ⟨k_514, k_7, by decide, by decide, by decide +kernel⟩
theorem kd_M_closedOf : aw_card y_M_closedOf c_M_closedOf 2 (some .int) 1 := ⟨k_518, k_7, by decide, by decide, by decide +kernel⟩
theorem kd_M_period : aw_card y_M_period c_M_period 10 (some .int) 1 := ⟨k_522, k_7, by decide, by decide, by decide +kernel⟩
theorem kd_M_rank : aw_card y_M_rank c_M_rank 3 (some .long) 2 := ⟨k_526, k_7, by decide, by decide, by decide +kernel⟩
theorem kd_M_isPart : aw_card y_M_isPart c_M_isPart 1 (some .boolean) 1 := ⟨k_530, k_7, by decide, by decide, by decide +kernel⟩
theorem kd_M_findShares : aw_card y_M_findShares c_M_findShares 3 none 1 := ⟨k_536, k_7, by decide, by decide, by decide +kernel⟩
theorem kd_M_count : aw_card y_M_count c_M_count 12 none 4 := ⟨k_540, k_7, by decide, by decide, by decide +kernel⟩
theorem kd_M_rootOf : aw_card y_M_rootOf c_M_rootOf 5 (some .int) 2 := ⟨k_544, k_7, by decide, by decide, by decide +kernel⟩
theorem kd_M_lowest : aw_card y_M_lowest c_M_lowest 7 (some .long) 3 := ⟨k_547, k_7, by decide, by decide, by decide +kernel⟩
theorem kd_M_place : aw_card y_M_place c_M_place 5 (some .int) 1 := ⟨k_551, k_7, by decide, by decide, by decide +kernel⟩
theorem kd_M_reach : aw_card y_M_reach c_M_reach 6 (some .long) 3 := ⟨k_555, k_7, by decide, by decide, by decide +kernel⟩
theorem kd_M_all : aw_card y_M_all c_M_all 1 (some .int) 0 := ⟨k_559, k_7, by decide, by decide, by decide +kernel⟩
theorem kd_M_hit : aw_card y_M_hit c_M_hit 9 (some .long) 3 := ⟨k_563, k_7, by decide, by decide, by decide +kernel⟩
theorem kd_M_back : aw_card y_M_back c_M_back 3 (some .long) 2 := ⟨k_567, k_7, by decide, by decide, by decide +kernel⟩
theorem kd_M_end : aw_card y_M_end c_M_end 6 (some .long) 3 := ⟨k_571, k_7, by decide, by decide, by decide +kernel⟩
theorem kd_M_after : aw_card y_M_after c_M_after 12 (some .long) 4 := ⟨k_575, k_7, by decide, by decide, by decide +kernel⟩
theorem kd_M_walks : aw_card y_M_walks c_M_walks 7 (some .long) 3 := ⟨k_579, k_7, by decide, by decide, by decide +kernel⟩
theorem kd_M_drawn : aw_card y_M_drawn c_M_drawn 9 (some .int) 3 := ⟨k_583, k_7, by decide, by decide, by decide +kernel⟩
end
