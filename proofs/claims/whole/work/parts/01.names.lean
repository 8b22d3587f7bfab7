-- ===== PART A: goes FIRST, ahead of the names: the tables' words, and 'selects' of the private methods out of them =====
/-- a private method of a class that the tables say can be made, by its rows of tables_1 -/
def lw_okq (q : MethodName × Nat) : Prop := (q.1.cls ≠ "java/lang/invoke/MethodHandle" ∧ q.1.cls ≠ "java/lang/invoke/VarHandle") ∧ Cond.instantiable q.1.cls q.2 ∈ tables_1 ∧ Cond.privateMethod q.1 ∈ tables_1 ∧ Cond.instanceMethod q.1 ∈ tables_1
theorem lw_p0 : lw_okq (⟨"WalkRanks", "renew", "()V"⟩, 6) := ⟨⟨by decide +kernel, by decide +kernel⟩, List.mem_of_getElem? (i := 9) (by decide +kernel), List.mem_of_getElem? (i := 175) (by decide +kernel), List.mem_of_getElem? (i := 176) (by decide +kernel)⟩
theorem lw_p1 : lw_okq (⟨"WalkRanks$Steps", "fillParts", "(LWalkRanks$Graph;II)V"⟩, 4) := ⟨⟨by decide +kernel, by decide +kernel⟩, List.mem_of_getElem? (i := 54) (by decide +kernel), List.mem_of_getElem? (i := 187) (by decide +kernel), List.mem_of_getElem? (i := 188) (by decide +kernel)⟩
theorem lw_p2 : lw_okq (⟨"WalkRanks$Steps", "lowerParts", "(I)V"⟩, 4) := ⟨⟨by decide +kernel, by decide +kernel⟩, List.mem_of_getElem? (i := 54) (by decide +kernel), List.mem_of_getElem? (i := 195) (by decide +kernel), List.mem_of_getElem? (i := 196) (by decide +kernel)⟩
theorem lw_p3 : lw_okq (⟨"WalkRanks$Steps", "sumUp", "(I)V"⟩, 4) := ⟨⟨by decide +kernel, by decide +kernel⟩, List.mem_of_getElem? (i := 54) (by decide +kernel), List.mem_of_getElem? (i := 202) (by decide +kernel), List.mem_of_getElem? (i := 203) (by decide +kernel)⟩
theorem lw_p4 : lw_okq (⟨"WalkRanks$Steps", "nextOf", "(I)I"⟩, 4) := ⟨⟨by decide +kernel, by decide +kernel⟩, List.mem_of_getElem? (i := 54) (by decide +kernel), List.mem_of_getElem? (i := 217) (by decide +kernel), List.mem_of_getElem? (i := 218) (by decide +kernel)⟩
theorem lw_p5 : lw_okq (⟨"WalkRanks$ClosedSets", "isClosedFrom", "(I)Z"⟩, 6) := ⟨⟨by decide +kernel, by decide +kernel⟩, List.mem_of_getElem? (i := 83) (by decide +kernel), List.mem_of_getElem? (i := 225) (by decide +kernel), List.mem_of_getElem? (i := 226) (by decide +kernel)⟩
theorem lw_p6 : lw_okq (⟨"WalkRanks$ClosedSets", "addSet", "(I)V"⟩, 6) := ⟨⟨by decide +kernel, by decide +kernel⟩, List.mem_of_getElem? (i := 83) (by decide +kernel), List.mem_of_getElem? (i := 234) (by decide +kernel), List.mem_of_getElem? (i := 235) (by decide +kernel)⟩
theorem lw_p7 : lw_okq (⟨"WalkRanks", "isNode", "(I)Z"⟩, 6) := ⟨⟨by decide +kernel, by decide +kernel⟩, List.mem_of_getElem? (i := 9) (by decide +kernel), List.mem_of_getElem? (i := 243) (by decide +kernel), List.mem_of_getElem? (i := 244) (by decide +kernel)⟩
theorem lw_p8 : lw_okq (⟨"WalkRanks", "isSet", "(I)Z"⟩, 6) := ⟨⟨by decide +kernel, by decide +kernel⟩, List.mem_of_getElem? (i := 9) (by decide +kernel), List.mem_of_getElem? (i := 279) (by decide +kernel), List.mem_of_getElem? (i := 280) (by decide +kernel)⟩
theorem lw_p9 : lw_okq (⟨"WalkRanks", "fillShares", "(I)J"⟩, 6) := ⟨⟨by decide +kernel, by decide +kernel⟩, List.mem_of_getElem? (i := 9) (by decide +kernel), List.mem_of_getElem? (i := 297) (by decide +kernel), List.mem_of_getElem? (i := 298) (by decide +kernel)⟩
theorem lw_p10 : lw_okq (⟨"WalkRanks", "nodesAhead", "(I)I"⟩, 6) := ⟨⟨by decide +kernel, by decide +kernel⟩, List.mem_of_getElem? (i := 9) (by decide +kernel), List.mem_of_getElem? (i := 323) (by decide +kernel), List.mem_of_getElem? (i := 324) (by decide +kernel)⟩
theorem lw_p11 : lw_okq (⟨"WalkRanks", "chanceToCome", "(III)J"⟩, 6) := ⟨⟨by decide +kernel, by decide +kernel⟩, List.mem_of_getElem? (i := 9) (by decide +kernel), List.mem_of_getElem? (i := 331) (by decide +kernel), List.mem_of_getElem? (i := 332) (by decide +kernel)⟩
theorem lw_p12 : lw_okq (⟨"WalkRanks$Spread", "move", "()V"⟩, 4) := ⟨⟨by decide +kernel, by decide +kernel⟩, List.mem_of_getElem? (i := 128) (by decide +kernel), List.mem_of_getElem? (i := 373) (by decide +kernel), List.mem_of_getElem? (i := 374) (by decide +kernel)⟩
theorem lw_p13 : lw_okq (⟨"WalkRanksModel", "isNode", "(I)Z"⟩, 17) := ⟨⟨by decide +kernel, by decide +kernel⟩, List.mem_of_getElem? (i := 399) (by decide +kernel), List.mem_of_getElem? (i := 465) (by decide +kernel), List.mem_of_getElem? (i := 466) (by decide +kernel)⟩
theorem lw_p14 : lw_okq (⟨"WalkRanksModel", "findRows", "()V"⟩, 17) := ⟨⟨by decide +kernel, by decide +kernel⟩, List.mem_of_getElem? (i := 399) (by decide +kernel), List.mem_of_getElem? (i := 485) (by decide +kernel), List.mem_of_getElem? (i := 486) (by decide +kernel)⟩
theorem lw_p15 : lw_okq (⟨"WalkRanksModel", "findSets", "()V"⟩, 17) := ⟨⟨by decide +kernel, by decide +kernel⟩, List.mem_of_getElem? (i := 399) (by decide +kernel), List.mem_of_getElem? (i := 500) (by decide +kernel), List.mem_of_getElem? (i := 501) (by decide +kernel)⟩
def lw_privs_1 : List (MethodName × Nat) := [(⟨"WalkRanks", "renew", "()V"⟩, 6), (⟨"WalkRanks$Steps", "fillParts", "(LWalkRanks$Graph;II)V"⟩, 4), (⟨"WalkRanks$Steps", "lowerParts", "(I)V"⟩, 4), (⟨"WalkRanks$Steps", "sumUp", "(I)V"⟩, 4), (⟨"WalkRanks$Steps", "nextOf", "(I)I"⟩, 4), (⟨"WalkRanks$ClosedSets", "isClosedFrom", "(I)Z"⟩, 6), (⟨"WalkRanks$ClosedSets", "addSet", "(I)V"⟩, 6), (⟨"WalkRanks", "isNode", "(I)Z"⟩, 6), (⟨"WalkRanks", "isSet", "(I)Z"⟩, 6), (⟨"WalkRanks", "fillShares", "(I)J"⟩, 6), (⟨"WalkRanks", "nodesAhead", "(I)I"⟩, 6), (⟨"WalkRanks", "chanceToCome", "(III)J"⟩, 6), (⟨"WalkRanks$Spread", "move", "()V"⟩, 4), (⟨"WalkRanksModel", "isNode", "(I)Z"⟩, 17), (⟨"WalkRanksModel", "findRows", "()V"⟩, 17), (⟨"WalkRanksModel", "findSets", "()V"⟩, 17)]
theorem lw_r1 : ∀ q ∈ lw_privs_1, lw_okq q := List.forall_mem_cons.mpr ⟨lw_p0, List.forall_mem_cons.mpr ⟨lw_p1, List.forall_mem_cons.mpr ⟨lw_p2, List.forall_mem_cons.mpr ⟨lw_p3, List.forall_mem_cons.mpr ⟨lw_p4, List.forall_mem_cons.mpr ⟨lw_p5, List.forall_mem_cons.mpr ⟨lw_p6, List.forall_mem_cons.mpr ⟨lw_p7, List.forall_mem_cons.mpr ⟨lw_p8, List.forall_mem_cons.mpr ⟨lw_p9, List.forall_mem_cons.mpr ⟨lw_p10, List.forall_mem_cons.mpr ⟨lw_p11, List.forall_mem_cons.mpr ⟨lw_p12, List.forall_mem_cons.mpr ⟨lw_p13, List.forall_mem_cons.mpr ⟨lw_p14, List.forall_mem_cons.mpr ⟨lw_p15, fun _ h => absurd h List.not_mem_nil⟩⟩⟩⟩⟩⟩⟩⟩⟩⟩⟩⟩⟩⟩⟩⟩
theorem lw_p16 : lw_okq (⟨"WalkRanksModel", "isClosed", "(I)Z"⟩, 17) := ⟨⟨by decide +kernel, by decide +kernel⟩, List.mem_of_getElem? (i := 399) (by decide +kernel), List.mem_of_getElem? (i := 504) (by decide +kernel), List.mem_of_getElem? (i := 505) (by decide +kernel)⟩
theorem lw_p17 : lw_okq (⟨"WalkRanksModel", "reached", "(II)I"⟩, 17) := ⟨⟨by decide +kernel, by decide +kernel⟩, List.mem_of_getElem? (i := 399) (by decide +kernel), List.mem_of_getElem? (i := 508) (by decide +kernel), List.mem_of_getElem? (i := 509) (by decide +kernel)⟩
theorem lw_p18 : lw_okq (⟨"WalkRanksModel", "leads", "(II)Z"⟩, 17) := ⟨⟨by decide +kernel, by decide +kernel⟩, List.mem_of_getElem? (i := 399) (by decide +kernel), List.mem_of_getElem? (i := 512) (by decide +kernel), List.mem_of_getElem? (i := 513) (by decide +kernel)⟩
theorem lw_p19 : lw_okq (⟨"WalkRanksModel", "findShares", "(I)V"⟩, 17) := ⟨⟨by decide +kernel, by decide +kernel⟩, List.mem_of_getElem? (i := 399) (by decide +kernel), List.mem_of_getElem? (i := 534) (by decide +kernel), List.mem_of_getElem? (i := 535) (by decide +kernel)⟩
theorem lw_p20 : lw_okq (⟨"WalkRanksModel", "count", "(IIII)V"⟩, 17) := ⟨⟨by decide +kernel, by decide +kernel⟩, List.mem_of_getElem? (i := 399) (by decide +kernel), List.mem_of_getElem? (i := 538) (by decide +kernel), List.mem_of_getElem? (i := 539) (by decide +kernel)⟩
theorem lw_p21 : lw_okq (⟨"WalkRanksModel", "rootOf", "(II)I"⟩, 17) := ⟨⟨by decide +kernel, by decide +kernel⟩, List.mem_of_getElem? (i := 399) (by decide +kernel), List.mem_of_getElem? (i := 542) (by decide +kernel), List.mem_of_getElem? (i := 543) (by decide +kernel)⟩
theorem lw_p22 : lw_okq (⟨"WalkRanksModel", "all", "()I"⟩, 17) := ⟨⟨by decide +kernel, by decide +kernel⟩, List.mem_of_getElem? (i := 399) (by decide +kernel), List.mem_of_getElem? (i := 557) (by decide +kernel), List.mem_of_getElem? (i := 558) (by decide +kernel)⟩
def lw_privs_2 : List (MethodName × Nat) := [(⟨"WalkRanksModel", "isClosed", "(I)Z"⟩, 17), (⟨"WalkRanksModel", "reached", "(II)I"⟩, 17), (⟨"WalkRanksModel", "leads", "(II)Z"⟩, 17), (⟨"WalkRanksModel", "findShares", "(I)V"⟩, 17), (⟨"WalkRanksModel", "count", "(IIII)V"⟩, 17), (⟨"WalkRanksModel", "rootOf", "(II)I"⟩, 17), (⟨"WalkRanksModel", "all", "()I"⟩, 17)]
theorem lw_r2 : ∀ q ∈ lw_privs_2, lw_okq q := List.forall_mem_cons.mpr ⟨lw_p16, List.forall_mem_cons.mpr ⟨lw_p17, List.forall_mem_cons.mpr ⟨lw_p18, List.forall_mem_cons.mpr ⟨lw_p19, List.forall_mem_cons.mpr ⟨lw_p20, List.forall_mem_cons.mpr ⟨lw_p21, List.forall_mem_cons.mpr ⟨lw_p22, fun _ h => absurd h List.not_mem_nil⟩⟩⟩⟩⟩⟩⟩
def lw_privs : List (MethodName × Nat) := lw_privs_1 ++ (lw_privs_2)
def lw_tbl : List Cond := k2_sels lw_privs ++ tables_1
theorem lw_privs_ok : ∀ q ∈ lw_privs, lw_okq q := by
  show ∀ q ∈ lw_privs_1 ++ (lw_privs_2), lw_okq q
  exact List.forall_mem_append.mpr ⟨lw_r1, lw_r2⟩
def r_W : String := "WalkRanks"
def f_W : u_T := fun k => match k with
  | 0 => ("WalkRanks", "graph", "LWalkRanks$Graph;", true)
  | 1 => ("WalkRanks", "steps", "LWalkRanks$Steps;", true)
  | 2 => ("WalkRanks", "sets", "LWalkRanks$ClosedSets;", true)
  | 3 => ("WalkRanks", "equations", "LWalkRanks$Equations;", true)
  | 4 => ("WalkRanks", "spread", "LWalkRanks$Spread;", true)
  | _ => ("WalkRanks", "shares", "[J", true)
def t_W : Nat → FieldType := fun k => match k with
  | 0 => .object "WalkRanks$Graph"
  | 1 => .object "WalkRanks$Steps"
  | 2 => .object "WalkRanks$ClosedSets"
  | 3 => .object "WalkRanks$Equations"
  | 4 => .object "WalkRanks$Spread"
  | _ => .array .long
def r_G : String := "WalkRanks$Graph"
def f_G : u_T := fun k => match k with
  | 0 => ("WalkRanks$Graph", "size", "I", false)
  | 1 => ("WalkRanks$Graph", "keepAbove", "I", false)
  | 2 => ("WalkRanks$Graph", "keepBelow", "I", false)
  | 3 => ("WalkRanks$Graph", "weights", "[[I", true)
  | _ => ("WalkRanks$Graph", "jumps", "[I", true)
def t_G : Nat → FieldType := fun k => match k with
  | 0 => .int
  | 1 => .int
  | 2 => .int
  | 3 => .array (.array .int)
  | _ => .array .int
def r_S : String := "WalkRanks$Steps"
def f_S : u_T := fun k => match k with
  | 0 => ("WalkRanks$Steps", "size", "I", false)
  | 1 => ("WalkRanks$Steps", "parts", "[[I", true)
  | 2 => ("WalkRanks$Steps", "totals", "[I", true)
  | _ => ("WalkRanks$Steps", "next", "[I", true)
def t_S : Nat → FieldType := fun k => match k with
  | 0 => .int
  | 1 => .array (.array .int)
  | 2 => .array .int
  | _ => .array .int
def r_C : String := "WalkRanks$ClosedSets"
def f_C : u_T := fun k => match k with
  | 0 => ("WalkRanks$ClosedSets", "number", "I", false)
  | 1 => ("WalkRanks$ClosedSets", "members", "[I", true)
  | 2 => ("WalkRanks$ClosedSets", "leastNodes", "[I", true)
  | 3 => ("WalkRanks$ClosedSets", "setOf", "[I", true)
  | 4 => ("WalkRanks$ClosedSets", "size", "I", false)
  | _ => ("WalkRanks$ClosedSets", "leads", "[I", true)
def t_C : Nat → FieldType := fun k => match k with
  | 0 => .int
  | 1 => .array .int
  | 2 => .array .int
  | 3 => .array .int
  | 4 => .int
  | _ => .array .int
def r_E : String := "WalkRanks$Equations"
def f_E : u_T := fun k => match k with
  | 0 => ("WalkRanks$Equations", "size", "I", false)
  | _ => ("WalkRanks$Equations", "cells", "[[J", true)
def t_E : Nat → FieldType := fun k => match k with
  | 0 => .int
  | _ => .array (.array .long)
def r_P : String := "WalkRanks$Spread"
def f_P : u_T := fun k => match k with
  | 0 => ("WalkRanks$Spread", "now", "[J", false)
  | 1 => ("WalkRanks$Spread", "next", "[J", false)
  | 2 => ("WalkRanks$Spread", "size", "I", false)
  | _ => ("WalkRanks$Spread", "factors", "[[J", true)
def t_P : Nat → FieldType := fun k => match k with
  | 0 => .array .long
  | 1 => .array .long
  | 2 => .int
  | _ => .array (.array .long)
def r_M : String := "WalkRanksModel"
def f_M : u_T := fun k => match k with
  | 0 => ("WalkRanksModel", "nodes", "I", false)
  | 1 => ("WalkRanksModel", "weights", "[I", true)
  | 2 => ("WalkRanksModel", "jumps", "[I", true)
  | 3 => ("WalkRanksModel", "above", "I", false)
  | 4 => ("WalkRanksModel", "below", "I", false)
  | 5 => ("WalkRanksModel", "row", "[I", true)
  | 6 => ("WalkRanksModel", "total", "[I", true)
  | 7 => ("WalkRanksModel", "sets", "I", false)
  | 8 => ("WalkRanksModel", "setOf", "[I", true)
  | 9 => ("WalkRanksModel", "bitsOf", "[I", true)
  | 10 => ("WalkRanksModel", "forests", "J", false)
  | 11 => ("WalkRanksModel", "toward", "J", false)
  | 12 => ("WalkRanksModel", "step", "[I", true)
  | 13 => ("WalkRanksModel", "shares", "[J", true)
  | 14 => ("WalkRanksModel", "shareSum", "J", false)
  | 15 => ("WalkRanksModel", "now", "[J", true)
  | _ => ("WalkRanksModel", "then", "[J", true)
def t_M : Nat → FieldType := fun k => match k with
  | 0 => .int
  | 1 => .array .int
  | 2 => .array .int
  | 3 => .int
  | 4 => .int
  | 5 => .array .int
  | 6 => .array .int
  | 7 => .int
  | 8 => .array .int
  | 9 => .array .int
  | 10 => .long
  | 11 => .long
  | 12 => .array .int
  | 13 => .array .long
  | 14 => .long
  | 15 => .array .long
  | _ => .array .long
abbrev vwCl : List vw_C := [(r_W, f_W, 6), (r_G, f_G, 5), (r_S, f_S, 4), (r_C, f_C, 6), (r_E, f_E, 2), (r_P, f_P, 4), (r_M, f_M, 17)]
abbrev c_W_init : ByteArray := prog_1_method_1_code
abbrev y_W_init : MethodName := ⟨"WalkRanks", "<init>", "()V"⟩
abbrev c_G_init : ByteArray := prog_4_method_1_code
abbrev y_G_init : MethodName := ⟨"WalkRanks$Graph", "<init>", "()V"⟩
abbrev c_S_init : ByteArray := prog_6_method_1_code
abbrev y_S_init : MethodName := ⟨"WalkRanks$Steps", "<init>", "()V"⟩
abbrev c_C_init : ByteArray := prog_2_method_1_code
abbrev y_C_init : MethodName := ⟨"WalkRanks$ClosedSets", "<init>", "()V"⟩
abbrev c_E_init : ByteArray := prog_3_method_1_code
abbrev y_E_init : MethodName := ⟨"WalkRanks$Equations", "<init>", "()V"⟩
abbrev c_P_init : ByteArray := prog_5_method_1_code
abbrev y_P_init : MethodName := ⟨"WalkRanks$Spread", "<init>", "()V"⟩
abbrev c_W_node : ByteArray := prog_1_method_2_code
abbrev y_W_node : MethodName := ⟨"WalkRanks", "node", "()I"⟩
abbrev c_G_addNode : ByteArray := prog_4_method_2_code
abbrev y_G_addNode : MethodName := ⟨"WalkRanks$Graph", "addNode", "()I"⟩
abbrev c_W_renew : ByteArray := prog_1_method_24_code
abbrev y_W_renew : MethodName := ⟨"WalkRanks", "renew", "()V"⟩
abbrev c_S_renew : ByteArray := prog_6_method_2_code
abbrev y_S_renew : MethodName := ⟨"WalkRanks$Steps", "renew", "(LWalkRanks$Graph;)V"⟩
abbrev c_G_allJumps : ByteArray := prog_4_method_4_code
abbrev y_G_allJumps : MethodName := ⟨"WalkRanks$Graph", "allJumps", "()I"⟩
abbrev c_S_fillParts : ByteArray := prog_6_method_3_code
abbrev y_S_fillParts : MethodName := ⟨"WalkRanks$Steps", "fillParts", "(LWalkRanks$Graph;II)V"⟩
abbrev c_G_outOf : ByteArray := prog_4_method_3_code
abbrev y_G_outOf : MethodName := ⟨"WalkRanks$Graph", "outOf", "(I)I"⟩
abbrev c_S_lowerParts : ByteArray := prog_6_method_4_code
abbrev y_S_lowerParts : MethodName := ⟨"WalkRanks$Steps", "lowerParts", "(I)V"⟩
abbrev c_W_greatestDivisor : ByteArray := prog_1_method_29_code
abbrev y_W_greatestDivisor : MethodName := ⟨"WalkRanks", "greatestDivisor", "(JJ)J"⟩
abbrev c_S_sumUp : ByteArray := prog_6_method_5_code
abbrev y_S_sumUp : MethodName := ⟨"WalkRanks$Steps", "sumUp", "(I)V"⟩
abbrev c_W_only : ByteArray := prog_1_method_30_code
abbrev y_W_only : MethodName := ⟨"WalkRanks", "only", "(I)I"⟩
abbrev c_C_renew : ByteArray := prog_2_method_2_code
abbrev y_C_renew : MethodName := ⟨"WalkRanks$ClosedSets", "renew", "(LWalkRanks$Steps;)V"⟩
abbrev c_S_nodesBehind : ByteArray := prog_6_method_8_code
abbrev y_S_nodesBehind : MethodName := ⟨"WalkRanks$Steps", "nodesBehind", "(II)I"⟩
abbrev c_S_nextOf : ByteArray := prog_6_method_7_code
abbrev y_S_nextOf : MethodName := ⟨"WalkRanks$Steps", "nextOf", "(I)I"⟩
abbrev c_W_has : ByteArray := prog_1_method_31_code
abbrev y_W_has : MethodName := ⟨"WalkRanks", "has", "(II)Z"⟩
abbrev c_C_isClosedFrom : ByteArray := prog_2_method_3_code
abbrev y_C_isClosedFrom : MethodName := ⟨"WalkRanks$ClosedSets", "isClosedFrom", "(I)Z"⟩
abbrev c_C_leadingTo : ByteArray := prog_2_method_5_code
abbrev y_C_leadingTo : MethodName := ⟨"WalkRanks$ClosedSets", "leadingTo", "(I)I"⟩
abbrev c_C_addSet : ByteArray := prog_2_method_4_code
abbrev y_C_addSet : MethodName := ⟨"WalkRanks$ClosedSets", "addSet", "(I)V"⟩
abbrev c_W_weight : ByteArray := prog_1_method_3_code
abbrev y_W_weight : MethodName := ⟨"WalkRanks", "weight", "(III)I"⟩
abbrev c_W_isNode : ByteArray := prog_1_method_21_code
abbrev y_W_isNode : MethodName := ⟨"WalkRanks", "isNode", "(I)Z"⟩
abbrev c_W_jump : ByteArray := prog_1_method_4_code
abbrev y_W_jump : MethodName := ⟨"WalkRanks", "jump", "(II)I"⟩
abbrev c_W_keep : ByteArray := prog_1_method_5_code
abbrev y_W_keep : MethodName := ⟨"WalkRanks", "keep", "(II)I"⟩
abbrev c_W_clear : ByteArray := prog_1_method_6_code
abbrev y_W_clear : MethodName := ⟨"WalkRanks", "clear", "()I"⟩
abbrev c_W_row : ByteArray := prog_1_method_7_code
abbrev y_W_row : MethodName := ⟨"WalkRanks", "row", "(II)I"⟩
abbrev c_W_total : ByteArray := prog_1_method_8_code
abbrev y_W_total : MethodName := ⟨"WalkRanks", "total", "(I)I"⟩
abbrev c_W_closed : ByteArray := prog_1_method_9_code
abbrev y_W_closed : MethodName := ⟨"WalkRanks", "closed", "()I"⟩
abbrev c_W_closedOf : ByteArray := prog_1_method_10_code
abbrev y_W_closedOf : MethodName := ⟨"WalkRanks", "closedOf", "(I)I"⟩
abbrev c_W_period : ByteArray := prog_1_method_11_code
abbrev y_W_period : MethodName := ⟨"WalkRanks", "period", "(I)I"⟩
abbrev c_W_isSet : ByteArray := prog_1_method_22_code
abbrev y_W_isSet : MethodName := ⟨"WalkRanks", "isSet", "(I)Z"⟩
abbrev c_S_periodAt : ByteArray := prog_6_method_9_code
abbrev y_S_periodAt : MethodName := ⟨"WalkRanks$Steps", "periodAt", "(I)I"⟩
abbrev c_W_rank : ByteArray := prog_1_method_12_code
abbrev y_W_rank : MethodName := ⟨"WalkRanks", "rank", "(II)J"⟩
abbrev c_W_isPart : ByteArray := prog_1_method_23_code
abbrev y_W_isPart : MethodName := ⟨"WalkRanks", "isPart", "(I)Z"⟩
abbrev c_W_fillShares : ByteArray := prog_1_method_25_code
abbrev y_W_fillShares : MethodName := ⟨"WalkRanks", "fillShares", "(I)J"⟩
abbrev c_E_fill : ByteArray := prog_3_method_2_code
abbrev y_E_fill : MethodName := ⟨"WalkRanks$Equations", "fill", "(LWalkRanks$Steps;I)V"⟩
abbrev c_E_determinant : ByteArray := prog_3_method_5_code
abbrev y_E_determinant : MethodName := ⟨"WalkRanks$Equations", "determinant", "()J"⟩
abbrev c_E_expand : ByteArray := prog_3_method_6_code
abbrev y_E_expand : MethodName := ⟨"WalkRanks$Equations", "expand", "([[JIII)J"⟩
abbrev c_W_fraction : ByteArray := prog_1_method_28_code
abbrev y_W_fraction : MethodName := ⟨"WalkRanks", "fraction", "(JJI)J"⟩
abbrev c_W_place : ByteArray := prog_1_method_13_code
abbrev y_W_place : MethodName := ⟨"WalkRanks", "place", "(I)I"⟩
abbrev c_W_nodesAhead : ByteArray := prog_1_method_26_code
abbrev y_W_nodesAhead : MethodName := ⟨"WalkRanks", "nodesAhead", "(I)I"⟩
abbrev c_W_reach : ByteArray := prog_1_method_14_code
abbrev y_W_reach : MethodName := ⟨"WalkRanks", "reach", "(III)J"⟩
abbrev c_W_chanceToCome : ByteArray := prog_1_method_27_code
abbrev y_W_chanceToCome : MethodName := ⟨"WalkRanks", "chanceToCome", "(III)J"⟩
abbrev c_E_putChances : ByteArray := prog_3_method_3_code
abbrev y_E_putChances : MethodName := ⟨"WalkRanks$Equations", "putChances", "(LWalkRanks$Steps;III)V"⟩
abbrev c_W_hit : ByteArray := prog_1_method_15_code
abbrev y_W_hit : MethodName := ⟨"WalkRanks", "hit", "(III)J"⟩
abbrev c_E_putStepCounts : ByteArray := prog_3_method_4_code
abbrev y_E_putStepCounts : MethodName := ⟨"WalkRanks$Equations", "putStepCounts", "(LWalkRanks$Steps;II)V"⟩
abbrev c_W_back : ByteArray := prog_1_method_16_code
abbrev y_W_back : MethodName := ⟨"WalkRanks", "back", "(II)J"⟩
abbrev c_W_end : ByteArray := prog_1_method_17_code
abbrev y_W_end : MethodName := ⟨"WalkRanks", "end", "(III)J"⟩
abbrev c_W_after : ByteArray := prog_1_method_18_code
abbrev y_W_after : MethodName := ⟨"WalkRanks", "after", "(IIII)J"⟩
abbrev c_S_commonTotal : ByteArray := prog_6_method_6_code
abbrev y_S_commonTotal : MethodName := ⟨"WalkRanks$Steps", "commonTotal", "()J"⟩
abbrev c_P_fillBySteps : ByteArray := prog_5_method_3_code
abbrev y_P_fillBySteps : MethodName := ⟨"WalkRanks$Spread", "fillBySteps", "(LWalkRanks$Steps;J)V"⟩
abbrev c_P_run : ByteArray := prog_5_method_4_code
abbrev y_P_run : MethodName := ⟨"WalkRanks$Spread", "run", "(II)V"⟩
abbrev c_P_move : ByteArray := prog_5_method_6_code
abbrev y_P_move : MethodName := ⟨"WalkRanks$Spread", "move", "()V"⟩
abbrev c_P_numberAt : ByteArray := prog_5_method_5_code
abbrev y_P_numberAt : MethodName := ⟨"WalkRanks$Spread", "numberAt", "(I)J"⟩
abbrev c_W_walks : ByteArray := prog_1_method_19_code
abbrev y_W_walks : MethodName := ⟨"WalkRanks", "walks", "(III)J"⟩
abbrev c_P_fillByWeights : ByteArray := prog_5_method_2_code
abbrev y_P_fillByWeights : MethodName := ⟨"WalkRanks$Spread", "fillByWeights", "(LWalkRanks$Graph;)V"⟩
abbrev c_W_drawn : ByteArray := prog_1_method_20_code
abbrev y_W_drawn : MethodName := ⟨"WalkRanks", "drawn", "(III)I"⟩
abbrev c_S_nextNode : ByteArray := prog_6_method_10_code
abbrev y_S_nextNode : MethodName := ⟨"WalkRanks$Steps", "nextNode", "(II)I"⟩
abbrev c_M_init : ByteArray := prog_8_method_1_code
abbrev y_M_init : MethodName := ⟨"WalkRanksModel", "<init>", "()V"⟩
abbrev c_M_node : ByteArray := prog_8_method_3_code
abbrev y_M_node : MethodName := ⟨"WalkRanksModel", "node", "()I"⟩
abbrev c_M_weight : ByteArray := prog_8_method_4_code
abbrev y_M_weight : MethodName := ⟨"WalkRanksModel", "weight", "(III)I"⟩
abbrev c_M_isNode : ByteArray := prog_8_method_2_code
abbrev y_M_isNode : MethodName := ⟨"WalkRanksModel", "isNode", "(I)Z"⟩
abbrev c_M_jump : ByteArray := prog_8_method_5_code
abbrev y_M_jump : MethodName := ⟨"WalkRanksModel", "jump", "(II)I"⟩
abbrev c_M_keep : ByteArray := prog_8_method_6_code
abbrev y_M_keep : MethodName := ⟨"WalkRanksModel", "keep", "(II)I"⟩
abbrev c_M_clear : ByteArray := prog_8_method_7_code
abbrev y_M_clear : MethodName := ⟨"WalkRanksModel", "clear", "()I"⟩
abbrev c_M_row : ByteArray := prog_8_method_11_code
abbrev y_M_row : MethodName := ⟨"WalkRanksModel", "row", "(II)I"⟩
abbrev c_M_findRows : ByteArray := prog_8_method_10_code
abbrev y_M_findRows : MethodName := ⟨"WalkRanksModel", "findRows", "()V"⟩
abbrev c_M_common : ByteArray := prog_8_method_8_code
abbrev y_M_common : MethodName := ⟨"WalkRanksModel", "common", "(JJ)J"⟩
abbrev c_M_total : ByteArray := prog_8_method_12_code
abbrev y_M_total : MethodName := ⟨"WalkRanksModel", "total", "(I)I"⟩
abbrev c_M_closed : ByteArray := prog_8_method_17_code
abbrev y_M_closed : MethodName := ⟨"WalkRanksModel", "closed", "()I"⟩
abbrev c_M_findSets : ByteArray := prog_8_method_16_code
abbrev y_M_findSets : MethodName := ⟨"WalkRanksModel", "findSets", "()V"⟩
abbrev c_M_isClosed : ByteArray := prog_8_method_15_code
abbrev y_M_isClosed : MethodName := ⟨"WalkRanksModel", "isClosed", "(I)Z"⟩
abbrev c_M_reached : ByteArray := prog_8_method_13_code
abbrev y_M_reached : MethodName := ⟨"WalkRanksModel", "reached", "(II)I"⟩
abbrev c_M_leads : ByteArray := prog_8_method_14_code
abbrev y_M_leads : MethodName := ⟨"WalkRanksModel", "leads", "(II)Z"⟩
abbrev c_M_closedOf : ByteArray := prog_8_method_18_code
abbrev y_M_closedOf : MethodName := ⟨"WalkRanksModel", "closedOf", "(I)I"⟩
abbrev c_M_period : ByteArray := prog_8_method_19_code
abbrev y_M_period : MethodName := ⟨"WalkRanksModel", "period", "(I)I"⟩
abbrev c_M_rank : ByteArray := prog_8_method_25_code
abbrev y_M_rank : MethodName := ⟨"WalkRanksModel", "rank", "(II)J"⟩
abbrev c_M_isPart : ByteArray := prog_8_method_24_code
abbrev y_M_isPart : MethodName := ⟨"WalkRanksModel", "isPart", "(I)Z"⟩
abbrev c_M_findShares : ByteArray := prog_8_method_23_code
abbrev y_M_findShares : MethodName := ⟨"WalkRanksModel", "findShares", "(I)V"⟩
abbrev c_M_count : ByteArray := prog_8_method_21_code
abbrev y_M_count : MethodName := ⟨"WalkRanksModel", "count", "(IIII)V"⟩
abbrev c_M_rootOf : ByteArray := prog_8_method_20_code
abbrev y_M_rootOf : MethodName := ⟨"WalkRanksModel", "rootOf", "(II)I"⟩
abbrev c_M_lowest : ByteArray := prog_8_method_9_code
abbrev y_M_lowest : MethodName := ⟨"WalkRanksModel", "lowest", "(JJI)J"⟩
abbrev c_M_place : ByteArray := prog_8_method_26_code
abbrev y_M_place : MethodName := ⟨"WalkRanksModel", "place", "(I)I"⟩
abbrev c_M_reach : ByteArray := prog_8_method_27_code
abbrev y_M_reach : MethodName := ⟨"WalkRanksModel", "reach", "(III)J"⟩
abbrev c_M_all : ByteArray := prog_8_method_22_code
abbrev y_M_all : MethodName := ⟨"WalkRanksModel", "all", "()I"⟩
abbrev c_M_hit : ByteArray := prog_8_method_28_code
abbrev y_M_hit : MethodName := ⟨"WalkRanksModel", "hit", "(III)J"⟩
abbrev c_M_back : ByteArray := prog_8_method_29_code
abbrev y_M_back : MethodName := ⟨"WalkRanksModel", "back", "(II)J"⟩
abbrev c_M_end : ByteArray := prog_8_method_30_code
abbrev y_M_end : MethodName := ⟨"WalkRanksModel", "end", "(III)J"⟩
abbrev c_M_after : ByteArray := prog_8_method_31_code
abbrev y_M_after : MethodName := ⟨"WalkRanksModel", "after", "(IIII)J"⟩
abbrev c_M_walks : ByteArray := prog_8_method_32_code
abbrev y_M_walks : MethodName := ⟨"WalkRanksModel", "walks", "(III)J"⟩
abbrev c_M_drawn : ByteArray := prog_8_method_33_code
abbrev y_M_drawn : MethodName := ⟨"WalkRanksModel", "drawn", "(III)I"⟩
abbrev c_L_law : ByteArray := code
abbrev y_L_law : MethodName := ⟨"WalkRanksLaw", "law", "([I)Z"⟩
