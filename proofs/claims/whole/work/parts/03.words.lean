-- facts on the words of the tables, by their places
set_option maxRecDepth 100000 in
theorem k_0 : (Jvm.Cond.initialized "WalkRanksLaw") ∈ aw_WS := aw_in (List.mem_of_getElem? (i := 23) rfl) rfl
set_option maxRecDepth 100000 in
theorem k_1 : (Jvm.Cond.initialized "WalkRanks") ∈ aw_WS := aw_in (List.mem_of_getElem? (i := 24) rfl) rfl
set_option maxRecDepth 100000 in
theorem k_2 : (Jvm.Cond.initialized "WalkRanks$Graph") ∈ aw_WS := aw_in (List.mem_of_getElem? (i := 25) rfl) rfl
set_option maxRecDepth 100000 in
theorem k_3 : (Jvm.Cond.initialized "WalkRanks$Steps") ∈ aw_WS := aw_in (List.mem_of_getElem? (i := 26) rfl) rfl
set_option maxRecDepth 100000 in
theorem k_4 : (Jvm.Cond.initialized "WalkRanks$ClosedSets") ∈ aw_WS := aw_in (List.mem_of_getElem? (i := 27) rfl) rfl
set_option maxRecDepth 100000 in
theorem k_5 : (Jvm.Cond.initialized "WalkRanks$Equations") ∈ aw_WS := aw_in (List.mem_of_getElem? (i := 28) rfl) rfl
set_option maxRecDepth 100000 in
theorem k_6 : (Jvm.Cond.initialized "WalkRanks$Spread") ∈ aw_WS := aw_in (List.mem_of_getElem? (i := 29) rfl) rfl
set_option maxRecDepth 100000 in
theorem k_7 : (Jvm.Cond.initialized "WalkRanksModel") ∈ aw_WS := aw_in (List.mem_of_getElem? (i := 30) rfl) rfl
set_option maxRecDepth 100000 in
theorem k_8 : (Jvm.Cond.classLink "WalkRanksLaw" (7 : Nat) "WalkRanks") ∈ aw_WS := aw_in (List.mem_of_getElem? (i := 31) rfl) rfl
set_option maxRecDepth 100000 in
theorem k_9 : (Jvm.Cond.instantiable "WalkRanks" (6 : Nat)) ∈ aw_WS := aw_in (List.mem_of_getElem? (i := 32) rfl) rfl
set_option maxRecDepth 100000 in
theorem k_10 : (Jvm.Cond.methodLink "WalkRanksLaw" (9 : Nat) ({ cls := "WalkRanks", name := "<init>", desc := "()V" } : Jvm.MethodName)) ∈ aw_WS := aw_in (List.mem_of_getElem? (i := 33) rfl) rfl
set_option maxRecDepth 100000 in
theorem k_11 : (Jvm.Cond.instanceMethod ({ cls := "WalkRanks", name := "<init>", desc := "()V" } : Jvm.MethodName)) ∈ aw_WS := aw_in (List.mem_of_getElem? (i := 34) rfl) rfl
set_option maxRecDepth 100000 in
theorem k_12 : (Jvm.Cond.code ({ cls := "WalkRanks", name := "<init>", desc := "()V" } : Jvm.MethodName) prog_1_method_1_code (1 : Nat) (Option.none : Option Jvm.ClassFile.FieldType)) ∈ aw_WS := aw_in (List.mem_of_getElem? (i := 35) rfl) rfl
set_option maxRecDepth 100000 in
theorem k_13 : (Jvm.Cond.methodLink "WalkRanks" (1 : Nat) ({ cls := "java/lang/Object", name := "<init>", desc := "()V" } : Jvm.MethodName)) ∈ aw_WS := aw_in (List.mem_of_getElem? (i := 36) rfl) rfl
set_option maxRecDepth 100000 in
theorem k_14 : (Jvm.Cond.instanceMethod ({ cls := "java/lang/Object", name := "<init>", desc := "()V" } : Jvm.MethodName)) ∈ aw_WS := aw_in (List.mem_of_getElem? (i := 37) rfl) rfl
set_option maxRecDepth 100000 in
theorem k_15 : (Jvm.Cond.code ({ cls := "java/lang/Object", name := "<init>", desc := "()V" } : Jvm.MethodName) object_method_1_code (1 : Nat) (Option.none : Option Jvm.ClassFile.FieldType)) ∈ aw_WS := aw_in (List.mem_of_getElem? (i := 38) rfl) rfl
set_option maxRecDepth 100000 in
theorem k_16 : (Jvm.Cond.classLink "WalkRanks" (7 : Nat) "WalkRanks$Graph") ∈ aw_WS := aw_in (List.mem_of_getElem? (i := 39) rfl) rfl
set_option maxRecDepth 100000 in
theorem k_17 : (Jvm.Cond.instantiable "WalkRanks$Graph" (5 : Nat)) ∈ aw_WS := aw_in (List.mem_of_getElem? (i := 40) rfl) rfl
set_option maxRecDepth 100000 in
theorem k_18 : (Jvm.Cond.methodLinkNest "WalkRanks" (9 : Nat) ({ cls := "WalkRanks$Graph", name := "<init>", desc := "()V" } : Jvm.MethodName) "WalkRanks") ∈ aw_NW := aw_inN (List.mem_of_getElem? (i := 41) rfl) rfl
set_option maxRecDepth 100000 in
theorem k_19 : (Jvm.Cond.instanceMethod ({ cls := "WalkRanks$Graph", name := "<init>", desc := "()V" } : Jvm.MethodName)) ∈ aw_WS := aw_in (List.mem_of_getElem? (i := 42) rfl) rfl
set_option maxRecDepth 100000 in
theorem k_20 : (Jvm.Cond.code ({ cls := "WalkRanks$Graph", name := "<init>", desc := "()V" } : Jvm.MethodName) prog_4_method_1_code (1 : Nat) (Option.none : Option Jvm.ClassFile.FieldType)) ∈ aw_WS := aw_in (List.mem_of_getElem? (i := 43) rfl) rfl
set_option maxRecDepth 100000 in
theorem k_21 : (Jvm.Cond.methodLink "WalkRanks$Graph" (3 : Nat) ({ cls := "java/lang/Object", name := "<init>", desc := "()V" } : Jvm.MethodName)) ∈ aw_WS := aw_in (List.mem_of_getElem? (i := 44) rfl) rfl
set_option maxRecDepth 100000 in
theorem k_22 : (Jvm.Cond.classLink "WalkRanks$Graph" (21 : Nat) "[[I") ∈ aw_WS := aw_in (List.mem_of_getElem? (i := 45) rfl) rfl
set_option maxRecDepth 100000 in
theorem k_24 : (Jvm.Cond.fieldLink "WalkRanks$Graph" (9 : Nat) "WalkRanks$Graph" "size" "I") ∈ aw_WS := aw_in (List.mem_of_getElem? (i := 47) rfl) rfl
set_option maxRecDepth 100000 in
theorem k_25 : (Jvm.Cond.fieldLink "WalkRanks$Steps" (27 : Nat) "WalkRanks$Graph" "size" "I") ∈ aw_WS := aw_in (List.mem_of_getElem? (i := 48) rfl) rfl
set_option maxRecDepth 100000 in
theorem k_26 : (Jvm.Cond.fieldLink "WalkRanks$Spread" (27 : Nat) "WalkRanks$Graph" "size" "I") ∈ aw_WS := aw_in (List.mem_of_getElem? (i := 49) rfl) rfl
set_option maxRecDepth 100000 in
theorem k_27 : (Jvm.Cond.fieldLink "WalkRanks" (48 : Nat) "WalkRanks$Graph" "size" "I") ∈ aw_WS := aw_in (List.mem_of_getElem? (i := 50) rfl) rfl
set_option maxRecDepth 100000 in
theorem k_28 : (Jvm.Cond.fieldLink "WalkRanks$Graph" (15 : Nat) "WalkRanks$Graph" "keepAbove" "I") ∈ aw_WS := aw_in (List.mem_of_getElem? (i := 51) rfl) rfl
set_option maxRecDepth 100000 in
theorem k_29 : (Jvm.Cond.fieldLink "WalkRanks$Steps" (49 : Nat) "WalkRanks$Graph" "keepAbove" "I") ∈ aw_WS := aw_in (List.mem_of_getElem? (i := 52) rfl) rfl
set_option maxRecDepth 100000 in
theorem k_30 : (Jvm.Cond.fieldLink "WalkRanks" (71 : Nat) "WalkRanks$Graph" "keepAbove" "I") ∈ aw_WS := aw_in (List.mem_of_getElem? (i := 53) rfl) rfl
set_option maxRecDepth 100000 in
theorem k_31 : (Jvm.Cond.fieldLink "WalkRanks$Graph" (18 : Nat) "WalkRanks$Graph" "keepBelow" "I") ∈ aw_WS := aw_in (List.mem_of_getElem? (i := 54) rfl) rfl
set_option maxRecDepth 100000 in
theorem k_32 : (Jvm.Cond.fieldLink "WalkRanks$Steps" (52 : Nat) "WalkRanks$Graph" "keepBelow" "I") ∈ aw_WS := aw_in (List.mem_of_getElem? (i := 55) rfl) rfl
set_option maxRecDepth 100000 in
theorem k_33 : (Jvm.Cond.fieldLink "WalkRanks" (74 : Nat) "WalkRanks$Graph" "keepBelow" "I") ∈ aw_WS := aw_in (List.mem_of_getElem? (i := 56) rfl) rfl
set_option maxRecDepth 100000 in
theorem k_34 : (Jvm.Cond.fieldLink "WalkRanks$Graph" (23 : Nat) "WalkRanks$Graph" "weights" "[[I") ∈ aw_WS := aw_in (List.mem_of_getElem? (i := 57) rfl) rfl
set_option maxRecDepth 100000 in
theorem k_35 : (Jvm.Cond.fieldLink "WalkRanks$Spread" (30 : Nat) "WalkRanks$Graph" "weights" "[[I") ∈ aw_WS := aw_in (List.mem_of_getElem? (i := 58) rfl) rfl
set_option maxRecDepth 100000 in
theorem k_36 : (Jvm.Cond.fieldLink "WalkRanks" (63 : Nat) "WalkRanks$Graph" "weights" "[[I") ∈ aw_WS := aw_in (List.mem_of_getElem? (i := 59) rfl) rfl
set_option maxRecDepth 100000 in
theorem k_37 : (Jvm.Cond.fieldLink "WalkRanks$Steps" (55 : Nat) "WalkRanks$Graph" "weights" "[[I") ∈ aw_WS := aw_in (List.mem_of_getElem? (i := 60) rfl) rfl
set_option maxRecDepth 100000 in
theorem k_38 : (Jvm.Cond.fieldLink "WalkRanks$Graph" (26 : Nat) "WalkRanks$Graph" "jumps" "[I") ∈ aw_WS := aw_in (List.mem_of_getElem? (i := 61) rfl) rfl
set_option maxRecDepth 100000 in
theorem k_39 : (Jvm.Cond.fieldLink "WalkRanks$Steps" (58 : Nat) "WalkRanks$Graph" "jumps" "[I") ∈ aw_WS := aw_in (List.mem_of_getElem? (i := 62) rfl) rfl
set_option maxRecDepth 100000 in
theorem k_40 : (Jvm.Cond.fieldLink "WalkRanks" (67 : Nat) "WalkRanks$Graph" "jumps" "[I") ∈ aw_WS := aw_in (List.mem_of_getElem? (i := 63) rfl) rfl
set_option maxRecDepth 100000 in
theorem k_41 : (Jvm.Cond.lays "WalkRanks$Graph" "WalkRanks$Graph" "size" "I") ∈ aw_WS := aw_in (List.mem_of_getElem? (i := 64) rfl) rfl
set_option maxRecDepth 100000 in
theorem k_42 : (Jvm.Cond.soleField "WalkRanks$Graph" "size") ∈ aw_WS := aw_in (List.mem_of_getElem? (i := 65) rfl) rfl
set_option maxRecDepth 100000 in
theorem k_43 : (Jvm.Cond.lays "WalkRanks$Graph" "WalkRanks$Graph" "keepAbove" "I") ∈ aw_WS := aw_in (List.mem_of_getElem? (i := 66) rfl) rfl
set_option maxRecDepth 100000 in
theorem k_44 : (Jvm.Cond.soleField "WalkRanks$Graph" "keepAbove") ∈ aw_WS := aw_in (List.mem_of_getElem? (i := 67) rfl) rfl
set_option maxRecDepth 100000 in
theorem k_45 : (Jvm.Cond.lays "WalkRanks$Graph" "WalkRanks$Graph" "keepBelow" "I") ∈ aw_WS := aw_in (List.mem_of_getElem? (i := 68) rfl) rfl
set_option maxRecDepth 100000 in
theorem k_46 : (Jvm.Cond.soleField "WalkRanks$Graph" "keepBelow") ∈ aw_WS := aw_in (List.mem_of_getElem? (i := 69) rfl) rfl
set_option maxRecDepth 100000 in
theorem k_47 : (Jvm.Cond.laysFinal "WalkRanks$Graph" "WalkRanks$Graph" "weights" "[[I") ∈ aw_WS := aw_in (List.mem_of_getElem? (i := 70) rfl) rfl
set_option maxRecDepth 100000 in
theorem k_48 : (Jvm.Cond.soleField "WalkRanks$Graph" "weights") ∈ aw_WS := aw_in (List.mem_of_getElem? (i := 71) rfl) rfl
set_option maxRecDepth 100000 in
theorem k_49 : (Jvm.Cond.laysFinal "WalkRanks$Graph" "WalkRanks$Graph" "jumps" "[I") ∈ aw_WS := aw_in (List.mem_of_getElem? (i := 72) rfl) rfl
set_option maxRecDepth 100000 in
theorem k_50 : (Jvm.Cond.soleField "WalkRanks$Graph" "jumps") ∈ aw_WS := aw_in (List.mem_of_getElem? (i := 73) rfl) rfl
set_option maxRecDepth 100000 in
theorem k_51 : (Jvm.Cond.superclass "WalkRanks$Graph" "java/lang/Object") ∈ aw_WS := aw_in (List.mem_of_getElem? (i := 74) rfl) rfl
set_option maxRecDepth 100000 in
theorem k_52 : (Jvm.Cond.arrayClass Jvm.ClassFile.FieldType.int) ∈ aw_WS := aw_in (List.mem_of_getElem? (i := 75) rfl) rfl
set_option maxRecDepth 100000 in
theorem k_53 : (Jvm.Cond.classLink "WalkRanks" (16 : Nat) "WalkRanks$Steps") ∈ aw_WS := aw_in (List.mem_of_getElem? (i := 76) rfl) rfl
set_option maxRecDepth 100000 in
theorem k_54 : (Jvm.Cond.instantiable "WalkRanks$Steps" (4 : Nat)) ∈ aw_WS := aw_in (List.mem_of_getElem? (i := 77) rfl) rfl
set_option maxRecDepth 100000 in
theorem k_55 : (Jvm.Cond.methodLinkNest "WalkRanks" (18 : Nat) ({ cls := "WalkRanks$Steps", name := "<init>", desc := "()V" } : Jvm.MethodName) "WalkRanks") ∈ aw_NW := aw_inN (List.mem_of_getElem? (i := 78) rfl) rfl
set_option maxRecDepth 100000 in
theorem k_56 : (Jvm.Cond.instanceMethod ({ cls := "WalkRanks$Steps", name := "<init>", desc := "()V" } : Jvm.MethodName)) ∈ aw_WS := aw_in (List.mem_of_getElem? (i := 79) rfl) rfl
set_option maxRecDepth 100000 in
theorem k_57 : (Jvm.Cond.code ({ cls := "WalkRanks$Steps", name := "<init>", desc := "()V" } : Jvm.MethodName) prog_6_method_1_code (1 : Nat) (Option.none : Option Jvm.ClassFile.FieldType)) ∈ aw_WS := aw_in (List.mem_of_getElem? (i := 80) rfl) rfl
set_option maxRecDepth 100000 in
theorem k_58 : (Jvm.Cond.methodLink "WalkRanks$Steps" (3 : Nat) ({ cls := "java/lang/Object", name := "<init>", desc := "()V" } : Jvm.MethodName)) ∈ aw_WS := aw_in (List.mem_of_getElem? (i := 81) rfl) rfl
set_option maxRecDepth 100000 in
theorem k_59 : (Jvm.Cond.classLink "WalkRanks$Steps" (15 : Nat) "[[I") ∈ aw_WS := aw_in (List.mem_of_getElem? (i := 82) rfl) rfl
set_option maxRecDepth 100000 in
theorem k_60 : (Jvm.Cond.fieldLink "WalkRanks$Steps" (9 : Nat) "WalkRanks$Steps" "size" "I") ∈ aw_WS := aw_in (List.mem_of_getElem? (i := 83) rfl) rfl
set_option maxRecDepth 100000 in
theorem k_61 : (Jvm.Cond.fieldLink "WalkRanks$ClosedSets" (31 : Nat) "WalkRanks$Steps" "size" "I") ∈ aw_WS := aw_in (List.mem_of_getElem? (i := 84) rfl) rfl
set_option maxRecDepth 100000 in
theorem k_62 : (Jvm.Cond.fieldLink "WalkRanks$Equations" (20 : Nat) "WalkRanks$Steps" "size" "I") ∈ aw_WS := aw_in (List.mem_of_getElem? (i := 85) rfl) rfl
set_option maxRecDepth 100000 in
theorem k_63 : (Jvm.Cond.fieldLink "WalkRanks$Spread" (34 : Nat) "WalkRanks$Steps" "size" "I") ∈ aw_WS := aw_in (List.mem_of_getElem? (i := 86) rfl) rfl
set_option maxRecDepth 100000 in
theorem k_64 : (Jvm.Cond.fieldLink "WalkRanks$Steps" (17 : Nat) "WalkRanks$Steps" "parts" "[[I") ∈ aw_WS := aw_in (List.mem_of_getElem? (i := 87) rfl) rfl
set_option maxRecDepth 100000 in
theorem k_65 : (Jvm.Cond.fieldLink "WalkRanks$Equations" (31 : Nat) "WalkRanks$Steps" "parts" "[[I") ∈ aw_WS := aw_in (List.mem_of_getElem? (i := 88) rfl) rfl
set_option maxRecDepth 100000 in
theorem k_66 : (Jvm.Cond.fieldLink "WalkRanks$Spread" (41 : Nat) "WalkRanks$Steps" "parts" "[[I") ∈ aw_WS := aw_in (List.mem_of_getElem? (i := 89) rfl) rfl
set_option maxRecDepth 100000 in
theorem k_67 : (Jvm.Cond.fieldLink "WalkRanks" (77 : Nat) "WalkRanks$Steps" "parts" "[[I") ∈ aw_WS := aw_in (List.mem_of_getElem? (i := 90) rfl) rfl
set_option maxRecDepth 100000 in
theorem k_68 : (Jvm.Cond.fieldLink "WalkRanks$Steps" (20 : Nat) "WalkRanks$Steps" "totals" "[I") ∈ aw_WS := aw_in (List.mem_of_getElem? (i := 91) rfl) rfl
set_option maxRecDepth 100000 in
theorem k_69 : (Jvm.Cond.fieldLink "WalkRanks$Equations" (27 : Nat) "WalkRanks$Steps" "totals" "[I") ∈ aw_WS := aw_in (List.mem_of_getElem? (i := 92) rfl) rfl
set_option maxRecDepth 100000 in
theorem k_70 : (Jvm.Cond.fieldLink "WalkRanks$Spread" (37 : Nat) "WalkRanks$Steps" "totals" "[I") ∈ aw_WS := aw_in (List.mem_of_getElem? (i := 93) rfl) rfl
set_option maxRecDepth 100000 in
theorem k_71 : (Jvm.Cond.fieldLink "WalkRanks" (80 : Nat) "WalkRanks$Steps" "totals" "[I") ∈ aw_WS := aw_in (List.mem_of_getElem? (i := 94) rfl) rfl
set_option maxRecDepth 100000 in
theorem k_72 : (Jvm.Cond.fieldLink "WalkRanks$Steps" (24 : Nat) "WalkRanks$Steps" "next" "[I") ∈ aw_WS := aw_in (List.mem_of_getElem? (i := 95) rfl) rfl
set_option maxRecDepth 100000 in
theorem k_73 : (Jvm.Cond.lays "WalkRanks$Steps" "WalkRanks$Steps" "size" "I") ∈ aw_WS := aw_in (List.mem_of_getElem? (i := 96) rfl) rfl
set_option maxRecDepth 100000 in
theorem k_74 : (Jvm.Cond.soleField "WalkRanks$Steps" "size") ∈ aw_WS := aw_in (List.mem_of_getElem? (i := 97) rfl) rfl
set_option maxRecDepth 100000 in
theorem k_75 : (Jvm.Cond.laysFinal "WalkRanks$Steps" "WalkRanks$Steps" "parts" "[[I") ∈ aw_WS := aw_in (List.mem_of_getElem? (i := 98) rfl) rfl
set_option maxRecDepth 100000 in
theorem k_76 : (Jvm.Cond.soleField "WalkRanks$Steps" "parts") ∈ aw_WS := aw_in (List.mem_of_getElem? (i := 99) rfl) rfl
set_option maxRecDepth 100000 in
theorem k_77 : (Jvm.Cond.laysFinal "WalkRanks$Steps" "WalkRanks$Steps" "totals" "[I") ∈ aw_WS := aw_in (List.mem_of_getElem? (i := 100) rfl) rfl
set_option maxRecDepth 100000 in
theorem k_78 : (Jvm.Cond.soleField "WalkRanks$Steps" "totals") ∈ aw_WS := aw_in (List.mem_of_getElem? (i := 101) rfl) rfl
set_option maxRecDepth 100000 in
theorem k_79 : (Jvm.Cond.laysFinal "WalkRanks$Steps" "WalkRanks$Steps" "next" "[I") ∈ aw_WS := aw_in (List.mem_of_getElem? (i := 102) rfl) rfl
set_option maxRecDepth 100000 in
theorem k_80 : (Jvm.Cond.soleField "WalkRanks$Steps" "next") ∈ aw_WS := aw_in (List.mem_of_getElem? (i := 103) rfl) rfl
set_option maxRecDepth 100000 in
theorem k_81 : (Jvm.Cond.superclass "WalkRanks$Steps" "java/lang/Object") ∈ aw_WS := aw_in (List.mem_of_getElem? (i := 104) rfl) rfl
set_option maxRecDepth 100000 in
theorem k_82 : (Jvm.Cond.classLink "WalkRanks" (23 : Nat) "WalkRanks$ClosedSets") ∈ aw_WS := aw_in (List.mem_of_getElem? (i := 105) rfl) rfl
set_option maxRecDepth 100000 in
theorem k_83 : (Jvm.Cond.instantiable "WalkRanks$ClosedSets" (6 : Nat)) ∈ aw_WS := aw_in (List.mem_of_getElem? (i := 106) rfl) rfl
set_option maxRecDepth 100000 in
theorem k_84 : (Jvm.Cond.methodLinkNest "WalkRanks" (25 : Nat) ({ cls := "WalkRanks$ClosedSets", name := "<init>", desc := "()V" } : Jvm.MethodName) "WalkRanks") ∈ aw_NW := aw_inN (List.mem_of_getElem? (i := 107) rfl) rfl
set_option maxRecDepth 100000 in
theorem k_85 : (Jvm.Cond.instanceMethod ({ cls := "WalkRanks$ClosedSets", name := "<init>", desc := "()V" } : Jvm.MethodName)) ∈ aw_WS := aw_in (List.mem_of_getElem? (i := 108) rfl) rfl
set_option maxRecDepth 100000 in
theorem k_86 : (Jvm.Cond.code ({ cls := "WalkRanks$ClosedSets", name := "<init>", desc := "()V" } : Jvm.MethodName) prog_2_method_1_code (1 : Nat) (Option.none : Option Jvm.ClassFile.FieldType)) ∈ aw_WS := aw_in (List.mem_of_getElem? (i := 109) rfl) rfl
set_option maxRecDepth 100000 in
theorem k_87 : (Jvm.Cond.methodLink "WalkRanks$ClosedSets" (3 : Nat) ({ cls := "java/lang/Object", name := "<init>", desc := "()V" } : Jvm.MethodName)) ∈ aw_WS := aw_in (List.mem_of_getElem? (i := 110) rfl) rfl
set_option maxRecDepth 100000 in
theorem k_88 : (Jvm.Cond.fieldLink "WalkRanks$ClosedSets" (9 : Nat) "WalkRanks$ClosedSets" "number" "I") ∈ aw_WS := aw_in (List.mem_of_getElem? (i := 111) rfl) rfl
set_option maxRecDepth 100000 in
theorem k_89 : (Jvm.Cond.fieldLink "WalkRanks" (83 : Nat) "WalkRanks$ClosedSets" "number" "I") ∈ aw_WS := aw_in (List.mem_of_getElem? (i := 112) rfl) rfl
set_option maxRecDepth 100000 in
theorem k_90 : (Jvm.Cond.fieldLink "WalkRanks$ClosedSets" (15 : Nat) "WalkRanks$ClosedSets" "members" "[I") ∈ aw_WS := aw_in (List.mem_of_getElem? (i := 113) rfl) rfl
set_option maxRecDepth 100000 in
theorem k_91 : (Jvm.Cond.fieldLink "WalkRanks" (108 : Nat) "WalkRanks$ClosedSets" "members" "[I") ∈ aw_WS := aw_in (List.mem_of_getElem? (i := 114) rfl) rfl
set_option maxRecDepth 100000 in
theorem k_92 : (Jvm.Cond.fieldLink "WalkRanks$ClosedSets" (19 : Nat) "WalkRanks$ClosedSets" "leastNodes" "[I") ∈ aw_WS := aw_in (List.mem_of_getElem? (i := 115) rfl) rfl
set_option maxRecDepth 100000 in
theorem k_93 : (Jvm.Cond.fieldLink "WalkRanks" (92 : Nat) "WalkRanks$ClosedSets" "leastNodes" "[I") ∈ aw_WS := aw_in (List.mem_of_getElem? (i := 116) rfl) rfl
set_option maxRecDepth 100000 in
theorem k_94 : (Jvm.Cond.fieldLink "WalkRanks$ClosedSets" (22 : Nat) "WalkRanks$ClosedSets" "setOf" "[I") ∈ aw_WS := aw_in (List.mem_of_getElem? (i := 117) rfl) rfl
set_option maxRecDepth 100000 in
theorem k_95 : (Jvm.Cond.fieldLink "WalkRanks" (86 : Nat) "WalkRanks$ClosedSets" "setOf" "[I") ∈ aw_WS := aw_in (List.mem_of_getElem? (i := 118) rfl) rfl
set_option maxRecDepth 100000 in
theorem k_96 : (Jvm.Cond.fieldLink "WalkRanks$ClosedSets" (25 : Nat) "WalkRanks$ClosedSets" "size" "I") ∈ aw_WS := aw_in (List.mem_of_getElem? (i := 119) rfl) rfl
set_option maxRecDepth 100000 in
theorem k_97 : (Jvm.Cond.fieldLink "WalkRanks$ClosedSets" (28 : Nat) "WalkRanks$ClosedSets" "leads" "[I") ∈ aw_WS := aw_in (List.mem_of_getElem? (i := 120) rfl) rfl
set_option maxRecDepth 100000 in
theorem k_98 : (Jvm.Cond.lays "WalkRanks$ClosedSets" "WalkRanks$ClosedSets" "number" "I") ∈ aw_WS := aw_in (List.mem_of_getElem? (i := 121) rfl) rfl
set_option maxRecDepth 100000 in
theorem k_99 : (Jvm.Cond.soleField "WalkRanks$ClosedSets" "number") ∈ aw_WS := aw_in (List.mem_of_getElem? (i := 122) rfl) rfl
set_option maxRecDepth 100000 in
theorem k_100 : (Jvm.Cond.laysFinal "WalkRanks$ClosedSets" "WalkRanks$ClosedSets" "members" "[I") ∈ aw_WS := aw_in (List.mem_of_getElem? (i := 123) rfl) rfl
set_option maxRecDepth 100000 in
theorem k_101 : (Jvm.Cond.soleField "WalkRanks$ClosedSets" "members") ∈ aw_WS := aw_in (List.mem_of_getElem? (i := 124) rfl) rfl
set_option maxRecDepth 100000 in
theorem k_102 : (Jvm.Cond.laysFinal "WalkRanks$ClosedSets" "WalkRanks$ClosedSets" "leastNodes" "[I") ∈ aw_WS := aw_in (List.mem_of_getElem? (i := 125) rfl) rfl
set_option maxRecDepth 100000 in
theorem k_103 : (Jvm.Cond.soleField "WalkRanks$ClosedSets" "leastNodes") ∈ aw_WS := aw_in (List.mem_of_getElem? (i := 126) rfl) rfl
set_option maxRecDepth 100000 in
theorem k_104 : (Jvm.Cond.laysFinal "WalkRanks$ClosedSets" "WalkRanks$ClosedSets" "setOf" "[I") ∈ aw_WS := aw_in (List.mem_of_getElem? (i := 127) rfl) rfl
set_option maxRecDepth 100000 in
theorem k_105 : (Jvm.Cond.soleField "WalkRanks$ClosedSets" "setOf") ∈ aw_WS := aw_in (List.mem_of_getElem? (i := 128) rfl) rfl
set_option maxRecDepth 100000 in
theorem k_106 : (Jvm.Cond.lays "WalkRanks$ClosedSets" "WalkRanks$ClosedSets" "size" "I") ∈ aw_WS := aw_in (List.mem_of_getElem? (i := 129) rfl) rfl
set_option maxRecDepth 100000 in
theorem k_107 : (Jvm.Cond.soleField "WalkRanks$ClosedSets" "size") ∈ aw_WS := aw_in (List.mem_of_getElem? (i := 130) rfl) rfl
set_option maxRecDepth 100000 in
theorem k_108 : (Jvm.Cond.laysFinal "WalkRanks$ClosedSets" "WalkRanks$ClosedSets" "leads" "[I") ∈ aw_WS := aw_in (List.mem_of_getElem? (i := 131) rfl) rfl
set_option maxRecDepth 100000 in
theorem k_109 : (Jvm.Cond.soleField "WalkRanks$ClosedSets" "leads") ∈ aw_WS := aw_in (List.mem_of_getElem? (i := 132) rfl) rfl
set_option maxRecDepth 100000 in
theorem k_110 : (Jvm.Cond.superclass "WalkRanks$ClosedSets" "java/lang/Object") ∈ aw_WS := aw_in (List.mem_of_getElem? (i := 133) rfl) rfl
set_option maxRecDepth 100000 in
theorem k_111 : (Jvm.Cond.classLink "WalkRanks" (30 : Nat) "WalkRanks$Equations") ∈ aw_WS := aw_in (List.mem_of_getElem? (i := 134) rfl) rfl
set_option maxRecDepth 100000 in
theorem k_112 : (Jvm.Cond.instantiable "WalkRanks$Equations" (2 : Nat)) ∈ aw_WS := aw_in (List.mem_of_getElem? (i := 135) rfl) rfl
set_option maxRecDepth 100000 in
theorem k_113 : (Jvm.Cond.methodLinkNest "WalkRanks" (32 : Nat) ({ cls := "WalkRanks$Equations", name := "<init>", desc := "()V" } : Jvm.MethodName) "WalkRanks") ∈ aw_NW := aw_inN (List.mem_of_getElem? (i := 136) rfl) rfl
set_option maxRecDepth 100000 in
theorem k_114 : (Jvm.Cond.instanceMethod ({ cls := "WalkRanks$Equations", name := "<init>", desc := "()V" } : Jvm.MethodName)) ∈ aw_WS := aw_in (List.mem_of_getElem? (i := 137) rfl) rfl
set_option maxRecDepth 100000 in
theorem k_115 : (Jvm.Cond.code ({ cls := "WalkRanks$Equations", name := "<init>", desc := "()V" } : Jvm.MethodName) prog_3_method_1_code (1 : Nat) (Option.none : Option Jvm.ClassFile.FieldType)) ∈ aw_WS := aw_in (List.mem_of_getElem? (i := 138) rfl) rfl
set_option maxRecDepth 100000 in
theorem k_116 : (Jvm.Cond.methodLink "WalkRanks$Equations" (3 : Nat) ({ cls := "java/lang/Object", name := "<init>", desc := "()V" } : Jvm.MethodName)) ∈ aw_WS := aw_in (List.mem_of_getElem? (i := 139) rfl) rfl
set_option maxRecDepth 100000 in
theorem k_117 : (Jvm.Cond.classLink "WalkRanks$Equations" (15 : Nat) "[[J") ∈ aw_WS := aw_in (List.mem_of_getElem? (i := 140) rfl) rfl
set_option maxRecDepth 100000 in
theorem k_119 : (Jvm.Cond.fieldLink "WalkRanks$Equations" (9 : Nat) "WalkRanks$Equations" "size" "I") ∈ aw_WS := aw_in (List.mem_of_getElem? (i := 142) rfl) rfl
set_option maxRecDepth 100000 in
theorem k_120 : (Jvm.Cond.fieldLink "WalkRanks$Equations" (17 : Nat) "WalkRanks$Equations" "cells" "[[J") ∈ aw_WS := aw_in (List.mem_of_getElem? (i := 143) rfl) rfl
set_option maxRecDepth 100000 in
theorem k_121 : (Jvm.Cond.lays "WalkRanks$Equations" "WalkRanks$Equations" "size" "I") ∈ aw_WS := aw_in (List.mem_of_getElem? (i := 144) rfl) rfl
set_option maxRecDepth 100000 in
theorem k_122 : (Jvm.Cond.soleField "WalkRanks$Equations" "size") ∈ aw_WS := aw_in (List.mem_of_getElem? (i := 145) rfl) rfl
set_option maxRecDepth 100000 in
theorem k_123 : (Jvm.Cond.laysFinal "WalkRanks$Equations" "WalkRanks$Equations" "cells" "[[J") ∈ aw_WS := aw_in (List.mem_of_getElem? (i := 146) rfl) rfl
set_option maxRecDepth 100000 in
theorem k_124 : (Jvm.Cond.soleField "WalkRanks$Equations" "cells") ∈ aw_WS := aw_in (List.mem_of_getElem? (i := 147) rfl) rfl
set_option maxRecDepth 100000 in
theorem k_125 : (Jvm.Cond.superclass "WalkRanks$Equations" "java/lang/Object") ∈ aw_WS := aw_in (List.mem_of_getElem? (i := 148) rfl) rfl
set_option maxRecDepth 100000 in
theorem k_126 : (Jvm.Cond.arrayClass Jvm.ClassFile.FieldType.long) ∈ aw_WS := aw_in (List.mem_of_getElem? (i := 149) rfl) rfl
set_option maxRecDepth 100000 in
theorem k_127 : (Jvm.Cond.classLink "WalkRanks" (37 : Nat) "WalkRanks$Spread") ∈ aw_WS := aw_in (List.mem_of_getElem? (i := 150) rfl) rfl
set_option maxRecDepth 100000 in
theorem k_128 : (Jvm.Cond.instantiable "WalkRanks$Spread" (4 : Nat)) ∈ aw_WS := aw_in (List.mem_of_getElem? (i := 151) rfl) rfl
set_option maxRecDepth 100000 in
theorem k_129 : (Jvm.Cond.methodLinkNest "WalkRanks" (39 : Nat) ({ cls := "WalkRanks$Spread", name := "<init>", desc := "()V" } : Jvm.MethodName) "WalkRanks") ∈ aw_NW := aw_inN (List.mem_of_getElem? (i := 152) rfl) rfl
set_option maxRecDepth 100000 in
theorem k_130 : (Jvm.Cond.instanceMethod ({ cls := "WalkRanks$Spread", name := "<init>", desc := "()V" } : Jvm.MethodName)) ∈ aw_WS := aw_in (List.mem_of_getElem? (i := 153) rfl) rfl
set_option maxRecDepth 100000 in
theorem k_131 : (Jvm.Cond.code ({ cls := "WalkRanks$Spread", name := "<init>", desc := "()V" } : Jvm.MethodName) prog_5_method_1_code (1 : Nat) (Option.none : Option Jvm.ClassFile.FieldType)) ∈ aw_WS := aw_in (List.mem_of_getElem? (i := 154) rfl) rfl
set_option maxRecDepth 100000 in
theorem k_132 : (Jvm.Cond.methodLink "WalkRanks$Spread" (3 : Nat) ({ cls := "java/lang/Object", name := "<init>", desc := "()V" } : Jvm.MethodName)) ∈ aw_WS := aw_in (List.mem_of_getElem? (i := 155) rfl) rfl
set_option maxRecDepth 100000 in
theorem k_133 : (Jvm.Cond.classLink "WalkRanks$Spread" (22 : Nat) "[[J") ∈ aw_WS := aw_in (List.mem_of_getElem? (i := 156) rfl) rfl
set_option maxRecDepth 100000 in
theorem k_134 : (Jvm.Cond.fieldLink "WalkRanks$Spread" (9 : Nat) "WalkRanks$Spread" "now" "[J") ∈ aw_WS := aw_in (List.mem_of_getElem? (i := 157) rfl) rfl
set_option maxRecDepth 100000 in
theorem k_135 : (Jvm.Cond.fieldLink "WalkRanks$Spread" (15 : Nat) "WalkRanks$Spread" "next" "[J") ∈ aw_WS := aw_in (List.mem_of_getElem? (i := 158) rfl) rfl
set_option maxRecDepth 100000 in
theorem k_136 : (Jvm.Cond.fieldLink "WalkRanks$Spread" (18 : Nat) "WalkRanks$Spread" "size" "I") ∈ aw_WS := aw_in (List.mem_of_getElem? (i := 159) rfl) rfl
set_option maxRecDepth 100000 in
theorem k_137 : (Jvm.Cond.fieldLink "WalkRanks$Spread" (24 : Nat) "WalkRanks$Spread" "factors" "[[J") ∈ aw_WS := aw_in (List.mem_of_getElem? (i := 160) rfl) rfl
set_option maxRecDepth 100000 in
theorem k_138 : (Jvm.Cond.lays "WalkRanks$Spread" "WalkRanks$Spread" "now" "[J") ∈ aw_WS := aw_in (List.mem_of_getElem? (i := 161) rfl) rfl
set_option maxRecDepth 100000 in
theorem k_139 : (Jvm.Cond.soleField "WalkRanks$Spread" "now") ∈ aw_WS := aw_in (List.mem_of_getElem? (i := 162) rfl) rfl
set_option maxRecDepth 100000 in
theorem k_140 : (Jvm.Cond.lays "WalkRanks$Spread" "WalkRanks$Spread" "next" "[J") ∈ aw_WS := aw_in (List.mem_of_getElem? (i := 163) rfl) rfl
set_option maxRecDepth 100000 in
theorem k_141 : (Jvm.Cond.soleField "WalkRanks$Spread" "next") ∈ aw_WS := aw_in (List.mem_of_getElem? (i := 164) rfl) rfl
set_option maxRecDepth 100000 in
theorem k_142 : (Jvm.Cond.lays "WalkRanks$Spread" "WalkRanks$Spread" "size" "I") ∈ aw_WS := aw_in (List.mem_of_getElem? (i := 165) rfl) rfl
set_option maxRecDepth 100000 in
theorem k_143 : (Jvm.Cond.soleField "WalkRanks$Spread" "size") ∈ aw_WS := aw_in (List.mem_of_getElem? (i := 166) rfl) rfl
set_option maxRecDepth 100000 in
theorem k_144 : (Jvm.Cond.laysFinal "WalkRanks$Spread" "WalkRanks$Spread" "factors" "[[J") ∈ aw_WS := aw_in (List.mem_of_getElem? (i := 167) rfl) rfl
set_option maxRecDepth 100000 in
theorem k_145 : (Jvm.Cond.soleField "WalkRanks$Spread" "factors") ∈ aw_WS := aw_in (List.mem_of_getElem? (i := 168) rfl) rfl
set_option maxRecDepth 100000 in
theorem k_146 : (Jvm.Cond.superclass "WalkRanks$Spread" "java/lang/Object") ∈ aw_WS := aw_in (List.mem_of_getElem? (i := 169) rfl) rfl
set_option maxRecDepth 100000 in
theorem k_147 : (Jvm.Cond.fieldLink "WalkRanks" (10 : Nat) "WalkRanks" "graph" "LWalkRanks$Graph;") ∈ aw_WS := aw_in (List.mem_of_getElem? (i := 170) rfl) rfl
set_option maxRecDepth 100000 in
theorem k_148 : (Jvm.Cond.fieldLink "WalkRanks" (19 : Nat) "WalkRanks" "steps" "LWalkRanks$Steps;") ∈ aw_WS := aw_in (List.mem_of_getElem? (i := 171) rfl) rfl
set_option maxRecDepth 100000 in
theorem k_149 : (Jvm.Cond.fieldLink "WalkRanks" (26 : Nat) "WalkRanks" "sets" "LWalkRanks$ClosedSets;") ∈ aw_WS := aw_in (List.mem_of_getElem? (i := 172) rfl) rfl
set_option maxRecDepth 100000 in
theorem k_150 : (Jvm.Cond.fieldLink "WalkRanks" (33 : Nat) "WalkRanks" "equations" "LWalkRanks$Equations;") ∈ aw_WS := aw_in (List.mem_of_getElem? (i := 173) rfl) rfl
set_option maxRecDepth 100000 in
theorem k_151 : (Jvm.Cond.fieldLink "WalkRanks" (40 : Nat) "WalkRanks" "spread" "LWalkRanks$Spread;") ∈ aw_WS := aw_in (List.mem_of_getElem? (i := 174) rfl) rfl
set_option maxRecDepth 100000 in
theorem k_152 : (Jvm.Cond.fieldLink "WalkRanks" (44 : Nat) "WalkRanks" "shares" "[J") ∈ aw_WS := aw_in (List.mem_of_getElem? (i := 175) rfl) rfl
set_option maxRecDepth 100000 in
theorem k_153 : (Jvm.Cond.laysFinal "WalkRanks" "WalkRanks" "graph" "LWalkRanks$Graph;") ∈ aw_WS := aw_in (List.mem_of_getElem? (i := 176) rfl) rfl
set_option maxRecDepth 100000 in
theorem k_154 : (Jvm.Cond.soleField "WalkRanks" "graph") ∈ aw_WS := aw_in (List.mem_of_getElem? (i := 177) rfl) rfl
set_option maxRecDepth 100000 in
theorem k_155 : (Jvm.Cond.laysFinal "WalkRanks" "WalkRanks" "steps" "LWalkRanks$Steps;") ∈ aw_WS := aw_in (List.mem_of_getElem? (i := 178) rfl) rfl
set_option maxRecDepth 100000 in
theorem k_156 : (Jvm.Cond.soleField "WalkRanks" "steps") ∈ aw_WS := aw_in (List.mem_of_getElem? (i := 179) rfl) rfl
set_option maxRecDepth 100000 in
theorem k_157 : (Jvm.Cond.laysFinal "WalkRanks" "WalkRanks" "sets" "LWalkRanks$ClosedSets;") ∈ aw_WS := aw_in (List.mem_of_getElem? (i := 180) rfl) rfl
set_option maxRecDepth 100000 in
theorem k_158 : (Jvm.Cond.soleField "WalkRanks" "sets") ∈ aw_WS := aw_in (List.mem_of_getElem? (i := 181) rfl) rfl
set_option maxRecDepth 100000 in
theorem k_159 : (Jvm.Cond.laysFinal "WalkRanks" "WalkRanks" "equations" "LWalkRanks$Equations;") ∈ aw_WS := aw_in (List.mem_of_getElem? (i := 182) rfl) rfl
set_option maxRecDepth 100000 in
theorem k_160 : (Jvm.Cond.soleField "WalkRanks" "equations") ∈ aw_WS := aw_in (List.mem_of_getElem? (i := 183) rfl) rfl
set_option maxRecDepth 100000 in
theorem k_161 : (Jvm.Cond.laysFinal "WalkRanks" "WalkRanks" "spread" "LWalkRanks$Spread;") ∈ aw_WS := aw_in (List.mem_of_getElem? (i := 184) rfl) rfl
set_option maxRecDepth 100000 in
theorem k_162 : (Jvm.Cond.soleField "WalkRanks" "spread") ∈ aw_WS := aw_in (List.mem_of_getElem? (i := 185) rfl) rfl
set_option maxRecDepth 100000 in
theorem k_163 : (Jvm.Cond.laysFinal "WalkRanks" "WalkRanks" "shares" "[J") ∈ aw_WS := aw_in (List.mem_of_getElem? (i := 186) rfl) rfl
set_option maxRecDepth 100000 in
theorem k_164 : (Jvm.Cond.soleField "WalkRanks" "shares") ∈ aw_WS := aw_in (List.mem_of_getElem? (i := 187) rfl) rfl
set_option maxRecDepth 100000 in
theorem k_165 : (Jvm.Cond.superclass "WalkRanks" "java/lang/Object") ∈ aw_WS := aw_in (List.mem_of_getElem? (i := 188) rfl) rfl
set_option maxRecDepth 100000 in
theorem k_166 : (Jvm.Cond.methodLink "WalkRanksLaw" (13 : Nat) ({ cls := "WalkRanks", name := "node", desc := "()I" } : Jvm.MethodName)) ∈ aw_WS := aw_in (List.mem_of_getElem? (i := 189) rfl) rfl
set_option maxRecDepth 100000 in
theorem k_167 : (Jvm.Cond.instanceMethod ({ cls := "WalkRanks", name := "node", desc := "()I" } : Jvm.MethodName)) ∈ aw_WS := aw_in (List.mem_of_getElem? (i := 190) rfl) rfl
set_option maxRecDepth 100000 in
theorem k_168 : (Jvm.Cond.selects "WalkRanks" ({ cls := "WalkRanks", name := "node", desc := "()I" } : Jvm.MethodName) ({ cls := "WalkRanks", name := "node", desc := "()I" } : Jvm.MethodName)) ∈ aw_WS := aw_in (List.mem_of_getElem? (i := 191) rfl) rfl
set_option maxRecDepth 100000 in
theorem k_169 : (Jvm.Cond.code ({ cls := "WalkRanks", name := "node", desc := "()I" } : Jvm.MethodName) prog_1_method_2_code (2 : Nat) (Option.some Jvm.ClassFile.FieldType.int)) ∈ aw_WS := aw_in (List.mem_of_getElem? (i := 192) rfl) rfl
set_option maxRecDepth 100000 in
theorem k_170 : (Jvm.Cond.methodLink "WalkRanks" (52 : Nat) ({ cls := "WalkRanks$Graph", name := "addNode", desc := "()I" } : Jvm.MethodName)) ∈ aw_WS := aw_in (List.mem_of_getElem? (i := 193) rfl) rfl
set_option maxRecDepth 100000 in
theorem k_171 : (Jvm.Cond.instanceMethod ({ cls := "WalkRanks$Graph", name := "addNode", desc := "()I" } : Jvm.MethodName)) ∈ aw_WS := aw_in (List.mem_of_getElem? (i := 194) rfl) rfl
set_option maxRecDepth 100000 in
theorem k_172 : (Jvm.Cond.selects "WalkRanks$Graph" ({ cls := "WalkRanks$Graph", name := "addNode", desc := "()I" } : Jvm.MethodName) ({ cls := "WalkRanks$Graph", name := "addNode", desc := "()I" } : Jvm.MethodName)) ∈ aw_WS := aw_in (List.mem_of_getElem? (i := 195) rfl) rfl
set_option maxRecDepth 100000 in
theorem k_173 : (Jvm.Cond.code ({ cls := "WalkRanks$Graph", name := "addNode", desc := "()I" } : Jvm.MethodName) prog_4_method_2_code (3 : Nat) (Option.some Jvm.ClassFile.FieldType.int)) ∈ aw_WS := aw_in (List.mem_of_getElem? (i := 196) rfl) rfl
set_option maxRecDepth 100000 in
theorem k_174 : (Jvm.Cond.methodLink "WalkRanks" (56 : Nat) ({ cls := "WalkRanks", name := "renew", desc := "()V" } : Jvm.MethodName)) ∈ aw_WS := aw_in (List.mem_of_getElem? (i := 197) rfl) rfl
set_option maxRecDepth 100000 in
theorem k_176 : (Jvm.Cond.instanceMethod ({ cls := "WalkRanks", name := "renew", desc := "()V" } : Jvm.MethodName)) ∈ aw_WS := aw_in (List.mem_of_getElem? (i := 199) rfl) rfl
set_option maxRecDepth 100000 in
theorem k_177 : (Jvm.Cond.code ({ cls := "WalkRanks", name := "renew", desc := "()V" } : Jvm.MethodName) prog_1_method_24_code (1 : Nat) (Option.none : Option Jvm.ClassFile.FieldType)) ∈ aw_WS := aw_in (List.mem_of_getElem? (i := 200) rfl) rfl
set_option maxRecDepth 100000 in
theorem k_178 : (Jvm.Cond.methodLink "WalkRanks" (171 : Nat) ({ cls := "WalkRanks$Steps", name := "renew", desc := "(LWalkRanks$Graph;)V" } : Jvm.MethodName)) ∈ aw_WS := aw_in (List.mem_of_getElem? (i := 201) rfl) rfl
set_option maxRecDepth 100000 in
theorem k_179 : (Jvm.Cond.instanceMethod ({ cls := "WalkRanks$Steps", name := "renew", desc := "(LWalkRanks$Graph;)V" } : Jvm.MethodName)) ∈ aw_WS := aw_in (List.mem_of_getElem? (i := 202) rfl) rfl
set_option maxRecDepth 100000 in
theorem k_180 : (Jvm.Cond.selects "WalkRanks$Steps" ({ cls := "WalkRanks$Steps", name := "renew", desc := "(LWalkRanks$Graph;)V" } : Jvm.MethodName) ({ cls := "WalkRanks$Steps", name := "renew", desc := "(LWalkRanks$Graph;)V" } : Jvm.MethodName)) ∈ aw_WS := aw_in (List.mem_of_getElem? (i := 203) rfl) rfl
set_option maxRecDepth 100000 in
theorem k_181 : (Jvm.Cond.code ({ cls := "WalkRanks$Steps", name := "renew", desc := "(LWalkRanks$Graph;)V" } : Jvm.MethodName) prog_6_method_2_code (4 : Nat) (Option.none : Option Jvm.ClassFile.FieldType)) ∈ aw_WS := aw_in (List.mem_of_getElem? (i := 204) rfl) rfl
set_option maxRecDepth 100000 in
theorem k_182 : (Jvm.Cond.methodLink "WalkRanks$Steps" (30 : Nat) ({ cls := "WalkRanks$Graph", name := "allJumps", desc := "()I" } : Jvm.MethodName)) ∈ aw_WS := aw_in (List.mem_of_getElem? (i := 205) rfl) rfl
set_option maxRecDepth 100000 in
theorem k_183 : (Jvm.Cond.instanceMethod ({ cls := "WalkRanks$Graph", name := "allJumps", desc := "()I" } : Jvm.MethodName)) ∈ aw_WS := aw_in (List.mem_of_getElem? (i := 206) rfl) rfl
set_option maxRecDepth 100000 in
theorem k_184 : (Jvm.Cond.selects "WalkRanks$Graph" ({ cls := "WalkRanks$Graph", name := "allJumps", desc := "()I" } : Jvm.MethodName) ({ cls := "WalkRanks$Graph", name := "allJumps", desc := "()I" } : Jvm.MethodName)) ∈ aw_WS := aw_in (List.mem_of_getElem? (i := 207) rfl) rfl
set_option maxRecDepth 100000 in
theorem k_185 : (Jvm.Cond.code ({ cls := "WalkRanks$Graph", name := "allJumps", desc := "()I" } : Jvm.MethodName) prog_4_method_4_code (3 : Nat) (Option.some Jvm.ClassFile.FieldType.int)) ∈ aw_WS := aw_in (List.mem_of_getElem? (i := 208) rfl) rfl
set_option maxRecDepth 100000 in
theorem k_186 : (Jvm.Cond.methodLink "WalkRanks$Steps" (34 : Nat) ({ cls := "WalkRanks$Steps", name := "fillParts", desc := "(LWalkRanks$Graph;II)V" } : Jvm.MethodName)) ∈ aw_WS := aw_in (List.mem_of_getElem? (i := 209) rfl) rfl
set_option maxRecDepth 100000 in
theorem k_188 : (Jvm.Cond.instanceMethod ({ cls := "WalkRanks$Steps", name := "fillParts", desc := "(LWalkRanks$Graph;II)V" } : Jvm.MethodName)) ∈ aw_WS := aw_in (List.mem_of_getElem? (i := 211) rfl) rfl
set_option maxRecDepth 100000 in
theorem k_189 : (Jvm.Cond.code ({ cls := "WalkRanks$Steps", name := "fillParts", desc := "(LWalkRanks$Graph;II)V" } : Jvm.MethodName) prog_6_method_3_code (8 : Nat) (Option.none : Option Jvm.ClassFile.FieldType)) ∈ aw_WS := aw_in (List.mem_of_getElem? (i := 212) rfl) rfl
set_option maxRecDepth 100000 in
theorem k_190 : (Jvm.Cond.methodLink "WalkRanks$Steps" (45 : Nat) ({ cls := "WalkRanks$Graph", name := "outOf", desc := "(I)I" } : Jvm.MethodName)) ∈ aw_WS := aw_in (List.mem_of_getElem? (i := 213) rfl) rfl
set_option maxRecDepth 100000 in
theorem k_191 : (Jvm.Cond.instanceMethod ({ cls := "WalkRanks$Graph", name := "outOf", desc := "(I)I" } : Jvm.MethodName)) ∈ aw_WS := aw_in (List.mem_of_getElem? (i := 214) rfl) rfl
set_option maxRecDepth 100000 in
theorem k_192 : (Jvm.Cond.selects "WalkRanks$Graph" ({ cls := "WalkRanks$Graph", name := "outOf", desc := "(I)I" } : Jvm.MethodName) ({ cls := "WalkRanks$Graph", name := "outOf", desc := "(I)I" } : Jvm.MethodName)) ∈ aw_WS := aw_in (List.mem_of_getElem? (i := 215) rfl) rfl
set_option maxRecDepth 100000 in
theorem k_193 : (Jvm.Cond.code ({ cls := "WalkRanks$Graph", name := "outOf", desc := "(I)I" } : Jvm.MethodName) prog_4_method_3_code (4 : Nat) (Option.some Jvm.ClassFile.FieldType.int)) ∈ aw_WS := aw_in (List.mem_of_getElem? (i := 216) rfl) rfl
set_option maxRecDepth 100000 in
theorem k_194 : (Jvm.Cond.methodLink "WalkRanks$Steps" (38 : Nat) ({ cls := "WalkRanks$Steps", name := "lowerParts", desc := "(I)V" } : Jvm.MethodName)) ∈ aw_WS := aw_in (List.mem_of_getElem? (i := 217) rfl) rfl
set_option maxRecDepth 100000 in
theorem k_196 : (Jvm.Cond.instanceMethod ({ cls := "WalkRanks$Steps", name := "lowerParts", desc := "(I)V" } : Jvm.MethodName)) ∈ aw_WS := aw_in (List.mem_of_getElem? (i := 219) rfl) rfl
set_option maxRecDepth 100000 in
theorem k_197 : (Jvm.Cond.code ({ cls := "WalkRanks$Steps", name := "lowerParts", desc := "(I)V" } : Jvm.MethodName) prog_6_method_4_code (4 : Nat) (Option.none : Option Jvm.ClassFile.FieldType)) ∈ aw_WS := aw_in (List.mem_of_getElem? (i := 220) rfl) rfl
set_option maxRecDepth 100000 in
theorem k_198 : (Jvm.Cond.methodLinkNest "WalkRanks$Steps" (61 : Nat) ({ cls := "WalkRanks", name := "greatestDivisor", desc := "(JJ)J" } : Jvm.MethodName) "WalkRanks") ∈ aw_NW := aw_inN (List.mem_of_getElem? (i := 221) rfl) rfl
set_option maxRecDepth 100000 in
theorem k_199 : (Jvm.Cond.static ({ cls := "WalkRanks", name := "greatestDivisor", desc := "(JJ)J" } : Jvm.MethodName)) ∈ aw_WS := aw_in (List.mem_of_getElem? (i := 222) rfl) rfl
set_option maxRecDepth 100000 in
theorem k_200 : (Jvm.Cond.code ({ cls := "WalkRanks", name := "greatestDivisor", desc := "(JJ)J" } : Jvm.MethodName) prog_1_method_29_code (11 : Nat) (Option.some Jvm.ClassFile.FieldType.long)) ∈ aw_WS := aw_in (List.mem_of_getElem? (i := 223) rfl) rfl
set_option maxRecDepth 100000 in
theorem k_201 : (Jvm.Cond.methodLink "WalkRanks$Steps" (42 : Nat) ({ cls := "WalkRanks$Steps", name := "sumUp", desc := "(I)V" } : Jvm.MethodName)) ∈ aw_WS := aw_in (List.mem_of_getElem? (i := 224) rfl) rfl
set_option maxRecDepth 100000 in
theorem k_203 : (Jvm.Cond.instanceMethod ({ cls := "WalkRanks$Steps", name := "sumUp", desc := "(I)V" } : Jvm.MethodName)) ∈ aw_WS := aw_in (List.mem_of_getElem? (i := 226) rfl) rfl
set_option maxRecDepth 100000 in
theorem k_204 : (Jvm.Cond.code ({ cls := "WalkRanks$Steps", name := "sumUp", desc := "(I)V" } : Jvm.MethodName) prog_6_method_5_code (3 : Nat) (Option.none : Option Jvm.ClassFile.FieldType)) ∈ aw_WS := aw_in (List.mem_of_getElem? (i := 227) rfl) rfl
set_option maxRecDepth 100000 in
theorem k_205 : (Jvm.Cond.methodLinkNest "WalkRanks$Steps" (65 : Nat) ({ cls := "WalkRanks", name := "only", desc := "(I)I" } : Jvm.MethodName) "WalkRanks") ∈ aw_NW := aw_inN (List.mem_of_getElem? (i := 228) rfl) rfl
set_option maxRecDepth 100000 in
theorem k_206 : (Jvm.Cond.static ({ cls := "WalkRanks", name := "only", desc := "(I)I" } : Jvm.MethodName)) ∈ aw_WS := aw_in (List.mem_of_getElem? (i := 229) rfl) rfl
set_option maxRecDepth 100000 in
theorem k_207 : (Jvm.Cond.code ({ cls := "WalkRanks", name := "only", desc := "(I)I" } : Jvm.MethodName) prog_1_method_30_code (1 : Nat) (Option.some Jvm.ClassFile.FieldType.int)) ∈ aw_WS := aw_in (List.mem_of_getElem? (i := 230) rfl) rfl
set_option maxRecDepth 100000 in
theorem k_208 : (Jvm.Cond.methodLink "WalkRanks" (173 : Nat) ({ cls := "WalkRanks$ClosedSets", name := "renew", desc := "(LWalkRanks$Steps;)V" } : Jvm.MethodName)) ∈ aw_WS := aw_in (List.mem_of_getElem? (i := 231) rfl) rfl
set_option maxRecDepth 100000 in
theorem k_209 : (Jvm.Cond.instanceMethod ({ cls := "WalkRanks$ClosedSets", name := "renew", desc := "(LWalkRanks$Steps;)V" } : Jvm.MethodName)) ∈ aw_WS := aw_in (List.mem_of_getElem? (i := 232) rfl) rfl
set_option maxRecDepth 100000 in
theorem k_210 : (Jvm.Cond.selects "WalkRanks$ClosedSets" ({ cls := "WalkRanks$ClosedSets", name := "renew", desc := "(LWalkRanks$Steps;)V" } : Jvm.MethodName) ({ cls := "WalkRanks$ClosedSets", name := "renew", desc := "(LWalkRanks$Steps;)V" } : Jvm.MethodName)) ∈ aw_WS := aw_in (List.mem_of_getElem? (i := 233) rfl) rfl
set_option maxRecDepth 100000 in
theorem k_211 : (Jvm.Cond.code ({ cls := "WalkRanks$ClosedSets", name := "renew", desc := "(LWalkRanks$Steps;)V" } : Jvm.MethodName) prog_2_method_2_code (3 : Nat) (Option.none : Option Jvm.ClassFile.FieldType)) ∈ aw_WS := aw_in (List.mem_of_getElem? (i := 234) rfl) rfl
set_option maxRecDepth 100000 in
theorem k_212 : (Jvm.Cond.methodLink "WalkRanks$ClosedSets" (34 : Nat) ({ cls := "WalkRanks$Steps", name := "nodesBehind", desc := "(II)I" } : Jvm.MethodName)) ∈ aw_WS := aw_in (List.mem_of_getElem? (i := 235) rfl) rfl
set_option maxRecDepth 100000 in
theorem k_213 : (Jvm.Cond.instanceMethod ({ cls := "WalkRanks$Steps", name := "nodesBehind", desc := "(II)I" } : Jvm.MethodName)) ∈ aw_WS := aw_in (List.mem_of_getElem? (i := 236) rfl) rfl
set_option maxRecDepth 100000 in
theorem k_214 : (Jvm.Cond.selects "WalkRanks$Steps" ({ cls := "WalkRanks$Steps", name := "nodesBehind", desc := "(II)I" } : Jvm.MethodName) ({ cls := "WalkRanks$Steps", name := "nodesBehind", desc := "(II)I" } : Jvm.MethodName)) ∈ aw_WS := aw_in (List.mem_of_getElem? (i := 237) rfl) rfl
set_option maxRecDepth 100000 in
theorem k_215 : (Jvm.Cond.code ({ cls := "WalkRanks$Steps", name := "nodesBehind", desc := "(II)I" } : Jvm.MethodName) prog_6_method_8_code (5 : Nat) (Option.some Jvm.ClassFile.FieldType.int)) ∈ aw_WS := aw_in (List.mem_of_getElem? (i := 238) rfl) rfl
set_option maxRecDepth 100000 in
theorem k_216 : (Jvm.Cond.methodLink "WalkRanks$Steps" (72 : Nat) ({ cls := "WalkRanks$Steps", name := "nextOf", desc := "(I)I" } : Jvm.MethodName)) ∈ aw_WS := aw_in (List.mem_of_getElem? (i := 239) rfl) rfl
set_option maxRecDepth 100000 in
theorem k_218 : (Jvm.Cond.instanceMethod ({ cls := "WalkRanks$Steps", name := "nextOf", desc := "(I)I" } : Jvm.MethodName)) ∈ aw_WS := aw_in (List.mem_of_getElem? (i := 241) rfl) rfl
set_option maxRecDepth 100000 in
theorem k_219 : (Jvm.Cond.code ({ cls := "WalkRanks$Steps", name := "nextOf", desc := "(I)I" } : Jvm.MethodName) prog_6_method_7_code (4 : Nat) (Option.some Jvm.ClassFile.FieldType.int)) ∈ aw_WS := aw_in (List.mem_of_getElem? (i := 242) rfl) rfl
set_option maxRecDepth 100000 in
theorem k_220 : (Jvm.Cond.methodLinkNest "WalkRanks$Steps" (68 : Nat) ({ cls := "WalkRanks", name := "has", desc := "(II)Z" } : Jvm.MethodName) "WalkRanks") ∈ aw_NW := aw_inN (List.mem_of_getElem? (i := 243) rfl) rfl
set_option maxRecDepth 100000 in
theorem k_221 : (Jvm.Cond.static ({ cls := "WalkRanks", name := "has", desc := "(II)Z" } : Jvm.MethodName)) ∈ aw_WS := aw_in (List.mem_of_getElem? (i := 244) rfl) rfl
set_option maxRecDepth 100000 in
theorem k_222 : (Jvm.Cond.code ({ cls := "WalkRanks", name := "has", desc := "(II)Z" } : Jvm.MethodName) prog_1_method_31_code (2 : Nat) (Option.some Jvm.ClassFile.FieldType.boolean)) ∈ aw_WS := aw_in (List.mem_of_getElem? (i := 245) rfl) rfl
set_option maxRecDepth 100000 in
theorem k_223 : (Jvm.Cond.methodLink "WalkRanks" (122 : Nat) ({ cls := "WalkRanks", name := "only", desc := "(I)I" } : Jvm.MethodName)) ∈ aw_WS := aw_in (List.mem_of_getElem? (i := 246) rfl) rfl
set_option maxRecDepth 100000 in
theorem k_224 : (Jvm.Cond.methodLink "WalkRanks$ClosedSets" (38 : Nat) ({ cls := "WalkRanks$ClosedSets", name := "isClosedFrom", desc := "(I)Z" } : Jvm.MethodName)) ∈ aw_WS := aw_in (List.mem_of_getElem? (i := 247) rfl) rfl
set_option maxRecDepth 100000 in
theorem k_226 : (Jvm.Cond.instanceMethod ({ cls := "WalkRanks$ClosedSets", name := "isClosedFrom", desc := "(I)Z" } : Jvm.MethodName)) ∈ aw_WS := aw_in (List.mem_of_getElem? (i := 249) rfl) rfl
set_option maxRecDepth 100000 in
theorem k_227 : (Jvm.Cond.code ({ cls := "WalkRanks$ClosedSets", name := "isClosedFrom", desc := "(I)Z" } : Jvm.MethodName) prog_2_method_3_code (2 : Nat) (Option.some Jvm.ClassFile.FieldType.boolean)) ∈ aw_WS := aw_in (List.mem_of_getElem? (i := 250) rfl) rfl
set_option maxRecDepth 100000 in
theorem k_228 : (Jvm.Cond.methodLinkNest "WalkRanks$ClosedSets" (46 : Nat) ({ cls := "WalkRanks", name := "only", desc := "(I)I" } : Jvm.MethodName) "WalkRanks") ∈ aw_NW := aw_inN (List.mem_of_getElem? (i := 251) rfl) rfl
set_option maxRecDepth 100000 in
theorem k_229 : (Jvm.Cond.methodLink "WalkRanks$ClosedSets" (50 : Nat) ({ cls := "WalkRanks$ClosedSets", name := "leadingTo", desc := "(I)I" } : Jvm.MethodName)) ∈ aw_WS := aw_in (List.mem_of_getElem? (i := 252) rfl) rfl
set_option maxRecDepth 100000 in
theorem k_230 : (Jvm.Cond.instanceMethod ({ cls := "WalkRanks$ClosedSets", name := "leadingTo", desc := "(I)I" } : Jvm.MethodName)) ∈ aw_WS := aw_in (List.mem_of_getElem? (i := 253) rfl) rfl
set_option maxRecDepth 100000 in
theorem k_231 : (Jvm.Cond.selects "WalkRanks$ClosedSets" ({ cls := "WalkRanks$ClosedSets", name := "leadingTo", desc := "(I)I" } : Jvm.MethodName) ({ cls := "WalkRanks$ClosedSets", name := "leadingTo", desc := "(I)I" } : Jvm.MethodName)) ∈ aw_WS := aw_in (List.mem_of_getElem? (i := 254) rfl) rfl
set_option maxRecDepth 100000 in
theorem k_232 : (Jvm.Cond.code ({ cls := "WalkRanks$ClosedSets", name := "leadingTo", desc := "(I)I" } : Jvm.MethodName) prog_2_method_5_code (4 : Nat) (Option.some Jvm.ClassFile.FieldType.int)) ∈ aw_WS := aw_in (List.mem_of_getElem? (i := 255) rfl) rfl
set_option maxRecDepth 100000 in
theorem k_233 : (Jvm.Cond.methodLink "WalkRanks$ClosedSets" (42 : Nat) ({ cls := "WalkRanks$ClosedSets", name := "addSet", desc := "(I)V" } : Jvm.MethodName)) ∈ aw_WS := aw_in (List.mem_of_getElem? (i := 256) rfl) rfl
set_option maxRecDepth 100000 in
theorem k_235 : (Jvm.Cond.instanceMethod ({ cls := "WalkRanks$ClosedSets", name := "addSet", desc := "(I)V" } : Jvm.MethodName)) ∈ aw_WS := aw_in (List.mem_of_getElem? (i := 258) rfl) rfl
set_option maxRecDepth 100000 in
theorem k_236 : (Jvm.Cond.code ({ cls := "WalkRanks$ClosedSets", name := "addSet", desc := "(I)V" } : Jvm.MethodName) prog_2_method_4_code (3 : Nat) (Option.none : Option Jvm.ClassFile.FieldType)) ∈ aw_WS := aw_in (List.mem_of_getElem? (i := 259) rfl) rfl
set_option maxRecDepth 100000 in
theorem k_237 : (Jvm.Cond.methodLinkNest "WalkRanks$ClosedSets" (53 : Nat) ({ cls := "WalkRanks", name := "has", desc := "(II)Z" } : Jvm.MethodName) "WalkRanks") ∈ aw_NW := aw_inN (List.mem_of_getElem? (i := 260) rfl) rfl
set_option maxRecDepth 100000 in
theorem k_238 : (Jvm.Cond.methodLink "WalkRanksLaw" (18 : Nat) ({ cls := "WalkRanks", name := "weight", desc := "(III)I" } : Jvm.MethodName)) ∈ aw_WS := aw_in (List.mem_of_getElem? (i := 261) rfl) rfl
set_option maxRecDepth 100000 in
theorem k_239 : (Jvm.Cond.instanceMethod ({ cls := "WalkRanks", name := "weight", desc := "(III)I" } : Jvm.MethodName)) ∈ aw_WS := aw_in (List.mem_of_getElem? (i := 262) rfl) rfl
set_option maxRecDepth 100000 in
theorem k_240 : (Jvm.Cond.selects "WalkRanks" ({ cls := "WalkRanks", name := "weight", desc := "(III)I" } : Jvm.MethodName) ({ cls := "WalkRanks", name := "weight", desc := "(III)I" } : Jvm.MethodName)) ∈ aw_WS := aw_in (List.mem_of_getElem? (i := 263) rfl) rfl
set_option maxRecDepth 100000 in
theorem k_241 : (Jvm.Cond.code ({ cls := "WalkRanks", name := "weight", desc := "(III)I" } : Jvm.MethodName) prog_1_method_3_code (5 : Nat) (Option.some Jvm.ClassFile.FieldType.int)) ∈ aw_WS := aw_in (List.mem_of_getElem? (i := 264) rfl) rfl
set_option maxRecDepth 100000 in
theorem k_242 : (Jvm.Cond.methodLink "WalkRanks" (59 : Nat) ({ cls := "WalkRanks", name := "isNode", desc := "(I)Z" } : Jvm.MethodName)) ∈ aw_WS := aw_in (List.mem_of_getElem? (i := 265) rfl) rfl
set_option maxRecDepth 100000 in
theorem k_244 : (Jvm.Cond.instanceMethod ({ cls := "WalkRanks", name := "isNode", desc := "(I)Z" } : Jvm.MethodName)) ∈ aw_WS := aw_in (List.mem_of_getElem? (i := 267) rfl) rfl
set_option maxRecDepth 100000 in
theorem k_245 : (Jvm.Cond.code ({ cls := "WalkRanks", name := "isNode", desc := "(I)Z" } : Jvm.MethodName) prog_1_method_21_code (2 : Nat) (Option.some Jvm.ClassFile.FieldType.boolean)) ∈ aw_WS := aw_in (List.mem_of_getElem? (i := 268) rfl) rfl
set_option maxRecDepth 100000 in
theorem k_246 : (Jvm.Cond.methodLink "WalkRanksLaw" (23 : Nat) ({ cls := "WalkRanks", name := "jump", desc := "(II)I" } : Jvm.MethodName)) ∈ aw_WS := aw_in (List.mem_of_getElem? (i := 269) rfl) rfl
set_option maxRecDepth 100000 in
theorem k_247 : (Jvm.Cond.instanceMethod ({ cls := "WalkRanks", name := "jump", desc := "(II)I" } : Jvm.MethodName)) ∈ aw_WS := aw_in (List.mem_of_getElem? (i := 270) rfl) rfl
set_option maxRecDepth 100000 in
theorem k_248 : (Jvm.Cond.selects "WalkRanks" ({ cls := "WalkRanks", name := "jump", desc := "(II)I" } : Jvm.MethodName) ({ cls := "WalkRanks", name := "jump", desc := "(II)I" } : Jvm.MethodName)) ∈ aw_WS := aw_in (List.mem_of_getElem? (i := 271) rfl) rfl
set_option maxRecDepth 100000 in
theorem k_249 : (Jvm.Cond.code ({ cls := "WalkRanks", name := "jump", desc := "(II)I" } : Jvm.MethodName) prog_1_method_4_code (4 : Nat) (Option.some Jvm.ClassFile.FieldType.int)) ∈ aw_WS := aw_in (List.mem_of_getElem? (i := 272) rfl) rfl
set_option maxRecDepth 100000 in
theorem k_250 : (Jvm.Cond.methodLink "WalkRanksLaw" (28 : Nat) ({ cls := "WalkRanks", name := "keep", desc := "(II)I" } : Jvm.MethodName)) ∈ aw_WS := aw_in (List.mem_of_getElem? (i := 273) rfl) rfl
set_option maxRecDepth 100000 in
theorem k_251 : (Jvm.Cond.instanceMethod ({ cls := "WalkRanks", name := "keep", desc := "(II)I" } : Jvm.MethodName)) ∈ aw_WS := aw_in (List.mem_of_getElem? (i := 274) rfl) rfl
set_option maxRecDepth 100000 in
theorem k_252 : (Jvm.Cond.selects "WalkRanks" ({ cls := "WalkRanks", name := "keep", desc := "(II)I" } : Jvm.MethodName) ({ cls := "WalkRanks", name := "keep", desc := "(II)I" } : Jvm.MethodName)) ∈ aw_WS := aw_in (List.mem_of_getElem? (i := 275) rfl) rfl
set_option maxRecDepth 100000 in
theorem k_253 : (Jvm.Cond.code ({ cls := "WalkRanks", name := "keep", desc := "(II)I" } : Jvm.MethodName) prog_1_method_5_code (3 : Nat) (Option.some Jvm.ClassFile.FieldType.int)) ∈ aw_WS := aw_in (List.mem_of_getElem? (i := 276) rfl) rfl
set_option maxRecDepth 100000 in
theorem k_254 : (Jvm.Cond.methodLink "WalkRanksLaw" (32 : Nat) ({ cls := "WalkRanks", name := "clear", desc := "()I" } : Jvm.MethodName)) ∈ aw_WS := aw_in (List.mem_of_getElem? (i := 277) rfl) rfl
set_option maxRecDepth 100000 in
theorem k_255 : (Jvm.Cond.instanceMethod ({ cls := "WalkRanks", name := "clear", desc := "()I" } : Jvm.MethodName)) ∈ aw_WS := aw_in (List.mem_of_getElem? (i := 278) rfl) rfl
set_option maxRecDepth 100000 in
theorem k_256 : (Jvm.Cond.selects "WalkRanks" ({ cls := "WalkRanks", name := "clear", desc := "()I" } : Jvm.MethodName) ({ cls := "WalkRanks", name := "clear", desc := "()I" } : Jvm.MethodName)) ∈ aw_WS := aw_in (List.mem_of_getElem? (i := 279) rfl) rfl
set_option maxRecDepth 100000 in
theorem k_257 : (Jvm.Cond.code ({ cls := "WalkRanks", name := "clear", desc := "()I" } : Jvm.MethodName) prog_1_method_6_code (2 : Nat) (Option.some Jvm.ClassFile.FieldType.int)) ∈ aw_WS := aw_in (List.mem_of_getElem? (i := 280) rfl) rfl
set_option maxRecDepth 100000 in
theorem k_258 : (Jvm.Cond.methodLink "WalkRanksLaw" (36 : Nat) ({ cls := "WalkRanks", name := "row", desc := "(II)I" } : Jvm.MethodName)) ∈ aw_WS := aw_in (List.mem_of_getElem? (i := 281) rfl) rfl
set_option maxRecDepth 100000 in
theorem k_259 : (Jvm.Cond.instanceMethod ({ cls := "WalkRanks", name := "row", desc := "(II)I" } : Jvm.MethodName)) ∈ aw_WS := aw_in (List.mem_of_getElem? (i := 282) rfl) rfl
set_option maxRecDepth 100000 in
theorem k_260 : (Jvm.Cond.selects "WalkRanks" ({ cls := "WalkRanks", name := "row", desc := "(II)I" } : Jvm.MethodName) ({ cls := "WalkRanks", name := "row", desc := "(II)I" } : Jvm.MethodName)) ∈ aw_WS := aw_in (List.mem_of_getElem? (i := 283) rfl) rfl
set_option maxRecDepth 100000 in
theorem k_261 : (Jvm.Cond.code ({ cls := "WalkRanks", name := "row", desc := "(II)I" } : Jvm.MethodName) prog_1_method_7_code (3 : Nat) (Option.some Jvm.ClassFile.FieldType.int)) ∈ aw_WS := aw_in (List.mem_of_getElem? (i := 284) rfl) rfl
set_option maxRecDepth 100000 in
theorem k_262 : (Jvm.Cond.methodLink "WalkRanksLaw" (40 : Nat) ({ cls := "WalkRanks", name := "total", desc := "(I)I" } : Jvm.MethodName)) ∈ aw_WS := aw_in (List.mem_of_getElem? (i := 285) rfl) rfl
set_option maxRecDepth 100000 in
theorem k_263 : (Jvm.Cond.instanceMethod ({ cls := "WalkRanks", name := "total", desc := "(I)I" } : Jvm.MethodName)) ∈ aw_WS := aw_in (List.mem_of_getElem? (i := 286) rfl) rfl
set_option maxRecDepth 100000 in
theorem k_264 : (Jvm.Cond.selects "WalkRanks" ({ cls := "WalkRanks", name := "total", desc := "(I)I" } : Jvm.MethodName) ({ cls := "WalkRanks", name := "total", desc := "(I)I" } : Jvm.MethodName)) ∈ aw_WS := aw_in (List.mem_of_getElem? (i := 287) rfl) rfl
set_option maxRecDepth 100000 in
theorem k_265 : (Jvm.Cond.code ({ cls := "WalkRanks", name := "total", desc := "(I)I" } : Jvm.MethodName) prog_1_method_8_code (2 : Nat) (Option.some Jvm.ClassFile.FieldType.int)) ∈ aw_WS := aw_in (List.mem_of_getElem? (i := 288) rfl) rfl
set_option maxRecDepth 100000 in
theorem k_266 : (Jvm.Cond.methodLink "WalkRanksLaw" (45 : Nat) ({ cls := "WalkRanks", name := "closed", desc := "()I" } : Jvm.MethodName)) ∈ aw_WS := aw_in (List.mem_of_getElem? (i := 289) rfl) rfl
set_option maxRecDepth 100000 in
theorem k_267 : (Jvm.Cond.instanceMethod ({ cls := "WalkRanks", name := "closed", desc := "()I" } : Jvm.MethodName)) ∈ aw_WS := aw_in (List.mem_of_getElem? (i := 290) rfl) rfl
set_option maxRecDepth 100000 in
theorem k_268 : (Jvm.Cond.selects "WalkRanks" ({ cls := "WalkRanks", name := "closed", desc := "()I" } : Jvm.MethodName) ({ cls := "WalkRanks", name := "closed", desc := "()I" } : Jvm.MethodName)) ∈ aw_WS := aw_in (List.mem_of_getElem? (i := 291) rfl) rfl
set_option maxRecDepth 100000 in
theorem k_269 : (Jvm.Cond.code ({ cls := "WalkRanks", name := "closed", desc := "()I" } : Jvm.MethodName) prog_1_method_9_code (1 : Nat) (Option.some Jvm.ClassFile.FieldType.int)) ∈ aw_WS := aw_in (List.mem_of_getElem? (i := 292) rfl) rfl
set_option maxRecDepth 100000 in
theorem k_270 : (Jvm.Cond.methodLink "WalkRanksLaw" (49 : Nat) ({ cls := "WalkRanks", name := "closedOf", desc := "(I)I" } : Jvm.MethodName)) ∈ aw_WS := aw_in (List.mem_of_getElem? (i := 293) rfl) rfl
set_option maxRecDepth 100000 in
theorem k_271 : (Jvm.Cond.instanceMethod ({ cls := "WalkRanks", name := "closedOf", desc := "(I)I" } : Jvm.MethodName)) ∈ aw_WS := aw_in (List.mem_of_getElem? (i := 294) rfl) rfl
set_option maxRecDepth 100000 in
theorem k_272 : (Jvm.Cond.selects "WalkRanks" ({ cls := "WalkRanks", name := "closedOf", desc := "(I)I" } : Jvm.MethodName) ({ cls := "WalkRanks", name := "closedOf", desc := "(I)I" } : Jvm.MethodName)) ∈ aw_WS := aw_in (List.mem_of_getElem? (i := 295) rfl) rfl
set_option maxRecDepth 100000 in
theorem k_273 : (Jvm.Cond.code ({ cls := "WalkRanks", name := "closedOf", desc := "(I)I" } : Jvm.MethodName) prog_1_method_10_code (2 : Nat) (Option.some Jvm.ClassFile.FieldType.int)) ∈ aw_WS := aw_in (List.mem_of_getElem? (i := 296) rfl) rfl
set_option maxRecDepth 100000 in
theorem k_274 : (Jvm.Cond.methodLink "WalkRanksLaw" (53 : Nat) ({ cls := "WalkRanks", name := "period", desc := "(I)I" } : Jvm.MethodName)) ∈ aw_WS := aw_in (List.mem_of_getElem? (i := 297) rfl) rfl
set_option maxRecDepth 100000 in
theorem k_275 : (Jvm.Cond.instanceMethod ({ cls := "WalkRanks", name := "period", desc := "(I)I" } : Jvm.MethodName)) ∈ aw_WS := aw_in (List.mem_of_getElem? (i := 298) rfl) rfl
set_option maxRecDepth 100000 in
theorem k_276 : (Jvm.Cond.selects "WalkRanks" ({ cls := "WalkRanks", name := "period", desc := "(I)I" } : Jvm.MethodName) ({ cls := "WalkRanks", name := "period", desc := "(I)I" } : Jvm.MethodName)) ∈ aw_WS := aw_in (List.mem_of_getElem? (i := 299) rfl) rfl
set_option maxRecDepth 100000 in
theorem k_277 : (Jvm.Cond.code ({ cls := "WalkRanks", name := "period", desc := "(I)I" } : Jvm.MethodName) prog_1_method_11_code (2 : Nat) (Option.some Jvm.ClassFile.FieldType.int)) ∈ aw_WS := aw_in (List.mem_of_getElem? (i := 300) rfl) rfl
set_option maxRecDepth 100000 in
theorem k_278 : (Jvm.Cond.methodLink "WalkRanks" (89 : Nat) ({ cls := "WalkRanks", name := "isSet", desc := "(I)Z" } : Jvm.MethodName)) ∈ aw_WS := aw_in (List.mem_of_getElem? (i := 301) rfl) rfl
set_option maxRecDepth 100000 in
theorem k_280 : (Jvm.Cond.instanceMethod ({ cls := "WalkRanks", name := "isSet", desc := "(I)Z" } : Jvm.MethodName)) ∈ aw_WS := aw_in (List.mem_of_getElem? (i := 303) rfl) rfl
set_option maxRecDepth 100000 in
theorem k_281 : (Jvm.Cond.code ({ cls := "WalkRanks", name := "isSet", desc := "(I)Z" } : Jvm.MethodName) prog_1_method_22_code (2 : Nat) (Option.some Jvm.ClassFile.FieldType.boolean)) ∈ aw_WS := aw_in (List.mem_of_getElem? (i := 304) rfl) rfl
set_option maxRecDepth 100000 in
theorem k_282 : (Jvm.Cond.methodLink "WalkRanks" (95 : Nat) ({ cls := "WalkRanks$Steps", name := "periodAt", desc := "(I)I" } : Jvm.MethodName)) ∈ aw_WS := aw_in (List.mem_of_getElem? (i := 305) rfl) rfl
set_option maxRecDepth 100000 in
theorem k_283 : (Jvm.Cond.instanceMethod ({ cls := "WalkRanks$Steps", name := "periodAt", desc := "(I)I" } : Jvm.MethodName)) ∈ aw_WS := aw_in (List.mem_of_getElem? (i := 306) rfl) rfl
set_option maxRecDepth 100000 in
theorem k_284 : (Jvm.Cond.selects "WalkRanks$Steps" ({ cls := "WalkRanks$Steps", name := "periodAt", desc := "(I)I" } : Jvm.MethodName) ({ cls := "WalkRanks$Steps", name := "periodAt", desc := "(I)I" } : Jvm.MethodName)) ∈ aw_WS := aw_in (List.mem_of_getElem? (i := 307) rfl) rfl
set_option maxRecDepth 100000 in
theorem k_285 : (Jvm.Cond.code ({ cls := "WalkRanks$Steps", name := "periodAt", desc := "(I)I" } : Jvm.MethodName) prog_6_method_9_code (5 : Nat) (Option.some Jvm.ClassFile.FieldType.int)) ∈ aw_WS := aw_in (List.mem_of_getElem? (i := 308) rfl) rfl
set_option maxRecDepth 100000 in
theorem k_286 : (Jvm.Cond.methodLink "WalkRanksLaw" (57 : Nat) ({ cls := "WalkRanks", name := "rank", desc := "(II)J" } : Jvm.MethodName)) ∈ aw_WS := aw_in (List.mem_of_getElem? (i := 309) rfl) rfl
set_option maxRecDepth 100000 in
theorem k_287 : (Jvm.Cond.instanceMethod ({ cls := "WalkRanks", name := "rank", desc := "(II)J" } : Jvm.MethodName)) ∈ aw_WS := aw_in (List.mem_of_getElem? (i := 310) rfl) rfl
set_option maxRecDepth 100000 in
theorem k_288 : (Jvm.Cond.selects "WalkRanks" ({ cls := "WalkRanks", name := "rank", desc := "(II)J" } : Jvm.MethodName) ({ cls := "WalkRanks", name := "rank", desc := "(II)J" } : Jvm.MethodName)) ∈ aw_WS := aw_in (List.mem_of_getElem? (i := 311) rfl) rfl
set_option maxRecDepth 100000 in
theorem k_289 : (Jvm.Cond.code ({ cls := "WalkRanks", name := "rank", desc := "(II)J" } : Jvm.MethodName) prog_1_method_12_code (5 : Nat) (Option.some Jvm.ClassFile.FieldType.long)) ∈ aw_WS := aw_in (List.mem_of_getElem? (i := 312) rfl) rfl
set_option maxRecDepth 100000 in
theorem k_290 : (Jvm.Cond.constantLong "WalkRanks" (99 : Nat) (-1 : Int64)) ∈ aw_WS := aw_in (List.mem_of_getElem? (i := 313) rfl) rfl
set_option maxRecDepth 100000 in
theorem k_291 : (Jvm.Cond.methodLink "WalkRanks" (101 : Nat) ({ cls := "WalkRanks", name := "isPart", desc := "(I)Z" } : Jvm.MethodName)) ∈ aw_WS := aw_in (List.mem_of_getElem? (i := 314) rfl) rfl
set_option maxRecDepth 100000 in
theorem k_292 : (Jvm.Cond.static ({ cls := "WalkRanks", name := "isPart", desc := "(I)Z" } : Jvm.MethodName)) ∈ aw_WS := aw_in (List.mem_of_getElem? (i := 315) rfl) rfl
set_option maxRecDepth 100000 in
theorem k_293 : (Jvm.Cond.code ({ cls := "WalkRanks", name := "isPart", desc := "(I)Z" } : Jvm.MethodName) prog_1_method_23_code (1 : Nat) (Option.some Jvm.ClassFile.FieldType.boolean)) ∈ aw_WS := aw_in (List.mem_of_getElem? (i := 316) rfl) rfl
set_option maxRecDepth 100000 in
theorem k_294 : (Jvm.Cond.constantLong "WalkRanks" (104 : Nat) (-2 : Int64)) ∈ aw_WS := aw_in (List.mem_of_getElem? (i := 317) rfl) rfl
set_option maxRecDepth 100000 in
theorem k_295 : (Jvm.Cond.constantLong "WalkRanks" (106 : Nat) (-3 : Int64)) ∈ aw_WS := aw_in (List.mem_of_getElem? (i := 318) rfl) rfl
set_option maxRecDepth 100000 in
theorem k_296 : (Jvm.Cond.methodLink "WalkRanks" (111 : Nat) ({ cls := "WalkRanks", name := "fillShares", desc := "(I)J" } : Jvm.MethodName)) ∈ aw_WS := aw_in (List.mem_of_getElem? (i := 319) rfl) rfl
set_option maxRecDepth 100000 in
theorem k_298 : (Jvm.Cond.instanceMethod ({ cls := "WalkRanks", name := "fillShares", desc := "(I)J" } : Jvm.MethodName)) ∈ aw_WS := aw_in (List.mem_of_getElem? (i := 321) rfl) rfl
set_option maxRecDepth 100000 in
theorem k_299 : (Jvm.Cond.code ({ cls := "WalkRanks", name := "fillShares", desc := "(I)J" } : Jvm.MethodName) prog_1_method_25_code (5 : Nat) (Option.some Jvm.ClassFile.FieldType.long)) ∈ aw_WS := aw_in (List.mem_of_getElem? (i := 322) rfl) rfl
set_option maxRecDepth 100000 in
theorem k_300 : (Jvm.Cond.methodLink "WalkRanks" (176 : Nat) ({ cls := "WalkRanks", name := "has", desc := "(II)Z" } : Jvm.MethodName)) ∈ aw_WS := aw_in (List.mem_of_getElem? (i := 323) rfl) rfl
set_option maxRecDepth 100000 in
theorem k_301 : (Jvm.Cond.methodLink "WalkRanks" (136 : Nat) ({ cls := "WalkRanks$Equations", name := "fill", desc := "(LWalkRanks$Steps;I)V" } : Jvm.MethodName)) ∈ aw_WS := aw_in (List.mem_of_getElem? (i := 324) rfl) rfl
set_option maxRecDepth 100000 in
theorem k_302 : (Jvm.Cond.instanceMethod ({ cls := "WalkRanks$Equations", name := "fill", desc := "(LWalkRanks$Steps;I)V" } : Jvm.MethodName)) ∈ aw_WS := aw_in (List.mem_of_getElem? (i := 325) rfl) rfl
set_option maxRecDepth 100000 in
theorem k_303 : (Jvm.Cond.selects "WalkRanks$Equations" ({ cls := "WalkRanks$Equations", name := "fill", desc := "(LWalkRanks$Steps;I)V" } : Jvm.MethodName) ({ cls := "WalkRanks$Equations", name := "fill", desc := "(LWalkRanks$Steps;I)V" } : Jvm.MethodName)) ∈ aw_WS := aw_in (List.mem_of_getElem? (i := 326) rfl) rfl
set_option maxRecDepth 100000 in
theorem k_304 : (Jvm.Cond.code ({ cls := "WalkRanks$Equations", name := "fill", desc := "(LWalkRanks$Steps;I)V" } : Jvm.MethodName) prog_3_method_2_code (10 : Nat) (Option.none : Option Jvm.ClassFile.FieldType)) ∈ aw_WS := aw_in (List.mem_of_getElem? (i := 327) rfl) rfl
set_option maxRecDepth 100000 in
theorem k_305 : (Jvm.Cond.methodLinkNest "WalkRanks$Equations" (23 : Nat) ({ cls := "WalkRanks", name := "has", desc := "(II)Z" } : Jvm.MethodName) "WalkRanks") ∈ aw_NW := aw_inN (List.mem_of_getElem? (i := 328) rfl) rfl
set_option maxRecDepth 100000 in
theorem k_306 : (Jvm.Cond.methodLink "WalkRanks" (140 : Nat) ({ cls := "WalkRanks$Equations", name := "determinant", desc := "()J" } : Jvm.MethodName)) ∈ aw_WS := aw_in (List.mem_of_getElem? (i := 329) rfl) rfl
set_option maxRecDepth 100000 in
theorem k_307 : (Jvm.Cond.instanceMethod ({ cls := "WalkRanks$Equations", name := "determinant", desc := "()J" } : Jvm.MethodName)) ∈ aw_WS := aw_in (List.mem_of_getElem? (i := 330) rfl) rfl
set_option maxRecDepth 100000 in
theorem k_308 : (Jvm.Cond.selects "WalkRanks$Equations" ({ cls := "WalkRanks$Equations", name := "determinant", desc := "()J" } : Jvm.MethodName) ({ cls := "WalkRanks$Equations", name := "determinant", desc := "()J" } : Jvm.MethodName)) ∈ aw_WS := aw_in (List.mem_of_getElem? (i := 331) rfl) rfl
set_option maxRecDepth 100000 in
theorem k_309 : (Jvm.Cond.code ({ cls := "WalkRanks$Equations", name := "determinant", desc := "()J" } : Jvm.MethodName) prog_3_method_5_code (1 : Nat) (Option.some Jvm.ClassFile.FieldType.long)) ∈ aw_WS := aw_in (List.mem_of_getElem? (i := 332) rfl) rfl
set_option maxRecDepth 100000 in
theorem k_310 : (Jvm.Cond.methodLink "WalkRanks$Equations" (35 : Nat) ({ cls := "WalkRanks$Equations", name := "expand", desc := "([[JIII)J" } : Jvm.MethodName)) ∈ aw_WS := aw_in (List.mem_of_getElem? (i := 333) rfl) rfl
set_option maxRecDepth 100000 in
theorem k_311 : (Jvm.Cond.static ({ cls := "WalkRanks$Equations", name := "expand", desc := "([[JIII)J" } : Jvm.MethodName)) ∈ aw_WS := aw_in (List.mem_of_getElem? (i := 334) rfl) rfl
set_option maxRecDepth 100000 in
theorem k_312 : (Jvm.Cond.code ({ cls := "WalkRanks$Equations", name := "expand", desc := "([[JIII)J" } : Jvm.MethodName) prog_3_method_6_code (11 : Nat) (Option.some Jvm.ClassFile.FieldType.long)) ∈ aw_WS := aw_in (List.mem_of_getElem? (i := 335) rfl) rfl
set_option maxRecDepth 100000 in
theorem k_313 : (Jvm.Cond.methodLinkNest "WalkRanks$Equations" (39 : Nat) ({ cls := "WalkRanks", name := "only", desc := "(I)I" } : Jvm.MethodName) "WalkRanks") ∈ aw_NW := aw_inN (List.mem_of_getElem? (i := 336) rfl) rfl
set_option maxRecDepth 100000 in
theorem k_314 : (Jvm.Cond.methodLink "WalkRanks" (115 : Nat) ({ cls := "WalkRanks", name := "fraction", desc := "(JJI)J" } : Jvm.MethodName)) ∈ aw_WS := aw_in (List.mem_of_getElem? (i := 337) rfl) rfl
set_option maxRecDepth 100000 in
theorem k_315 : (Jvm.Cond.static ({ cls := "WalkRanks", name := "fraction", desc := "(JJI)J" } : Jvm.MethodName)) ∈ aw_WS := aw_in (List.mem_of_getElem? (i := 338) rfl) rfl
set_option maxRecDepth 100000 in
theorem k_316 : (Jvm.Cond.code ({ cls := "WalkRanks", name := "fraction", desc := "(JJI)J" } : Jvm.MethodName) prog_1_method_28_code (9 : Nat) (Option.some Jvm.ClassFile.FieldType.long)) ∈ aw_WS := aw_in (List.mem_of_getElem? (i := 339) rfl) rfl
set_option maxRecDepth 100000 in
theorem k_317 : (Jvm.Cond.methodLink "WalkRanks" (184 : Nat) ({ cls := "WalkRanks", name := "greatestDivisor", desc := "(JJ)J" } : Jvm.MethodName)) ∈ aw_WS := aw_in (List.mem_of_getElem? (i := 340) rfl) rfl
set_option maxRecDepth 100000 in
theorem k_318 : (Jvm.Cond.methodLink "WalkRanksLaw" (62 : Nat) ({ cls := "WalkRanks", name := "place", desc := "(I)I" } : Jvm.MethodName)) ∈ aw_WS := aw_in (List.mem_of_getElem? (i := 341) rfl) rfl
set_option maxRecDepth 100000 in
theorem k_319 : (Jvm.Cond.instanceMethod ({ cls := "WalkRanks", name := "place", desc := "(I)I" } : Jvm.MethodName)) ∈ aw_WS := aw_in (List.mem_of_getElem? (i := 342) rfl) rfl
set_option maxRecDepth 100000 in
theorem k_320 : (Jvm.Cond.selects "WalkRanks" ({ cls := "WalkRanks", name := "place", desc := "(I)I" } : Jvm.MethodName) ({ cls := "WalkRanks", name := "place", desc := "(I)I" } : Jvm.MethodName)) ∈ aw_WS := aw_in (List.mem_of_getElem? (i := 343) rfl) rfl
set_option maxRecDepth 100000 in
theorem k_321 : (Jvm.Cond.code ({ cls := "WalkRanks", name := "place", desc := "(I)I" } : Jvm.MethodName) prog_1_method_13_code (3 : Nat) (Option.some Jvm.ClassFile.FieldType.int)) ∈ aw_WS := aw_in (List.mem_of_getElem? (i := 344) rfl) rfl
set_option maxRecDepth 100000 in
theorem k_322 : (Jvm.Cond.methodLink "WalkRanks" (119 : Nat) ({ cls := "WalkRanks", name := "nodesAhead", desc := "(I)I" } : Jvm.MethodName)) ∈ aw_WS := aw_in (List.mem_of_getElem? (i := 345) rfl) rfl
set_option maxRecDepth 100000 in
theorem k_324 : (Jvm.Cond.instanceMethod ({ cls := "WalkRanks", name := "nodesAhead", desc := "(I)I" } : Jvm.MethodName)) ∈ aw_WS := aw_in (List.mem_of_getElem? (i := 347) rfl) rfl
set_option maxRecDepth 100000 in
theorem k_325 : (Jvm.Cond.code ({ cls := "WalkRanks", name := "nodesAhead", desc := "(I)I" } : Jvm.MethodName) prog_1_method_26_code (4 : Nat) (Option.some Jvm.ClassFile.FieldType.int)) ∈ aw_WS := aw_in (List.mem_of_getElem? (i := 348) rfl) rfl
set_option maxRecDepth 100000 in
theorem k_326 : (Jvm.Cond.methodLink "WalkRanksLaw" (66 : Nat) ({ cls := "WalkRanks", name := "reach", desc := "(III)J" } : Jvm.MethodName)) ∈ aw_WS := aw_in (List.mem_of_getElem? (i := 349) rfl) rfl
set_option maxRecDepth 100000 in
theorem k_327 : (Jvm.Cond.instanceMethod ({ cls := "WalkRanks", name := "reach", desc := "(III)J" } : Jvm.MethodName)) ∈ aw_WS := aw_in (List.mem_of_getElem? (i := 350) rfl) rfl
set_option maxRecDepth 100000 in
theorem k_328 : (Jvm.Cond.selects "WalkRanks" ({ cls := "WalkRanks", name := "reach", desc := "(III)J" } : Jvm.MethodName) ({ cls := "WalkRanks", name := "reach", desc := "(III)J" } : Jvm.MethodName)) ∈ aw_WS := aw_in (List.mem_of_getElem? (i := 351) rfl) rfl
set_option maxRecDepth 100000 in
theorem k_329 : (Jvm.Cond.code ({ cls := "WalkRanks", name := "reach", desc := "(III)J" } : Jvm.MethodName) prog_1_method_14_code (4 : Nat) (Option.some Jvm.ClassFile.FieldType.long)) ∈ aw_WS := aw_in (List.mem_of_getElem? (i := 352) rfl) rfl
set_option maxRecDepth 100000 in
theorem k_330 : (Jvm.Cond.methodLink "WalkRanks" (125 : Nat) ({ cls := "WalkRanks", name := "chanceToCome", desc := "(III)J" } : Jvm.MethodName)) ∈ aw_WS := aw_in (List.mem_of_getElem? (i := 353) rfl) rfl
set_option maxRecDepth 100000 in
theorem k_332 : (Jvm.Cond.instanceMethod ({ cls := "WalkRanks", name := "chanceToCome", desc := "(III)J" } : Jvm.MethodName)) ∈ aw_WS := aw_in (List.mem_of_getElem? (i := 355) rfl) rfl
set_option maxRecDepth 100000 in
theorem k_333 : (Jvm.Cond.code ({ cls := "WalkRanks", name := "chanceToCome", desc := "(III)J" } : Jvm.MethodName) prog_1_method_27_code (7 : Nat) (Option.some Jvm.ClassFile.FieldType.long)) ∈ aw_WS := aw_in (List.mem_of_getElem? (i := 356) rfl) rfl
set_option maxRecDepth 100000 in
theorem k_334 : (Jvm.Cond.methodLink "WalkRanks" (133 : Nat) ({ cls := "WalkRanks$ClosedSets", name := "leadingTo", desc := "(I)I" } : Jvm.MethodName)) ∈ aw_WS := aw_in (List.mem_of_getElem? (i := 357) rfl) rfl
set_option maxRecDepth 100000 in
theorem k_335 : (Jvm.Cond.methodLink "WalkRanks" (180 : Nat) ({ cls := "WalkRanks$Equations", name := "putChances", desc := "(LWalkRanks$Steps;III)V" } : Jvm.MethodName)) ∈ aw_WS := aw_in (List.mem_of_getElem? (i := 358) rfl) rfl
set_option maxRecDepth 100000 in
theorem k_336 : (Jvm.Cond.instanceMethod ({ cls := "WalkRanks$Equations", name := "putChances", desc := "(LWalkRanks$Steps;III)V" } : Jvm.MethodName)) ∈ aw_WS := aw_in (List.mem_of_getElem? (i := 359) rfl) rfl
set_option maxRecDepth 100000 in
theorem k_337 : (Jvm.Cond.selects "WalkRanks$Equations" ({ cls := "WalkRanks$Equations", name := "putChances", desc := "(LWalkRanks$Steps;III)V" } : Jvm.MethodName) ({ cls := "WalkRanks$Equations", name := "putChances", desc := "(LWalkRanks$Steps;III)V" } : Jvm.MethodName)) ∈ aw_WS := aw_in (List.mem_of_getElem? (i := 360) rfl) rfl
set_option maxRecDepth 100000 in
theorem k_338 : (Jvm.Cond.code ({ cls := "WalkRanks$Equations", name := "putChances", desc := "(LWalkRanks$Steps;III)V" } : Jvm.MethodName) prog_3_method_3_code (7 : Nat) (Option.none : Option Jvm.ClassFile.FieldType)) ∈ aw_WS := aw_in (List.mem_of_getElem? (i := 361) rfl) rfl
set_option maxRecDepth 100000 in
theorem k_339 : (Jvm.Cond.methodLink "WalkRanksLaw" (71 : Nat) ({ cls := "WalkRanks", name := "hit", desc := "(III)J" } : Jvm.MethodName)) ∈ aw_WS := aw_in (List.mem_of_getElem? (i := 362) rfl) rfl
set_option maxRecDepth 100000 in
theorem k_340 : (Jvm.Cond.instanceMethod ({ cls := "WalkRanks", name := "hit", desc := "(III)J" } : Jvm.MethodName)) ∈ aw_WS := aw_in (List.mem_of_getElem? (i := 363) rfl) rfl
set_option maxRecDepth 100000 in
theorem k_341 : (Jvm.Cond.selects "WalkRanks" ({ cls := "WalkRanks", name := "hit", desc := "(III)J" } : Jvm.MethodName) ({ cls := "WalkRanks", name := "hit", desc := "(III)J" } : Jvm.MethodName)) ∈ aw_WS := aw_in (List.mem_of_getElem? (i := 364) rfl) rfl
set_option maxRecDepth 100000 in
theorem k_342 : (Jvm.Cond.code ({ cls := "WalkRanks", name := "hit", desc := "(III)J" } : Jvm.MethodName) prog_1_method_15_code (7 : Nat) (Option.some Jvm.ClassFile.FieldType.long)) ∈ aw_WS := aw_in (List.mem_of_getElem? (i := 365) rfl) rfl
set_option maxRecDepth 100000 in
theorem k_343 : (Jvm.Cond.methodLink "WalkRanks" (129 : Nat) ({ cls := "WalkRanks$Steps", name := "nodesBehind", desc := "(II)I" } : Jvm.MethodName)) ∈ aw_WS := aw_in (List.mem_of_getElem? (i := 366) rfl) rfl
set_option maxRecDepth 100000 in
theorem k_344 : (Jvm.Cond.methodLink "WalkRanks" (144 : Nat) ({ cls := "WalkRanks$Equations", name := "putStepCounts", desc := "(LWalkRanks$Steps;II)V" } : Jvm.MethodName)) ∈ aw_WS := aw_in (List.mem_of_getElem? (i := 367) rfl) rfl
set_option maxRecDepth 100000 in
theorem k_345 : (Jvm.Cond.instanceMethod ({ cls := "WalkRanks$Equations", name := "putStepCounts", desc := "(LWalkRanks$Steps;II)V" } : Jvm.MethodName)) ∈ aw_WS := aw_in (List.mem_of_getElem? (i := 368) rfl) rfl
set_option maxRecDepth 100000 in
theorem k_346 : (Jvm.Cond.selects "WalkRanks$Equations" ({ cls := "WalkRanks$Equations", name := "putStepCounts", desc := "(LWalkRanks$Steps;II)V" } : Jvm.MethodName) ({ cls := "WalkRanks$Equations", name := "putStepCounts", desc := "(LWalkRanks$Steps;II)V" } : Jvm.MethodName)) ∈ aw_WS := aw_in (List.mem_of_getElem? (i := 369) rfl) rfl
set_option maxRecDepth 100000 in
theorem k_347 : (Jvm.Cond.code ({ cls := "WalkRanks$Equations", name := "putStepCounts", desc := "(LWalkRanks$Steps;II)V" } : Jvm.MethodName) prog_3_method_4_code (5 : Nat) (Option.none : Option Jvm.ClassFile.FieldType)) ∈ aw_WS := aw_in (List.mem_of_getElem? (i := 370) rfl) rfl
set_option maxRecDepth 100000 in
theorem k_348 : (Jvm.Cond.methodLink "WalkRanksLaw" (75 : Nat) ({ cls := "WalkRanks", name := "back", desc := "(II)J" } : Jvm.MethodName)) ∈ aw_WS := aw_in (List.mem_of_getElem? (i := 371) rfl) rfl
set_option maxRecDepth 100000 in
theorem k_349 : (Jvm.Cond.instanceMethod ({ cls := "WalkRanks", name := "back", desc := "(II)J" } : Jvm.MethodName)) ∈ aw_WS := aw_in (List.mem_of_getElem? (i := 372) rfl) rfl
set_option maxRecDepth 100000 in
theorem k_350 : (Jvm.Cond.selects "WalkRanks" ({ cls := "WalkRanks", name := "back", desc := "(II)J" } : Jvm.MethodName) ({ cls := "WalkRanks", name := "back", desc := "(II)J" } : Jvm.MethodName)) ∈ aw_WS := aw_in (List.mem_of_getElem? (i := 373) rfl) rfl
set_option maxRecDepth 100000 in
theorem k_351 : (Jvm.Cond.code ({ cls := "WalkRanks", name := "back", desc := "(II)J" } : Jvm.MethodName) prog_1_method_16_code (5 : Nat) (Option.some Jvm.ClassFile.FieldType.long)) ∈ aw_WS := aw_in (List.mem_of_getElem? (i := 374) rfl) rfl
set_option maxRecDepth 100000 in
theorem k_352 : (Jvm.Cond.methodLink "WalkRanksLaw" (79 : Nat) ({ cls := "WalkRanks", name := "end", desc := "(III)J" } : Jvm.MethodName)) ∈ aw_WS := aw_in (List.mem_of_getElem? (i := 375) rfl) rfl
set_option maxRecDepth 100000 in
theorem k_353 : (Jvm.Cond.instanceMethod ({ cls := "WalkRanks", name := "end", desc := "(III)J" } : Jvm.MethodName)) ∈ aw_WS := aw_in (List.mem_of_getElem? (i := 376) rfl) rfl
set_option maxRecDepth 100000 in
theorem k_354 : (Jvm.Cond.selects "WalkRanks" ({ cls := "WalkRanks", name := "end", desc := "(III)J" } : Jvm.MethodName) ({ cls := "WalkRanks", name := "end", desc := "(III)J" } : Jvm.MethodName)) ∈ aw_WS := aw_in (List.mem_of_getElem? (i := 377) rfl) rfl
set_option maxRecDepth 100000 in
theorem k_355 : (Jvm.Cond.code ({ cls := "WalkRanks", name := "end", desc := "(III)J" } : Jvm.MethodName) prog_1_method_17_code (4 : Nat) (Option.some Jvm.ClassFile.FieldType.long)) ∈ aw_WS := aw_in (List.mem_of_getElem? (i := 378) rfl) rfl
set_option maxRecDepth 100000 in
theorem k_356 : (Jvm.Cond.methodLink "WalkRanksLaw" (83 : Nat) ({ cls := "WalkRanks", name := "after", desc := "(IIII)J" } : Jvm.MethodName)) ∈ aw_WS := aw_in (List.mem_of_getElem? (i := 379) rfl) rfl
set_option maxRecDepth 100000 in
theorem k_357 : (Jvm.Cond.instanceMethod ({ cls := "WalkRanks", name := "after", desc := "(IIII)J" } : Jvm.MethodName)) ∈ aw_WS := aw_in (List.mem_of_getElem? (i := 380) rfl) rfl
set_option maxRecDepth 100000 in
theorem k_358 : (Jvm.Cond.selects "WalkRanks" ({ cls := "WalkRanks", name := "after", desc := "(IIII)J" } : Jvm.MethodName) ({ cls := "WalkRanks", name := "after", desc := "(IIII)J" } : Jvm.MethodName)) ∈ aw_WS := aw_in (List.mem_of_getElem? (i := 381) rfl) rfl
set_option maxRecDepth 100000 in
theorem k_359 : (Jvm.Cond.code ({ cls := "WalkRanks", name := "after", desc := "(IIII)J" } : Jvm.MethodName) prog_1_method_18_code (10 : Nat) (Option.some Jvm.ClassFile.FieldType.long)) ∈ aw_WS := aw_in (List.mem_of_getElem? (i := 382) rfl) rfl
set_option maxRecDepth 100000 in
theorem k_360 : (Jvm.Cond.methodLink "WalkRanks" (148 : Nat) ({ cls := "WalkRanks$Steps", name := "commonTotal", desc := "()J" } : Jvm.MethodName)) ∈ aw_WS := aw_in (List.mem_of_getElem? (i := 383) rfl) rfl
set_option maxRecDepth 100000 in
theorem k_361 : (Jvm.Cond.instanceMethod ({ cls := "WalkRanks$Steps", name := "commonTotal", desc := "()J" } : Jvm.MethodName)) ∈ aw_WS := aw_in (List.mem_of_getElem? (i := 384) rfl) rfl
set_option maxRecDepth 100000 in
theorem k_362 : (Jvm.Cond.selects "WalkRanks$Steps" ({ cls := "WalkRanks$Steps", name := "commonTotal", desc := "()J" } : Jvm.MethodName) ({ cls := "WalkRanks$Steps", name := "commonTotal", desc := "()J" } : Jvm.MethodName)) ∈ aw_WS := aw_in (List.mem_of_getElem? (i := 385) rfl) rfl
set_option maxRecDepth 100000 in
theorem k_363 : (Jvm.Cond.code ({ cls := "WalkRanks$Steps", name := "commonTotal", desc := "()J" } : Jvm.MethodName) prog_6_method_6_code (6 : Nat) (Option.some Jvm.ClassFile.FieldType.long)) ∈ aw_WS := aw_in (List.mem_of_getElem? (i := 386) rfl) rfl
set_option maxRecDepth 100000 in
theorem k_364 : (Jvm.Cond.methodLink "WalkRanks" (151 : Nat) ({ cls := "WalkRanks$Spread", name := "fillBySteps", desc := "(LWalkRanks$Steps;J)V" } : Jvm.MethodName)) ∈ aw_WS := aw_in (List.mem_of_getElem? (i := 387) rfl) rfl
set_option maxRecDepth 100000 in
theorem k_365 : (Jvm.Cond.instanceMethod ({ cls := "WalkRanks$Spread", name := "fillBySteps", desc := "(LWalkRanks$Steps;J)V" } : Jvm.MethodName)) ∈ aw_WS := aw_in (List.mem_of_getElem? (i := 388) rfl) rfl
set_option maxRecDepth 100000 in
theorem k_366 : (Jvm.Cond.selects "WalkRanks$Spread" ({ cls := "WalkRanks$Spread", name := "fillBySteps", desc := "(LWalkRanks$Steps;J)V" } : Jvm.MethodName) ({ cls := "WalkRanks$Spread", name := "fillBySteps", desc := "(LWalkRanks$Steps;J)V" } : Jvm.MethodName)) ∈ aw_WS := aw_in (List.mem_of_getElem? (i := 389) rfl) rfl
set_option maxRecDepth 100000 in
theorem k_367 : (Jvm.Cond.code ({ cls := "WalkRanks$Spread", name := "fillBySteps", desc := "(LWalkRanks$Steps;J)V" } : Jvm.MethodName) prog_5_method_3_code (8 : Nat) (Option.none : Option Jvm.ClassFile.FieldType)) ∈ aw_WS := aw_in (List.mem_of_getElem? (i := 390) rfl) rfl
set_option maxRecDepth 100000 in
theorem k_368 : (Jvm.Cond.methodLink "WalkRanks" (155 : Nat) ({ cls := "WalkRanks$Spread", name := "run", desc := "(II)V" } : Jvm.MethodName)) ∈ aw_WS := aw_in (List.mem_of_getElem? (i := 391) rfl) rfl
set_option maxRecDepth 100000 in
theorem k_369 : (Jvm.Cond.instanceMethod ({ cls := "WalkRanks$Spread", name := "run", desc := "(II)V" } : Jvm.MethodName)) ∈ aw_WS := aw_in (List.mem_of_getElem? (i := 392) rfl) rfl
set_option maxRecDepth 100000 in
theorem k_370 : (Jvm.Cond.selects "WalkRanks$Spread" ({ cls := "WalkRanks$Spread", name := "run", desc := "(II)V" } : Jvm.MethodName) ({ cls := "WalkRanks$Spread", name := "run", desc := "(II)V" } : Jvm.MethodName)) ∈ aw_WS := aw_in (List.mem_of_getElem? (i := 393) rfl) rfl
set_option maxRecDepth 100000 in
theorem k_371 : (Jvm.Cond.code ({ cls := "WalkRanks$Spread", name := "run", desc := "(II)V" } : Jvm.MethodName) prog_5_method_4_code (4 : Nat) (Option.none : Option Jvm.ClassFile.FieldType)) ∈ aw_WS := aw_in (List.mem_of_getElem? (i := 394) rfl) rfl
set_option maxRecDepth 100000 in
theorem k_372 : (Jvm.Cond.methodLink "WalkRanks$Spread" (44 : Nat) ({ cls := "WalkRanks$Spread", name := "move", desc := "()V" } : Jvm.MethodName)) ∈ aw_WS := aw_in (List.mem_of_getElem? (i := 395) rfl) rfl
set_option maxRecDepth 100000 in
theorem k_374 : (Jvm.Cond.instanceMethod ({ cls := "WalkRanks$Spread", name := "move", desc := "()V" } : Jvm.MethodName)) ∈ aw_WS := aw_in (List.mem_of_getElem? (i := 397) rfl) rfl
set_option maxRecDepth 100000 in
theorem k_375 : (Jvm.Cond.code ({ cls := "WalkRanks$Spread", name := "move", desc := "()V" } : Jvm.MethodName) prog_5_method_6_code (3 : Nat) (Option.none : Option Jvm.ClassFile.FieldType)) ∈ aw_WS := aw_in (List.mem_of_getElem? (i := 398) rfl) rfl
set_option maxRecDepth 100000 in
theorem k_376 : (Jvm.Cond.methodLink "WalkRanks" (159 : Nat) ({ cls := "WalkRanks$Spread", name := "numberAt", desc := "(I)J" } : Jvm.MethodName)) ∈ aw_WS := aw_in (List.mem_of_getElem? (i := 399) rfl) rfl
set_option maxRecDepth 100000 in
theorem k_377 : (Jvm.Cond.instanceMethod ({ cls := "WalkRanks$Spread", name := "numberAt", desc := "(I)J" } : Jvm.MethodName)) ∈ aw_WS := aw_in (List.mem_of_getElem? (i := 400) rfl) rfl
set_option maxRecDepth 100000 in
theorem k_378 : (Jvm.Cond.selects "WalkRanks$Spread" ({ cls := "WalkRanks$Spread", name := "numberAt", desc := "(I)J" } : Jvm.MethodName) ({ cls := "WalkRanks$Spread", name := "numberAt", desc := "(I)J" } : Jvm.MethodName)) ∈ aw_WS := aw_in (List.mem_of_getElem? (i := 401) rfl) rfl
set_option maxRecDepth 100000 in
theorem k_379 : (Jvm.Cond.code ({ cls := "WalkRanks$Spread", name := "numberAt", desc := "(I)J" } : Jvm.MethodName) prog_5_method_5_code (2 : Nat) (Option.some Jvm.ClassFile.FieldType.long)) ∈ aw_WS := aw_in (List.mem_of_getElem? (i := 402) rfl) rfl
set_option maxRecDepth 100000 in
theorem k_380 : (Jvm.Cond.methodLink "WalkRanksLaw" (88 : Nat) ({ cls := "WalkRanks", name := "walks", desc := "(III)J" } : Jvm.MethodName)) ∈ aw_WS := aw_in (List.mem_of_getElem? (i := 403) rfl) rfl
set_option maxRecDepth 100000 in
theorem k_381 : (Jvm.Cond.instanceMethod ({ cls := "WalkRanks", name := "walks", desc := "(III)J" } : Jvm.MethodName)) ∈ aw_WS := aw_in (List.mem_of_getElem? (i := 404) rfl) rfl
set_option maxRecDepth 100000 in
theorem k_382 : (Jvm.Cond.selects "WalkRanks" ({ cls := "WalkRanks", name := "walks", desc := "(III)J" } : Jvm.MethodName) ({ cls := "WalkRanks", name := "walks", desc := "(III)J" } : Jvm.MethodName)) ∈ aw_WS := aw_in (List.mem_of_getElem? (i := 405) rfl) rfl
set_option maxRecDepth 100000 in
theorem k_383 : (Jvm.Cond.code ({ cls := "WalkRanks", name := "walks", desc := "(III)J" } : Jvm.MethodName) prog_1_method_19_code (4 : Nat) (Option.some Jvm.ClassFile.FieldType.long)) ∈ aw_WS := aw_in (List.mem_of_getElem? (i := 406) rfl) rfl
set_option maxRecDepth 100000 in
theorem k_384 : (Jvm.Cond.methodLink "WalkRanks" (162 : Nat) ({ cls := "WalkRanks$Spread", name := "fillByWeights", desc := "(LWalkRanks$Graph;)V" } : Jvm.MethodName)) ∈ aw_WS := aw_in (List.mem_of_getElem? (i := 407) rfl) rfl
set_option maxRecDepth 100000 in
theorem k_385 : (Jvm.Cond.instanceMethod ({ cls := "WalkRanks$Spread", name := "fillByWeights", desc := "(LWalkRanks$Graph;)V" } : Jvm.MethodName)) ∈ aw_WS := aw_in (List.mem_of_getElem? (i := 408) rfl) rfl
set_option maxRecDepth 100000 in
theorem k_386 : (Jvm.Cond.selects "WalkRanks$Spread" ({ cls := "WalkRanks$Spread", name := "fillByWeights", desc := "(LWalkRanks$Graph;)V" } : Jvm.MethodName) ({ cls := "WalkRanks$Spread", name := "fillByWeights", desc := "(LWalkRanks$Graph;)V" } : Jvm.MethodName)) ∈ aw_WS := aw_in (List.mem_of_getElem? (i := 409) rfl) rfl
set_option maxRecDepth 100000 in
theorem k_387 : (Jvm.Cond.code ({ cls := "WalkRanks$Spread", name := "fillByWeights", desc := "(LWalkRanks$Graph;)V" } : Jvm.MethodName) prog_5_method_2_code (4 : Nat) (Option.none : Option Jvm.ClassFile.FieldType)) ∈ aw_WS := aw_in (List.mem_of_getElem? (i := 410) rfl) rfl
set_option maxRecDepth 100000 in
theorem k_388 : (Jvm.Cond.methodLink "WalkRanksLaw" (92 : Nat) ({ cls := "WalkRanks", name := "drawn", desc := "(III)I" } : Jvm.MethodName)) ∈ aw_WS := aw_in (List.mem_of_getElem? (i := 411) rfl) rfl
set_option maxRecDepth 100000 in
theorem k_389 : (Jvm.Cond.instanceMethod ({ cls := "WalkRanks", name := "drawn", desc := "(III)I" } : Jvm.MethodName)) ∈ aw_WS := aw_in (List.mem_of_getElem? (i := 412) rfl) rfl
set_option maxRecDepth 100000 in
theorem k_390 : (Jvm.Cond.selects "WalkRanks" ({ cls := "WalkRanks", name := "drawn", desc := "(III)I" } : Jvm.MethodName) ({ cls := "WalkRanks", name := "drawn", desc := "(III)I" } : Jvm.MethodName)) ∈ aw_WS := aw_in (List.mem_of_getElem? (i := 413) rfl) rfl
set_option maxRecDepth 100000 in
theorem k_391 : (Jvm.Cond.code ({ cls := "WalkRanks", name := "drawn", desc := "(III)I" } : Jvm.MethodName) prog_1_method_20_code (7 : Nat) (Option.some Jvm.ClassFile.FieldType.int)) ∈ aw_WS := aw_in (List.mem_of_getElem? (i := 414) rfl) rfl
set_option maxRecDepth 100000 in
theorem k_392 : (Jvm.Cond.constant "WalkRanks" (166 : Nat) (1664525 : Int32)) ∈ aw_WS := aw_in (List.mem_of_getElem? (i := 415) rfl) rfl
set_option maxRecDepth 100000 in
theorem k_393 : (Jvm.Cond.constant "WalkRanks" (167 : Nat) (1013904223 : Int32)) ∈ aw_WS := aw_in (List.mem_of_getElem? (i := 416) rfl) rfl
set_option maxRecDepth 100000 in
theorem k_394 : (Jvm.Cond.methodLink "WalkRanks" (168 : Nat) ({ cls := "WalkRanks$Steps", name := "nextNode", desc := "(II)I" } : Jvm.MethodName)) ∈ aw_WS := aw_in (List.mem_of_getElem? (i := 417) rfl) rfl
set_option maxRecDepth 100000 in
theorem k_395 : (Jvm.Cond.instanceMethod ({ cls := "WalkRanks$Steps", name := "nextNode", desc := "(II)I" } : Jvm.MethodName)) ∈ aw_WS := aw_in (List.mem_of_getElem? (i := 418) rfl) rfl
set_option maxRecDepth 100000 in
theorem k_396 : (Jvm.Cond.selects "WalkRanks$Steps" ({ cls := "WalkRanks$Steps", name := "nextNode", desc := "(II)I" } : Jvm.MethodName) ({ cls := "WalkRanks$Steps", name := "nextNode", desc := "(II)I" } : Jvm.MethodName)) ∈ aw_WS := aw_in (List.mem_of_getElem? (i := 419) rfl) rfl
set_option maxRecDepth 100000 in
theorem k_397 : (Jvm.Cond.code ({ cls := "WalkRanks$Steps", name := "nextNode", desc := "(II)I" } : Jvm.MethodName) prog_6_method_10_code (5 : Nat) (Option.some Jvm.ClassFile.FieldType.int)) ∈ aw_WS := aw_in (List.mem_of_getElem? (i := 420) rfl) rfl
set_option maxRecDepth 100000 in
theorem k_398 : (Jvm.Cond.classLink "WalkRanksLaw" (10 : Nat) "WalkRanksModel") ∈ aw_WS := aw_in (List.mem_of_getElem? (i := 421) rfl) rfl
set_option maxRecDepth 100000 in
theorem k_399 : (Jvm.Cond.instantiable "WalkRanksModel" (17 : Nat)) ∈ aw_WS := aw_in (List.mem_of_getElem? (i := 422) rfl) rfl
set_option maxRecDepth 100000 in
theorem k_400 : (Jvm.Cond.methodLink "WalkRanksLaw" (12 : Nat) ({ cls := "WalkRanksModel", name := "<init>", desc := "()V" } : Jvm.MethodName)) ∈ aw_WS := aw_in (List.mem_of_getElem? (i := 423) rfl) rfl
set_option maxRecDepth 100000 in
theorem k_401 : (Jvm.Cond.instanceMethod ({ cls := "WalkRanksModel", name := "<init>", desc := "()V" } : Jvm.MethodName)) ∈ aw_WS := aw_in (List.mem_of_getElem? (i := 424) rfl) rfl
set_option maxRecDepth 100000 in
theorem k_402 : (Jvm.Cond.code ({ cls := "WalkRanksModel", name := "<init>", desc := "()V" } : Jvm.MethodName) prog_8_method_1_code (1 : Nat) (Option.none : Option Jvm.ClassFile.FieldType)) ∈ aw_WS := aw_in (List.mem_of_getElem? (i := 425) rfl) rfl
set_option maxRecDepth 100000 in
theorem k_403 : (Jvm.Cond.methodLink "WalkRanksModel" (1 : Nat) ({ cls := "java/lang/Object", name := "<init>", desc := "()V" } : Jvm.MethodName)) ∈ aw_WS := aw_in (List.mem_of_getElem? (i := 426) rfl) rfl
set_option maxRecDepth 100000 in
theorem k_404 : (Jvm.Cond.fieldLink "WalkRanksModel" (48 : Nat) "WalkRanksModel" "nodes" "I") ∈ aw_WS := aw_in (List.mem_of_getElem? (i := 427) rfl) rfl
set_option maxRecDepth 100000 in
theorem k_405 : (Jvm.Cond.fieldLink "WalkRanksModel" (7 : Nat) "WalkRanksModel" "weights" "[I") ∈ aw_WS := aw_in (List.mem_of_getElem? (i := 428) rfl) rfl
set_option maxRecDepth 100000 in
theorem k_406 : (Jvm.Cond.fieldLink "WalkRanksModel" (13 : Nat) "WalkRanksModel" "jumps" "[I") ∈ aw_WS := aw_in (List.mem_of_getElem? (i := 429) rfl) rfl
set_option maxRecDepth 100000 in
theorem k_407 : (Jvm.Cond.fieldLink "WalkRanksModel" (16 : Nat) "WalkRanksModel" "above" "I") ∈ aw_WS := aw_in (List.mem_of_getElem? (i := 430) rfl) rfl
set_option maxRecDepth 100000 in
theorem k_408 : (Jvm.Cond.fieldLink "WalkRanksModel" (20 : Nat) "WalkRanksModel" "below" "I") ∈ aw_WS := aw_in (List.mem_of_getElem? (i := 431) rfl) rfl
set_option maxRecDepth 100000 in
theorem k_409 : (Jvm.Cond.fieldLink "WalkRanksModel" (23 : Nat) "WalkRanksModel" "row" "[I") ∈ aw_WS := aw_in (List.mem_of_getElem? (i := 432) rfl) rfl
set_option maxRecDepth 100000 in
theorem k_410 : (Jvm.Cond.fieldLink "WalkRanksModel" (26 : Nat) "WalkRanksModel" "total" "[I") ∈ aw_WS := aw_in (List.mem_of_getElem? (i := 433) rfl) rfl
set_option maxRecDepth 100000 in
theorem k_411 : (Jvm.Cond.fieldLink "WalkRanksModel" (70 : Nat) "WalkRanksModel" "sets" "I") ∈ aw_WS := aw_in (List.mem_of_getElem? (i := 434) rfl) rfl
set_option maxRecDepth 100000 in
theorem k_412 : (Jvm.Cond.fieldLink "WalkRanksModel" (29 : Nat) "WalkRanksModel" "setOf" "[I") ∈ aw_WS := aw_in (List.mem_of_getElem? (i := 435) rfl) rfl
set_option maxRecDepth 100000 in
theorem k_413 : (Jvm.Cond.fieldLink "WalkRanksModel" (32 : Nat) "WalkRanksModel" "bitsOf" "[I") ∈ aw_WS := aw_in (List.mem_of_getElem? (i := 436) rfl) rfl
set_option maxRecDepth 100000 in
theorem k_414 : (Jvm.Cond.fieldLink "WalkRanksModel" (79 : Nat) "WalkRanksModel" "forests" "J") ∈ aw_WS := aw_in (List.mem_of_getElem? (i := 437) rfl) rfl
set_option maxRecDepth 100000 in
theorem k_415 : (Jvm.Cond.fieldLink "WalkRanksModel" (83 : Nat) "WalkRanksModel" "toward" "J") ∈ aw_WS := aw_in (List.mem_of_getElem? (i := 438) rfl) rfl
set_option maxRecDepth 100000 in
theorem k_416 : (Jvm.Cond.fieldLink "WalkRanksModel" (35 : Nat) "WalkRanksModel" "step" "[I") ∈ aw_WS := aw_in (List.mem_of_getElem? (i := 439) rfl) rfl
set_option maxRecDepth 100000 in
theorem k_417 : (Jvm.Cond.fieldLink "WalkRanksModel" (38 : Nat) "WalkRanksModel" "shares" "[J") ∈ aw_WS := aw_in (List.mem_of_getElem? (i := 440) rfl) rfl
set_option maxRecDepth 100000 in
theorem k_418 : (Jvm.Cond.fieldLink "WalkRanksModel" (89 : Nat) "WalkRanksModel" "shareSum" "J") ∈ aw_WS := aw_in (List.mem_of_getElem? (i := 441) rfl) rfl
set_option maxRecDepth 100000 in
theorem k_419 : (Jvm.Cond.fieldLink "WalkRanksModel" (42 : Nat) "WalkRanksModel" "now" "[J") ∈ aw_WS := aw_in (List.mem_of_getElem? (i := 442) rfl) rfl
set_option maxRecDepth 100000 in
theorem k_420 : (Jvm.Cond.fieldLink "WalkRanksModel" (45 : Nat) "WalkRanksModel" "then" "[J") ∈ aw_WS := aw_in (List.mem_of_getElem? (i := 443) rfl) rfl
set_option maxRecDepth 100000 in
theorem k_421 : (Jvm.Cond.lays "WalkRanksModel" "WalkRanksModel" "nodes" "I") ∈ aw_WS := aw_in (List.mem_of_getElem? (i := 444) rfl) rfl
set_option maxRecDepth 100000 in
theorem k_422 : (Jvm.Cond.soleField "WalkRanksModel" "nodes") ∈ aw_WS := aw_in (List.mem_of_getElem? (i := 445) rfl) rfl
set_option maxRecDepth 100000 in
theorem k_423 : (Jvm.Cond.laysFinal "WalkRanksModel" "WalkRanksModel" "weights" "[I") ∈ aw_WS := aw_in (List.mem_of_getElem? (i := 446) rfl) rfl
set_option maxRecDepth 100000 in
theorem k_424 : (Jvm.Cond.soleField "WalkRanksModel" "weights") ∈ aw_WS := aw_in (List.mem_of_getElem? (i := 447) rfl) rfl
set_option maxRecDepth 100000 in
theorem k_425 : (Jvm.Cond.laysFinal "WalkRanksModel" "WalkRanksModel" "jumps" "[I") ∈ aw_WS := aw_in (List.mem_of_getElem? (i := 448) rfl) rfl
set_option maxRecDepth 100000 in
theorem k_426 : (Jvm.Cond.soleField "WalkRanksModel" "jumps") ∈ aw_WS := aw_in (List.mem_of_getElem? (i := 449) rfl) rfl
set_option maxRecDepth 100000 in
theorem k_427 : (Jvm.Cond.lays "WalkRanksModel" "WalkRanksModel" "above" "I") ∈ aw_WS := aw_in (List.mem_of_getElem? (i := 450) rfl) rfl
set_option maxRecDepth 100000 in
theorem k_428 : (Jvm.Cond.soleField "WalkRanksModel" "above") ∈ aw_WS := aw_in (List.mem_of_getElem? (i := 451) rfl) rfl
set_option maxRecDepth 100000 in
theorem k_429 : (Jvm.Cond.lays "WalkRanksModel" "WalkRanksModel" "below" "I") ∈ aw_WS := aw_in (List.mem_of_getElem? (i := 452) rfl) rfl
set_option maxRecDepth 100000 in
theorem k_430 : (Jvm.Cond.soleField "WalkRanksModel" "below") ∈ aw_WS := aw_in (List.mem_of_getElem? (i := 453) rfl) rfl
set_option maxRecDepth 100000 in
theorem k_431 : (Jvm.Cond.laysFinal "WalkRanksModel" "WalkRanksModel" "row" "[I") ∈ aw_WS := aw_in (List.mem_of_getElem? (i := 454) rfl) rfl
set_option maxRecDepth 100000 in
theorem k_432 : (Jvm.Cond.soleField "WalkRanksModel" "row") ∈ aw_WS := aw_in (List.mem_of_getElem? (i := 455) rfl) rfl
set_option maxRecDepth 100000 in
theorem k_433 : (Jvm.Cond.laysFinal "WalkRanksModel" "WalkRanksModel" "total" "[I") ∈ aw_WS := aw_in (List.mem_of_getElem? (i := 456) rfl) rfl
set_option maxRecDepth 100000 in
theorem k_434 : (Jvm.Cond.soleField "WalkRanksModel" "total") ∈ aw_WS := aw_in (List.mem_of_getElem? (i := 457) rfl) rfl
set_option maxRecDepth 100000 in
theorem k_435 : (Jvm.Cond.lays "WalkRanksModel" "WalkRanksModel" "sets" "I") ∈ aw_WS := aw_in (List.mem_of_getElem? (i := 458) rfl) rfl
set_option maxRecDepth 100000 in
theorem k_436 : (Jvm.Cond.soleField "WalkRanksModel" "sets") ∈ aw_WS := aw_in (List.mem_of_getElem? (i := 459) rfl) rfl
set_option maxRecDepth 100000 in
theorem k_437 : (Jvm.Cond.laysFinal "WalkRanksModel" "WalkRanksModel" "setOf" "[I") ∈ aw_WS := aw_in (List.mem_of_getElem? (i := 460) rfl) rfl
set_option maxRecDepth 100000 in
theorem k_438 : (Jvm.Cond.soleField "WalkRanksModel" "setOf") ∈ aw_WS := aw_in (List.mem_of_getElem? (i := 461) rfl) rfl
set_option maxRecDepth 100000 in
theorem k_439 : (Jvm.Cond.laysFinal "WalkRanksModel" "WalkRanksModel" "bitsOf" "[I") ∈ aw_WS := aw_in (List.mem_of_getElem? (i := 462) rfl) rfl
set_option maxRecDepth 100000 in
theorem k_440 : (Jvm.Cond.soleField "WalkRanksModel" "bitsOf") ∈ aw_WS := aw_in (List.mem_of_getElem? (i := 463) rfl) rfl
set_option maxRecDepth 100000 in
theorem k_441 : (Jvm.Cond.lays "WalkRanksModel" "WalkRanksModel" "forests" "J") ∈ aw_WS := aw_in (List.mem_of_getElem? (i := 464) rfl) rfl
set_option maxRecDepth 100000 in
theorem k_442 : (Jvm.Cond.soleField "WalkRanksModel" "forests") ∈ aw_WS := aw_in (List.mem_of_getElem? (i := 465) rfl) rfl
set_option maxRecDepth 100000 in
theorem k_443 : (Jvm.Cond.lays "WalkRanksModel" "WalkRanksModel" "toward" "J") ∈ aw_WS := aw_in (List.mem_of_getElem? (i := 466) rfl) rfl
set_option maxRecDepth 100000 in
theorem k_444 : (Jvm.Cond.soleField "WalkRanksModel" "toward") ∈ aw_WS := aw_in (List.mem_of_getElem? (i := 467) rfl) rfl
set_option maxRecDepth 100000 in
theorem k_445 : (Jvm.Cond.laysFinal "WalkRanksModel" "WalkRanksModel" "step" "[I") ∈ aw_WS := aw_in (List.mem_of_getElem? (i := 468) rfl) rfl
set_option maxRecDepth 100000 in
theorem k_446 : (Jvm.Cond.soleField "WalkRanksModel" "step") ∈ aw_WS := aw_in (List.mem_of_getElem? (i := 469) rfl) rfl
set_option maxRecDepth 100000 in
theorem k_447 : (Jvm.Cond.laysFinal "WalkRanksModel" "WalkRanksModel" "shares" "[J") ∈ aw_WS := aw_in (List.mem_of_getElem? (i := 470) rfl) rfl
set_option maxRecDepth 100000 in
theorem k_448 : (Jvm.Cond.soleField "WalkRanksModel" "shares") ∈ aw_WS := aw_in (List.mem_of_getElem? (i := 471) rfl) rfl
set_option maxRecDepth 100000 in
theorem k_449 : (Jvm.Cond.lays "WalkRanksModel" "WalkRanksModel" "shareSum" "J") ∈ aw_WS := aw_in (List.mem_of_getElem? (i := 472) rfl) rfl
set_option maxRecDepth 100000 in
theorem k_450 : (Jvm.Cond.soleField "WalkRanksModel" "shareSum") ∈ aw_WS := aw_in (List.mem_of_getElem? (i := 473) rfl) rfl
set_option maxRecDepth 100000 in
theorem k_451 : (Jvm.Cond.laysFinal "WalkRanksModel" "WalkRanksModel" "now" "[J") ∈ aw_WS := aw_in (List.mem_of_getElem? (i := 474) rfl) rfl
set_option maxRecDepth 100000 in
theorem k_452 : (Jvm.Cond.soleField "WalkRanksModel" "now") ∈ aw_WS := aw_in (List.mem_of_getElem? (i := 475) rfl) rfl
set_option maxRecDepth 100000 in
theorem k_453 : (Jvm.Cond.laysFinal "WalkRanksModel" "WalkRanksModel" "then" "[J") ∈ aw_WS := aw_in (List.mem_of_getElem? (i := 476) rfl) rfl
set_option maxRecDepth 100000 in
theorem k_454 : (Jvm.Cond.soleField "WalkRanksModel" "then") ∈ aw_WS := aw_in (List.mem_of_getElem? (i := 477) rfl) rfl
set_option maxRecDepth 100000 in
theorem k_455 : (Jvm.Cond.superclass "WalkRanksModel" "java/lang/Object") ∈ aw_WS := aw_in (List.mem_of_getElem? (i := 478) rfl) rfl
set_option maxRecDepth 100000 in
theorem k_456 : (Jvm.Cond.methodLink "WalkRanksLaw" (17 : Nat) ({ cls := "WalkRanksModel", name := "node", desc := "()I" } : Jvm.MethodName)) ∈ aw_WS := aw_in (List.mem_of_getElem? (i := 479) rfl) rfl
set_option maxRecDepth 100000 in
theorem k_457 : (Jvm.Cond.instanceMethod ({ cls := "WalkRanksModel", name := "node", desc := "()I" } : Jvm.MethodName)) ∈ aw_WS := aw_in (List.mem_of_getElem? (i := 480) rfl) rfl
set_option maxRecDepth 100000 in
theorem k_458 : (Jvm.Cond.selects "WalkRanksModel" ({ cls := "WalkRanksModel", name := "node", desc := "()I" } : Jvm.MethodName) ({ cls := "WalkRanksModel", name := "node", desc := "()I" } : Jvm.MethodName)) ∈ aw_WS := aw_in (List.mem_of_getElem? (i := 481) rfl) rfl
set_option maxRecDepth 100000 in
theorem k_459 : (Jvm.Cond.code ({ cls := "WalkRanksModel", name := "node", desc := "()I" } : Jvm.MethodName) prog_8_method_3_code (2 : Nat) (Option.some Jvm.ClassFile.FieldType.int)) ∈ aw_WS := aw_in (List.mem_of_getElem? (i := 482) rfl) rfl
set_option maxRecDepth 100000 in
theorem k_460 : (Jvm.Cond.methodLink "WalkRanksLaw" (22 : Nat) ({ cls := "WalkRanksModel", name := "weight", desc := "(III)I" } : Jvm.MethodName)) ∈ aw_WS := aw_in (List.mem_of_getElem? (i := 483) rfl) rfl
set_option maxRecDepth 100000 in
theorem k_461 : (Jvm.Cond.instanceMethod ({ cls := "WalkRanksModel", name := "weight", desc := "(III)I" } : Jvm.MethodName)) ∈ aw_WS := aw_in (List.mem_of_getElem? (i := 484) rfl) rfl
set_option maxRecDepth 100000 in
theorem k_462 : (Jvm.Cond.selects "WalkRanksModel" ({ cls := "WalkRanksModel", name := "weight", desc := "(III)I" } : Jvm.MethodName) ({ cls := "WalkRanksModel", name := "weight", desc := "(III)I" } : Jvm.MethodName)) ∈ aw_WS := aw_in (List.mem_of_getElem? (i := 485) rfl) rfl
set_option maxRecDepth 100000 in
theorem k_463 : (Jvm.Cond.code ({ cls := "WalkRanksModel", name := "weight", desc := "(III)I" } : Jvm.MethodName) prog_8_method_4_code (5 : Nat) (Option.some Jvm.ClassFile.FieldType.int)) ∈ aw_WS := aw_in (List.mem_of_getElem? (i := 486) rfl) rfl
set_option maxRecDepth 100000 in
theorem k_464 : (Jvm.Cond.methodLink "WalkRanksModel" (51 : Nat) ({ cls := "WalkRanksModel", name := "isNode", desc := "(I)Z" } : Jvm.MethodName)) ∈ aw_WS := aw_in (List.mem_of_getElem? (i := 487) rfl) rfl
set_option maxRecDepth 100000 in
theorem k_466 : (Jvm.Cond.instanceMethod ({ cls := "WalkRanksModel", name := "isNode", desc := "(I)Z" } : Jvm.MethodName)) ∈ aw_WS := aw_in (List.mem_of_getElem? (i := 489) rfl) rfl
set_option maxRecDepth 100000 in
theorem k_467 : (Jvm.Cond.code ({ cls := "WalkRanksModel", name := "isNode", desc := "(I)Z" } : Jvm.MethodName) prog_8_method_2_code (2 : Nat) (Option.some Jvm.ClassFile.FieldType.boolean)) ∈ aw_WS := aw_in (List.mem_of_getElem? (i := 490) rfl) rfl
set_option maxRecDepth 100000 in
theorem k_468 : (Jvm.Cond.methodLink "WalkRanksLaw" (27 : Nat) ({ cls := "WalkRanksModel", name := "jump", desc := "(II)I" } : Jvm.MethodName)) ∈ aw_WS := aw_in (List.mem_of_getElem? (i := 491) rfl) rfl
set_option maxRecDepth 100000 in
theorem k_469 : (Jvm.Cond.instanceMethod ({ cls := "WalkRanksModel", name := "jump", desc := "(II)I" } : Jvm.MethodName)) ∈ aw_WS := aw_in (List.mem_of_getElem? (i := 492) rfl) rfl
set_option maxRecDepth 100000 in
theorem k_470 : (Jvm.Cond.selects "WalkRanksModel" ({ cls := "WalkRanksModel", name := "jump", desc := "(II)I" } : Jvm.MethodName) ({ cls := "WalkRanksModel", name := "jump", desc := "(II)I" } : Jvm.MethodName)) ∈ aw_WS := aw_in (List.mem_of_getElem? (i := 493) rfl) rfl
set_option maxRecDepth 100000 in
theorem k_471 : (Jvm.Cond.code ({ cls := "WalkRanksModel", name := "jump", desc := "(II)I" } : Jvm.MethodName) prog_8_method_5_code (4 : Nat) (Option.some Jvm.ClassFile.FieldType.int)) ∈ aw_WS := aw_in (List.mem_of_getElem? (i := 494) rfl) rfl
set_option maxRecDepth 100000 in
theorem k_472 : (Jvm.Cond.methodLink "WalkRanksLaw" (31 : Nat) ({ cls := "WalkRanksModel", name := "keep", desc := "(II)I" } : Jvm.MethodName)) ∈ aw_WS := aw_in (List.mem_of_getElem? (i := 495) rfl) rfl
set_option maxRecDepth 100000 in
theorem k_473 : (Jvm.Cond.instanceMethod ({ cls := "WalkRanksModel", name := "keep", desc := "(II)I" } : Jvm.MethodName)) ∈ aw_WS := aw_in (List.mem_of_getElem? (i := 496) rfl) rfl
set_option maxRecDepth 100000 in
theorem k_474 : (Jvm.Cond.selects "WalkRanksModel" ({ cls := "WalkRanksModel", name := "keep", desc := "(II)I" } : Jvm.MethodName) ({ cls := "WalkRanksModel", name := "keep", desc := "(II)I" } : Jvm.MethodName)) ∈ aw_WS := aw_in (List.mem_of_getElem? (i := 497) rfl) rfl
set_option maxRecDepth 100000 in
theorem k_475 : (Jvm.Cond.code ({ cls := "WalkRanksModel", name := "keep", desc := "(II)I" } : Jvm.MethodName) prog_8_method_6_code (3 : Nat) (Option.some Jvm.ClassFile.FieldType.int)) ∈ aw_WS := aw_in (List.mem_of_getElem? (i := 498) rfl) rfl
set_option maxRecDepth 100000 in
theorem k_476 : (Jvm.Cond.methodLink "WalkRanksLaw" (35 : Nat) ({ cls := "WalkRanksModel", name := "clear", desc := "()I" } : Jvm.MethodName)) ∈ aw_WS := aw_in (List.mem_of_getElem? (i := 499) rfl) rfl
set_option maxRecDepth 100000 in
theorem k_477 : (Jvm.Cond.instanceMethod ({ cls := "WalkRanksModel", name := "clear", desc := "()I" } : Jvm.MethodName)) ∈ aw_WS := aw_in (List.mem_of_getElem? (i := 500) rfl) rfl
set_option maxRecDepth 100000 in
theorem k_478 : (Jvm.Cond.selects "WalkRanksModel" ({ cls := "WalkRanksModel", name := "clear", desc := "()I" } : Jvm.MethodName) ({ cls := "WalkRanksModel", name := "clear", desc := "()I" } : Jvm.MethodName)) ∈ aw_WS := aw_in (List.mem_of_getElem? (i := 501) rfl) rfl
set_option maxRecDepth 100000 in
theorem k_479 : (Jvm.Cond.code ({ cls := "WalkRanksModel", name := "clear", desc := "()I" } : Jvm.MethodName) prog_8_method_7_code (2 : Nat) (Option.some Jvm.ClassFile.FieldType.int)) ∈ aw_WS := aw_in (List.mem_of_getElem? (i := 502) rfl) rfl
set_option maxRecDepth 100000 in
theorem k_480 : (Jvm.Cond.methodLink "WalkRanksLaw" (39 : Nat) ({ cls := "WalkRanksModel", name := "row", desc := "(II)I" } : Jvm.MethodName)) ∈ aw_WS := aw_in (List.mem_of_getElem? (i := 503) rfl) rfl
set_option maxRecDepth 100000 in
theorem k_481 : (Jvm.Cond.instanceMethod ({ cls := "WalkRanksModel", name := "row", desc := "(II)I" } : Jvm.MethodName)) ∈ aw_WS := aw_in (List.mem_of_getElem? (i := 504) rfl) rfl
set_option maxRecDepth 100000 in
theorem k_482 : (Jvm.Cond.selects "WalkRanksModel" ({ cls := "WalkRanksModel", name := "row", desc := "(II)I" } : Jvm.MethodName) ({ cls := "WalkRanksModel", name := "row", desc := "(II)I" } : Jvm.MethodName)) ∈ aw_WS := aw_in (List.mem_of_getElem? (i := 505) rfl) rfl
set_option maxRecDepth 100000 in
theorem k_483 : (Jvm.Cond.code ({ cls := "WalkRanksModel", name := "row", desc := "(II)I" } : Jvm.MethodName) prog_8_method_11_code (3 : Nat) (Option.some Jvm.ClassFile.FieldType.int)) ∈ aw_WS := aw_in (List.mem_of_getElem? (i := 506) rfl) rfl
set_option maxRecDepth 100000 in
theorem k_484 : (Jvm.Cond.methodLink "WalkRanksModel" (59 : Nat) ({ cls := "WalkRanksModel", name := "findRows", desc := "()V" } : Jvm.MethodName)) ∈ aw_WS := aw_in (List.mem_of_getElem? (i := 507) rfl) rfl
set_option maxRecDepth 100000 in
theorem k_486 : (Jvm.Cond.instanceMethod ({ cls := "WalkRanksModel", name := "findRows", desc := "()V" } : Jvm.MethodName)) ∈ aw_WS := aw_in (List.mem_of_getElem? (i := 509) rfl) rfl
set_option maxRecDepth 100000 in
theorem k_487 : (Jvm.Cond.code ({ cls := "WalkRanksModel", name := "findRows", desc := "()V" } : Jvm.MethodName) prog_8_method_10_code (9 : Nat) (Option.none : Option Jvm.ClassFile.FieldType)) ∈ aw_WS := aw_in (List.mem_of_getElem? (i := 510) rfl) rfl
set_option maxRecDepth 100000 in
theorem k_488 : (Jvm.Cond.methodLink "WalkRanksModel" (55 : Nat) ({ cls := "WalkRanksModel", name := "common", desc := "(JJ)J" } : Jvm.MethodName)) ∈ aw_WS := aw_in (List.mem_of_getElem? (i := 511) rfl) rfl
set_option maxRecDepth 100000 in
theorem k_489 : (Jvm.Cond.static ({ cls := "WalkRanksModel", name := "common", desc := "(JJ)J" } : Jvm.MethodName)) ∈ aw_WS := aw_in (List.mem_of_getElem? (i := 512) rfl) rfl
set_option maxRecDepth 100000 in
theorem k_490 : (Jvm.Cond.code ({ cls := "WalkRanksModel", name := "common", desc := "(JJ)J" } : Jvm.MethodName) prog_8_method_8_code (10 : Nat) (Option.some Jvm.ClassFile.FieldType.long)) ∈ aw_WS := aw_in (List.mem_of_getElem? (i := 513) rfl) rfl
set_option maxRecDepth 100000 in
theorem k_491 : (Jvm.Cond.methodLink "WalkRanksLaw" (44 : Nat) ({ cls := "WalkRanksModel", name := "total", desc := "(I)I" } : Jvm.MethodName)) ∈ aw_WS := aw_in (List.mem_of_getElem? (i := 514) rfl) rfl
set_option maxRecDepth 100000 in
theorem k_492 : (Jvm.Cond.instanceMethod ({ cls := "WalkRanksModel", name := "total", desc := "(I)I" } : Jvm.MethodName)) ∈ aw_WS := aw_in (List.mem_of_getElem? (i := 515) rfl) rfl
set_option maxRecDepth 100000 in
theorem k_493 : (Jvm.Cond.selects "WalkRanksModel" ({ cls := "WalkRanksModel", name := "total", desc := "(I)I" } : Jvm.MethodName) ({ cls := "WalkRanksModel", name := "total", desc := "(I)I" } : Jvm.MethodName)) ∈ aw_WS := aw_in (List.mem_of_getElem? (i := 516) rfl) rfl
set_option maxRecDepth 100000 in
theorem k_494 : (Jvm.Cond.code ({ cls := "WalkRanksModel", name := "total", desc := "(I)I" } : Jvm.MethodName) prog_8_method_12_code (2 : Nat) (Option.some Jvm.ClassFile.FieldType.int)) ∈ aw_WS := aw_in (List.mem_of_getElem? (i := 517) rfl) rfl
set_option maxRecDepth 100000 in
theorem k_495 : (Jvm.Cond.methodLink "WalkRanksLaw" (48 : Nat) ({ cls := "WalkRanksModel", name := "closed", desc := "()I" } : Jvm.MethodName)) ∈ aw_WS := aw_in (List.mem_of_getElem? (i := 518) rfl) rfl
set_option maxRecDepth 100000 in
theorem k_496 : (Jvm.Cond.instanceMethod ({ cls := "WalkRanksModel", name := "closed", desc := "()I" } : Jvm.MethodName)) ∈ aw_WS := aw_in (List.mem_of_getElem? (i := 519) rfl) rfl
set_option maxRecDepth 100000 in
theorem k_497 : (Jvm.Cond.selects "WalkRanksModel" ({ cls := "WalkRanksModel", name := "closed", desc := "()I" } : Jvm.MethodName) ({ cls := "WalkRanksModel", name := "closed", desc := "()I" } : Jvm.MethodName)) ∈ aw_WS := aw_in (List.mem_of_getElem? (i := 520) rfl) rfl
set_option maxRecDepth 100000 in
theorem k_498 : (Jvm.Cond.code ({ cls := "WalkRanksModel", name := "closed", desc := "()I" } : Jvm.MethodName) prog_8_method_17_code (1 : Nat) (Option.some Jvm.ClassFile.FieldType.int)) ∈ aw_WS := aw_in (List.mem_of_getElem? (i := 521) rfl) rfl
set_option maxRecDepth 100000 in
theorem k_499 : (Jvm.Cond.methodLink "WalkRanksModel" (76 : Nat) ({ cls := "WalkRanksModel", name := "findSets", desc := "()V" } : Jvm.MethodName)) ∈ aw_WS := aw_in (List.mem_of_getElem? (i := 522) rfl) rfl
set_option maxRecDepth 100000 in
theorem k_501 : (Jvm.Cond.instanceMethod ({ cls := "WalkRanksModel", name := "findSets", desc := "()V" } : Jvm.MethodName)) ∈ aw_WS := aw_in (List.mem_of_getElem? (i := 524) rfl) rfl
set_option maxRecDepth 100000 in
theorem k_502 : (Jvm.Cond.code ({ cls := "WalkRanksModel", name := "findSets", desc := "()V" } : Jvm.MethodName) prog_8_method_16_code (4 : Nat) (Option.none : Option Jvm.ClassFile.FieldType)) ∈ aw_WS := aw_in (List.mem_of_getElem? (i := 525) rfl) rfl
set_option maxRecDepth 100000 in
theorem k_503 : (Jvm.Cond.methodLink "WalkRanksModel" (73 : Nat) ({ cls := "WalkRanksModel", name := "isClosed", desc := "(I)Z" } : Jvm.MethodName)) ∈ aw_WS := aw_in (List.mem_of_getElem? (i := 526) rfl) rfl
set_option maxRecDepth 100000 in
theorem k_505 : (Jvm.Cond.instanceMethod ({ cls := "WalkRanksModel", name := "isClosed", desc := "(I)Z" } : Jvm.MethodName)) ∈ aw_WS := aw_in (List.mem_of_getElem? (i := 528) rfl) rfl
set_option maxRecDepth 100000 in
theorem k_506 : (Jvm.Cond.code ({ cls := "WalkRanksModel", name := "isClosed", desc := "(I)Z" } : Jvm.MethodName) prog_8_method_15_code (5 : Nat) (Option.some Jvm.ClassFile.FieldType.boolean)) ∈ aw_WS := aw_in (List.mem_of_getElem? (i := 529) rfl) rfl
set_option maxRecDepth 100000 in
theorem k_507 : (Jvm.Cond.methodLink "WalkRanksModel" (62 : Nat) ({ cls := "WalkRanksModel", name := "reached", desc := "(II)I" } : Jvm.MethodName)) ∈ aw_WS := aw_in (List.mem_of_getElem? (i := 530) rfl) rfl
set_option maxRecDepth 100000 in
theorem k_509 : (Jvm.Cond.instanceMethod ({ cls := "WalkRanksModel", name := "reached", desc := "(II)I" } : Jvm.MethodName)) ∈ aw_WS := aw_in (List.mem_of_getElem? (i := 532) rfl) rfl
set_option maxRecDepth 100000 in
theorem k_510 : (Jvm.Cond.code ({ cls := "WalkRanksModel", name := "reached", desc := "(II)I" } : Jvm.MethodName) prog_8_method_13_code (7 : Nat) (Option.some Jvm.ClassFile.FieldType.int)) ∈ aw_WS := aw_in (List.mem_of_getElem? (i := 533) rfl) rfl
set_option maxRecDepth 100000 in
theorem k_511 : (Jvm.Cond.methodLink "WalkRanksModel" (66 : Nat) ({ cls := "WalkRanksModel", name := "leads", desc := "(II)Z" } : Jvm.MethodName)) ∈ aw_WS := aw_in (List.mem_of_getElem? (i := 534) rfl) rfl
set_option maxRecDepth 100000 in
theorem k_513 : (Jvm.Cond.instanceMethod ({ cls := "WalkRanksModel", name := "leads", desc := "(II)Z" } : Jvm.MethodName)) ∈ aw_WS := aw_in (List.mem_of_getElem? (i := 536) rfl) rfl
set_option maxRecDepth 100000 in
theorem k_514 : (Jvm.Cond.code ({ cls := "WalkRanksModel", name := "leads", desc := "(II)Z" } : Jvm.MethodName) prog_8_method_14_code (3 : Nat) (Option.some Jvm.ClassFile.FieldType.boolean)) ∈ aw_WS := aw_in (List.mem_of_getElem? (i := 537) rfl) rfl
set_option maxRecDepth 100000 in
theorem k_515 : (Jvm.Cond.methodLink "WalkRanksLaw" (52 : Nat) ({ cls := "WalkRanksModel", name := "closedOf", desc := "(I)I" } : Jvm.MethodName)) ∈ aw_WS := aw_in (List.mem_of_getElem? (i := 538) rfl) rfl
set_option maxRecDepth 100000 in
theorem k_516 : (Jvm.Cond.instanceMethod ({ cls := "WalkRanksModel", name := "closedOf", desc := "(I)I" } : Jvm.MethodName)) ∈ aw_WS := aw_in (List.mem_of_getElem? (i := 539) rfl) rfl
set_option maxRecDepth 100000 in
theorem k_517 : (Jvm.Cond.selects "WalkRanksModel" ({ cls := "WalkRanksModel", name := "closedOf", desc := "(I)I" } : Jvm.MethodName) ({ cls := "WalkRanksModel", name := "closedOf", desc := "(I)I" } : Jvm.MethodName)) ∈ aw_WS := aw_in (List.mem_of_getElem? (i := 540) rfl) rfl
set_option maxRecDepth 100000 in
theorem k_518 : (Jvm.Cond.code ({ cls := "WalkRanksModel", name := "closedOf", desc := "(I)I" } : Jvm.MethodName) prog_8_method_18_code (2 : Nat) (Option.some Jvm.ClassFile.FieldType.int)) ∈ aw_WS := aw_in (List.mem_of_getElem? (i := 541) rfl) rfl
set_option maxRecDepth 100000 in
theorem k_519 : (Jvm.Cond.methodLink "WalkRanksLaw" (56 : Nat) ({ cls := "WalkRanksModel", name := "period", desc := "(I)I" } : Jvm.MethodName)) ∈ aw_WS := aw_in (List.mem_of_getElem? (i := 542) rfl) rfl
set_option maxRecDepth 100000 in
theorem k_520 : (Jvm.Cond.instanceMethod ({ cls := "WalkRanksModel", name := "period", desc := "(I)I" } : Jvm.MethodName)) ∈ aw_WS := aw_in (List.mem_of_getElem? (i := 543) rfl) rfl
set_option maxRecDepth 100000 in
theorem k_521 : (Jvm.Cond.selects "WalkRanksModel" ({ cls := "WalkRanksModel", name := "period", desc := "(I)I" } : Jvm.MethodName) ({ cls := "WalkRanksModel", name := "period", desc := "(I)I" } : Jvm.MethodName)) ∈ aw_WS := aw_in (List.mem_of_getElem? (i := 544) rfl) rfl
set_option maxRecDepth 100000 in
theorem k_522 : (Jvm.Cond.code ({ cls := "WalkRanksModel", name := "period", desc := "(I)I" } : Jvm.MethodName) prog_8_method_19_code (10 : Nat) (Option.some Jvm.ClassFile.FieldType.int)) ∈ aw_WS := aw_in (List.mem_of_getElem? (i := 545) rfl) rfl
set_option maxRecDepth 100000 in
theorem k_523 : (Jvm.Cond.methodLink "WalkRanksLaw" (61 : Nat) ({ cls := "WalkRanksModel", name := "rank", desc := "(II)J" } : Jvm.MethodName)) ∈ aw_WS := aw_in (List.mem_of_getElem? (i := 546) rfl) rfl
set_option maxRecDepth 100000 in
theorem k_524 : (Jvm.Cond.instanceMethod ({ cls := "WalkRanksModel", name := "rank", desc := "(II)J" } : Jvm.MethodName)) ∈ aw_WS := aw_in (List.mem_of_getElem? (i := 547) rfl) rfl
set_option maxRecDepth 100000 in
theorem k_525 : (Jvm.Cond.selects "WalkRanksModel" ({ cls := "WalkRanksModel", name := "rank", desc := "(II)J" } : Jvm.MethodName) ({ cls := "WalkRanksModel", name := "rank", desc := "(II)J" } : Jvm.MethodName)) ∈ aw_WS := aw_in (List.mem_of_getElem? (i := 548) rfl) rfl
set_option maxRecDepth 100000 in
theorem k_526 : (Jvm.Cond.code ({ cls := "WalkRanksModel", name := "rank", desc := "(II)J" } : Jvm.MethodName) prog_8_method_25_code (3 : Nat) (Option.some Jvm.ClassFile.FieldType.long)) ∈ aw_WS := aw_in (List.mem_of_getElem? (i := 549) rfl) rfl
set_option maxRecDepth 100000 in
theorem k_527 : (Jvm.Cond.constantLong "WalkRanksModel" (96 : Nat) (-1 : Int64)) ∈ aw_WS := aw_in (List.mem_of_getElem? (i := 550) rfl) rfl
set_option maxRecDepth 100000 in
theorem k_528 : (Jvm.Cond.methodLink "WalkRanksModel" (98 : Nat) ({ cls := "WalkRanksModel", name := "isPart", desc := "(I)Z" } : Jvm.MethodName)) ∈ aw_WS := aw_in (List.mem_of_getElem? (i := 551) rfl) rfl
set_option maxRecDepth 100000 in
theorem k_529 : (Jvm.Cond.static ({ cls := "WalkRanksModel", name := "isPart", desc := "(I)Z" } : Jvm.MethodName)) ∈ aw_WS := aw_in (List.mem_of_getElem? (i := 552) rfl) rfl
set_option maxRecDepth 100000 in
theorem k_530 : (Jvm.Cond.code ({ cls := "WalkRanksModel", name := "isPart", desc := "(I)Z" } : Jvm.MethodName) prog_8_method_24_code (1 : Nat) (Option.some Jvm.ClassFile.FieldType.boolean)) ∈ aw_WS := aw_in (List.mem_of_getElem? (i := 553) rfl) rfl
set_option maxRecDepth 100000 in
theorem k_531 : (Jvm.Cond.constantLong "WalkRanksModel" (101 : Nat) (-2 : Int64)) ∈ aw_WS := aw_in (List.mem_of_getElem? (i := 554) rfl) rfl
set_option maxRecDepth 100000 in
theorem k_532 : (Jvm.Cond.constantLong "WalkRanksModel" (103 : Nat) (-3 : Int64)) ∈ aw_WS := aw_in (List.mem_of_getElem? (i := 555) rfl) rfl
set_option maxRecDepth 100000 in
theorem k_533 : (Jvm.Cond.methodLink "WalkRanksModel" (105 : Nat) ({ cls := "WalkRanksModel", name := "findShares", desc := "(I)V" } : Jvm.MethodName)) ∈ aw_WS := aw_in (List.mem_of_getElem? (i := 556) rfl) rfl
set_option maxRecDepth 100000 in
theorem k_535 : (Jvm.Cond.instanceMethod ({ cls := "WalkRanksModel", name := "findShares", desc := "(I)V" } : Jvm.MethodName)) ∈ aw_WS := aw_in (List.mem_of_getElem? (i := 558) rfl) rfl
set_option maxRecDepth 100000 in
theorem k_536 : (Jvm.Cond.code ({ cls := "WalkRanksModel", name := "findShares", desc := "(I)V" } : Jvm.MethodName) prog_8_method_23_code (3 : Nat) (Option.none : Option Jvm.ClassFile.FieldType)) ∈ aw_WS := aw_in (List.mem_of_getElem? (i := 559) rfl) rfl
set_option maxRecDepth 100000 in
theorem k_537 : (Jvm.Cond.methodLink "WalkRanksModel" (92 : Nat) ({ cls := "WalkRanksModel", name := "count", desc := "(IIII)V" } : Jvm.MethodName)) ∈ aw_WS := aw_in (List.mem_of_getElem? (i := 560) rfl) rfl
set_option maxRecDepth 100000 in
theorem k_539 : (Jvm.Cond.instanceMethod ({ cls := "WalkRanksModel", name := "count", desc := "(IIII)V" } : Jvm.MethodName)) ∈ aw_WS := aw_in (List.mem_of_getElem? (i := 562) rfl) rfl
set_option maxRecDepth 100000 in
theorem k_540 : (Jvm.Cond.code ({ cls := "WalkRanksModel", name := "count", desc := "(IIII)V" } : Jvm.MethodName) prog_8_method_21_code (12 : Nat) (Option.none : Option Jvm.ClassFile.FieldType)) ∈ aw_WS := aw_in (List.mem_of_getElem? (i := 563) rfl) rfl
set_option maxRecDepth 100000 in
theorem k_541 : (Jvm.Cond.methodLink "WalkRanksModel" (86 : Nat) ({ cls := "WalkRanksModel", name := "rootOf", desc := "(II)I" } : Jvm.MethodName)) ∈ aw_WS := aw_in (List.mem_of_getElem? (i := 564) rfl) rfl
set_option maxRecDepth 100000 in
theorem k_543 : (Jvm.Cond.instanceMethod ({ cls := "WalkRanksModel", name := "rootOf", desc := "(II)I" } : Jvm.MethodName)) ∈ aw_WS := aw_in (List.mem_of_getElem? (i := 566) rfl) rfl
set_option maxRecDepth 100000 in
theorem k_544 : (Jvm.Cond.code ({ cls := "WalkRanksModel", name := "rootOf", desc := "(II)I" } : Jvm.MethodName) prog_8_method_20_code (5 : Nat) (Option.some Jvm.ClassFile.FieldType.int)) ∈ aw_WS := aw_in (List.mem_of_getElem? (i := 567) rfl) rfl
set_option maxRecDepth 100000 in
theorem k_545 : (Jvm.Cond.methodLink "WalkRanksModel" (109 : Nat) ({ cls := "WalkRanksModel", name := "lowest", desc := "(JJI)J" } : Jvm.MethodName)) ∈ aw_WS := aw_in (List.mem_of_getElem? (i := 568) rfl) rfl
set_option maxRecDepth 100000 in
theorem k_546 : (Jvm.Cond.static ({ cls := "WalkRanksModel", name := "lowest", desc := "(JJI)J" } : Jvm.MethodName)) ∈ aw_WS := aw_in (List.mem_of_getElem? (i := 569) rfl) rfl
set_option maxRecDepth 100000 in
theorem k_547 : (Jvm.Cond.code ({ cls := "WalkRanksModel", name := "lowest", desc := "(JJI)J" } : Jvm.MethodName) prog_8_method_9_code (7 : Nat) (Option.some Jvm.ClassFile.FieldType.long)) ∈ aw_WS := aw_in (List.mem_of_getElem? (i := 570) rfl) rfl
set_option maxRecDepth 100000 in
theorem k_548 : (Jvm.Cond.methodLink "WalkRanksLaw" (65 : Nat) ({ cls := "WalkRanksModel", name := "place", desc := "(I)I" } : Jvm.MethodName)) ∈ aw_WS := aw_in (List.mem_of_getElem? (i := 571) rfl) rfl
set_option maxRecDepth 100000 in
theorem k_549 : (Jvm.Cond.instanceMethod ({ cls := "WalkRanksModel", name := "place", desc := "(I)I" } : Jvm.MethodName)) ∈ aw_WS := aw_in (List.mem_of_getElem? (i := 572) rfl) rfl
set_option maxRecDepth 100000 in
theorem k_550 : (Jvm.Cond.selects "WalkRanksModel" ({ cls := "WalkRanksModel", name := "place", desc := "(I)I" } : Jvm.MethodName) ({ cls := "WalkRanksModel", name := "place", desc := "(I)I" } : Jvm.MethodName)) ∈ aw_WS := aw_in (List.mem_of_getElem? (i := 573) rfl) rfl
set_option maxRecDepth 100000 in
theorem k_551 : (Jvm.Cond.code ({ cls := "WalkRanksModel", name := "place", desc := "(I)I" } : Jvm.MethodName) prog_8_method_26_code (5 : Nat) (Option.some Jvm.ClassFile.FieldType.int)) ∈ aw_WS := aw_in (List.mem_of_getElem? (i := 574) rfl) rfl
set_option maxRecDepth 100000 in
theorem k_552 : (Jvm.Cond.methodLink "WalkRanksLaw" (70 : Nat) ({ cls := "WalkRanksModel", name := "reach", desc := "(III)J" } : Jvm.MethodName)) ∈ aw_WS := aw_in (List.mem_of_getElem? (i := 575) rfl) rfl
set_option maxRecDepth 100000 in
theorem k_553 : (Jvm.Cond.instanceMethod ({ cls := "WalkRanksModel", name := "reach", desc := "(III)J" } : Jvm.MethodName)) ∈ aw_WS := aw_in (List.mem_of_getElem? (i := 576) rfl) rfl
set_option maxRecDepth 100000 in
theorem k_554 : (Jvm.Cond.selects "WalkRanksModel" ({ cls := "WalkRanksModel", name := "reach", desc := "(III)J" } : Jvm.MethodName) ({ cls := "WalkRanksModel", name := "reach", desc := "(III)J" } : Jvm.MethodName)) ∈ aw_WS := aw_in (List.mem_of_getElem? (i := 577) rfl) rfl
set_option maxRecDepth 100000 in
theorem k_555 : (Jvm.Cond.code ({ cls := "WalkRanksModel", name := "reach", desc := "(III)J" } : Jvm.MethodName) prog_8_method_27_code (6 : Nat) (Option.some Jvm.ClassFile.FieldType.long)) ∈ aw_WS := aw_in (List.mem_of_getElem? (i := 578) rfl) rfl
set_option maxRecDepth 100000 in
theorem k_556 : (Jvm.Cond.methodLink "WalkRanksModel" (113 : Nat) ({ cls := "WalkRanksModel", name := "all", desc := "()I" } : Jvm.MethodName)) ∈ aw_WS := aw_in (List.mem_of_getElem? (i := 579) rfl) rfl
set_option maxRecDepth 100000 in
theorem k_558 : (Jvm.Cond.instanceMethod ({ cls := "WalkRanksModel", name := "all", desc := "()I" } : Jvm.MethodName)) ∈ aw_WS := aw_in (List.mem_of_getElem? (i := 581) rfl) rfl
set_option maxRecDepth 100000 in
theorem k_559 : (Jvm.Cond.code ({ cls := "WalkRanksModel", name := "all", desc := "()I" } : Jvm.MethodName) prog_8_method_22_code (1 : Nat) (Option.some Jvm.ClassFile.FieldType.int)) ∈ aw_WS := aw_in (List.mem_of_getElem? (i := 582) rfl) rfl
set_option maxRecDepth 100000 in
theorem k_560 : (Jvm.Cond.methodLink "WalkRanksLaw" (74 : Nat) ({ cls := "WalkRanksModel", name := "hit", desc := "(III)J" } : Jvm.MethodName)) ∈ aw_WS := aw_in (List.mem_of_getElem? (i := 583) rfl) rfl
set_option maxRecDepth 100000 in
theorem k_561 : (Jvm.Cond.instanceMethod ({ cls := "WalkRanksModel", name := "hit", desc := "(III)J" } : Jvm.MethodName)) ∈ aw_WS := aw_in (List.mem_of_getElem? (i := 584) rfl) rfl
set_option maxRecDepth 100000 in
theorem k_562 : (Jvm.Cond.selects "WalkRanksModel" ({ cls := "WalkRanksModel", name := "hit", desc := "(III)J" } : Jvm.MethodName) ({ cls := "WalkRanksModel", name := "hit", desc := "(III)J" } : Jvm.MethodName)) ∈ aw_WS := aw_in (List.mem_of_getElem? (i := 585) rfl) rfl
set_option maxRecDepth 100000 in
theorem k_563 : (Jvm.Cond.code ({ cls := "WalkRanksModel", name := "hit", desc := "(III)J" } : Jvm.MethodName) prog_8_method_28_code (9 : Nat) (Option.some Jvm.ClassFile.FieldType.long)) ∈ aw_WS := aw_in (List.mem_of_getElem? (i := 586) rfl) rfl
set_option maxRecDepth 100000 in
theorem k_564 : (Jvm.Cond.methodLink "WalkRanksLaw" (78 : Nat) ({ cls := "WalkRanksModel", name := "back", desc := "(II)J" } : Jvm.MethodName)) ∈ aw_WS := aw_in (List.mem_of_getElem? (i := 587) rfl) rfl
set_option maxRecDepth 100000 in
theorem k_565 : (Jvm.Cond.instanceMethod ({ cls := "WalkRanksModel", name := "back", desc := "(II)J" } : Jvm.MethodName)) ∈ aw_WS := aw_in (List.mem_of_getElem? (i := 588) rfl) rfl
set_option maxRecDepth 100000 in
theorem k_566 : (Jvm.Cond.selects "WalkRanksModel" ({ cls := "WalkRanksModel", name := "back", desc := "(II)J" } : Jvm.MethodName) ({ cls := "WalkRanksModel", name := "back", desc := "(II)J" } : Jvm.MethodName)) ∈ aw_WS := aw_in (List.mem_of_getElem? (i := 589) rfl) rfl
set_option maxRecDepth 100000 in
theorem k_567 : (Jvm.Cond.code ({ cls := "WalkRanksModel", name := "back", desc := "(II)J" } : Jvm.MethodName) prog_8_method_29_code (3 : Nat) (Option.some Jvm.ClassFile.FieldType.long)) ∈ aw_WS := aw_in (List.mem_of_getElem? (i := 590) rfl) rfl
set_option maxRecDepth 100000 in
theorem k_568 : (Jvm.Cond.methodLink "WalkRanksLaw" (82 : Nat) ({ cls := "WalkRanksModel", name := "end", desc := "(III)J" } : Jvm.MethodName)) ∈ aw_WS := aw_in (List.mem_of_getElem? (i := 591) rfl) rfl
set_option maxRecDepth 100000 in
theorem k_569 : (Jvm.Cond.instanceMethod ({ cls := "WalkRanksModel", name := "end", desc := "(III)J" } : Jvm.MethodName)) ∈ aw_WS := aw_in (List.mem_of_getElem? (i := 592) rfl) rfl
set_option maxRecDepth 100000 in
theorem k_570 : (Jvm.Cond.selects "WalkRanksModel" ({ cls := "WalkRanksModel", name := "end", desc := "(III)J" } : Jvm.MethodName) ({ cls := "WalkRanksModel", name := "end", desc := "(III)J" } : Jvm.MethodName)) ∈ aw_WS := aw_in (List.mem_of_getElem? (i := 593) rfl) rfl
set_option maxRecDepth 100000 in
theorem k_571 : (Jvm.Cond.code ({ cls := "WalkRanksModel", name := "end", desc := "(III)J" } : Jvm.MethodName) prog_8_method_30_code (6 : Nat) (Option.some Jvm.ClassFile.FieldType.long)) ∈ aw_WS := aw_in (List.mem_of_getElem? (i := 594) rfl) rfl
set_option maxRecDepth 100000 in
theorem k_572 : (Jvm.Cond.methodLink "WalkRanksLaw" (87 : Nat) ({ cls := "WalkRanksModel", name := "after", desc := "(IIII)J" } : Jvm.MethodName)) ∈ aw_WS := aw_in (List.mem_of_getElem? (i := 595) rfl) rfl
set_option maxRecDepth 100000 in
theorem k_573 : (Jvm.Cond.instanceMethod ({ cls := "WalkRanksModel", name := "after", desc := "(IIII)J" } : Jvm.MethodName)) ∈ aw_WS := aw_in (List.mem_of_getElem? (i := 596) rfl) rfl
set_option maxRecDepth 100000 in
theorem k_574 : (Jvm.Cond.selects "WalkRanksModel" ({ cls := "WalkRanksModel", name := "after", desc := "(IIII)J" } : Jvm.MethodName) ({ cls := "WalkRanksModel", name := "after", desc := "(IIII)J" } : Jvm.MethodName)) ∈ aw_WS := aw_in (List.mem_of_getElem? (i := 597) rfl) rfl
set_option maxRecDepth 100000 in
theorem k_575 : (Jvm.Cond.code ({ cls := "WalkRanksModel", name := "after", desc := "(IIII)J" } : Jvm.MethodName) prog_8_method_31_code (12 : Nat) (Option.some Jvm.ClassFile.FieldType.long)) ∈ aw_WS := aw_in (List.mem_of_getElem? (i := 598) rfl) rfl
set_option maxRecDepth 100000 in
theorem k_576 : (Jvm.Cond.methodLink "WalkRanksLaw" (91 : Nat) ({ cls := "WalkRanksModel", name := "walks", desc := "(III)J" } : Jvm.MethodName)) ∈ aw_WS := aw_in (List.mem_of_getElem? (i := 599) rfl) rfl
set_option maxRecDepth 100000 in
theorem k_577 : (Jvm.Cond.instanceMethod ({ cls := "WalkRanksModel", name := "walks", desc := "(III)J" } : Jvm.MethodName)) ∈ aw_WS := aw_in (List.mem_of_getElem? (i := 600) rfl) rfl
set_option maxRecDepth 100000 in
theorem k_578 : (Jvm.Cond.selects "WalkRanksModel" ({ cls := "WalkRanksModel", name := "walks", desc := "(III)J" } : Jvm.MethodName) ({ cls := "WalkRanksModel", name := "walks", desc := "(III)J" } : Jvm.MethodName)) ∈ aw_WS := aw_in (List.mem_of_getElem? (i := 601) rfl) rfl
set_option maxRecDepth 100000 in
theorem k_579 : (Jvm.Cond.code ({ cls := "WalkRanksModel", name := "walks", desc := "(III)J" } : Jvm.MethodName) prog_8_method_32_code (7 : Nat) (Option.some Jvm.ClassFile.FieldType.long)) ∈ aw_WS := aw_in (List.mem_of_getElem? (i := 602) rfl) rfl
set_option maxRecDepth 100000 in
theorem k_580 : (Jvm.Cond.methodLink "WalkRanksLaw" (95 : Nat) ({ cls := "WalkRanksModel", name := "drawn", desc := "(III)I" } : Jvm.MethodName)) ∈ aw_WS := aw_in (List.mem_of_getElem? (i := 603) rfl) rfl
set_option maxRecDepth 100000 in
theorem k_581 : (Jvm.Cond.instanceMethod ({ cls := "WalkRanksModel", name := "drawn", desc := "(III)I" } : Jvm.MethodName)) ∈ aw_WS := aw_in (List.mem_of_getElem? (i := 604) rfl) rfl
set_option maxRecDepth 100000 in
theorem k_582 : (Jvm.Cond.selects "WalkRanksModel" ({ cls := "WalkRanksModel", name := "drawn", desc := "(III)I" } : Jvm.MethodName) ({ cls := "WalkRanksModel", name := "drawn", desc := "(III)I" } : Jvm.MethodName)) ∈ aw_WS := aw_in (List.mem_of_getElem? (i := 605) rfl) rfl
set_option maxRecDepth 100000 in
theorem k_583 : (Jvm.Cond.code ({ cls := "WalkRanksModel", name := "drawn", desc := "(III)I" } : Jvm.MethodName) prog_8_method_33_code (9 : Nat) (Option.some Jvm.ClassFile.FieldType.int)) ∈ aw_WS := aw_in (List.mem_of_getElem? (i := 606) rfl) rfl
set_option maxRecDepth 100000 in
theorem k_584 : (Jvm.Cond.constant "WalkRanksModel" (117 : Nat) (1664525 : Int32)) ∈ aw_WS := aw_in (List.mem_of_getElem? (i := 607) rfl) rfl
set_option maxRecDepth 100000 in
theorem k_585 : (Jvm.Cond.constant "WalkRanksModel" (118 : Nat) (1013904223 : Int32)) ∈ aw_WS := aw_in (List.mem_of_getElem? (i := 608) rfl) rfl
