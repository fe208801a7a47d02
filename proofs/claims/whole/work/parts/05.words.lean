/-! the words that walks use, by their places in the tables -/
theorem t_0 : (Cond.initialized "LayeredPageLaw") ∈ TT := TT_in (List.mem_append_right _ (List.mem_of_getElem? (i := 0) (by decide +kernel))) rfl
theorem t_1 : (Cond.initialized "LayeredPage") ∈ TT := TT_in (List.mem_append_right _ (List.mem_of_getElem? (i := 1) (by decide +kernel))) rfl
theorem t_2 : (Cond.initialized "LayeredPage$Octets") ∈ TT := TT_in (List.mem_append_right _ (List.mem_of_getElem? (i := 2) (by decide +kernel))) rfl
theorem t_3 : (Cond.initialized "LayeredPage$DocumentWriter") ∈ TT := TT_in (List.mem_append_right _ (List.mem_of_getElem? (i := 3) (by decide +kernel))) rfl
theorem t_4 : (Cond.initialized "LayeredPage$Coder") ∈ TT := TT_in (List.mem_append_right _ (List.mem_of_getElem? (i := 4) (by decide +kernel))) rfl
theorem t_5 : (Cond.initialized "LayeredPage$CodeWriter") ∈ TT := TT_in (List.mem_append_right _ (List.mem_of_getElem? (i := 5) (by decide +kernel))) rfl
theorem t_6 : (Cond.initialized "java/util/Arrays") ∈ TT := TT_in (List.mem_append_right _ (List.mem_of_getElem? (i := 6) (by decide +kernel))) rfl
theorem t_7 : (Cond.initialized "LayeredPage$DocumentReader") ∈ TT := TT_in (List.mem_append_right _ (List.mem_of_getElem? (i := 7) (by decide +kernel))) rfl
theorem t_8 : (Cond.initialized "LayeredPage$CodeReader") ∈ TT := TT_in (List.mem_append_right _ (List.mem_of_getElem? (i := 8) (by decide +kernel))) rfl
theorem t_9 : (Cond.initialized "LayeredPage$Page") ∈ TT := TT_in (List.mem_append_right _ (List.mem_of_getElem? (i := 9) (by decide +kernel))) rfl
theorem t_10 : (Cond.initialized "LayeredPage$Layer") ∈ TT := TT_in (List.mem_append_right _ (List.mem_of_getElem? (i := 10) (by decide +kernel))) rfl
theorem t_11 : (Cond.initialized "LayeredPage$Shape") ∈ TT := TT_in (List.mem_append_right _ (List.mem_of_getElem? (i := 11) (by decide +kernel))) rfl
theorem t_12 : (Cond.initialized "LayeredPageModel") ∈ TT := TT_in (List.mem_append_right _ (List.mem_of_getElem? (i := 12) (by decide +kernel))) rfl
theorem t_13 : (Cond.initialized "java/lang/Math") ∈ TT := TT_in (List.mem_append_right _ (List.mem_of_getElem? (i := 13) (by decide +kernel))) rfl
theorem t_14 : (Cond.initialized "java/lang/System") ∈ TT := TT_in (List.mem_append_right _ (List.mem_of_getElem? (i := 14) (by decide +kernel))) rfl
theorem t_15 : (Cond.classLink "LayeredPageLaw" (7 : Nat) "LayeredPage") ∈ TT := TT_in (List.mem_append_right _ (List.mem_of_getElem? (i := 15) (by decide +kernel))) rfl
theorem t_16 : (Cond.instantiable "LayeredPage" (7 : Nat)) ∈ TT := TT_in (List.mem_append_right _ (List.mem_of_getElem? (i := 16) (by decide +kernel))) rfl
theorem t_17 : (Cond.methodLink "LayeredPageLaw" (9 : Nat) ({ cls := "LayeredPage", name := "<init>", desc := "()V" } : MethodName)) ∈ TT := TT_in (List.mem_append_right _ (List.mem_of_getElem? (i := 17) (by decide +kernel))) rfl
theorem t_18 : (Cond.instanceMethod ({ cls := "LayeredPage", name := "<init>", desc := "()V" } : MethodName)) ∈ TT := TT_in (List.mem_append_right _ (List.mem_of_getElem? (i := 18) (by decide +kernel))) rfl
set_option maxRecDepth 100000 in
theorem t_19 : (Cond.code ({ cls := "LayeredPage", name := "<init>", desc := "()V" } : MethodName) prog_1_method_1_code (1 : Nat) (Option.none : Option FieldType)) ∈ TT := TT_in (List.mem_append_right _ (List.mem_of_getElem? (i := 19) (rfl))) rfl
theorem t_20 : (Cond.methodLink "LayeredPage" (3 : Nat) ({ cls := "java/lang/Object", name := "<init>", desc := "()V" } : MethodName)) ∈ TT := TT_in (List.mem_append_right _ (List.mem_of_getElem? (i := 20) (by decide +kernel))) rfl
theorem t_21 : (Cond.instanceMethod ({ cls := "java/lang/Object", name := "<init>", desc := "()V" } : MethodName)) ∈ TT := TT_in (List.mem_append_right _ (List.mem_of_getElem? (i := 21) (by decide +kernel))) rfl
set_option maxRecDepth 100000 in
theorem t_22 : (Cond.code ({ cls := "java/lang/Object", name := "<init>", desc := "()V" } : MethodName) object_method_1_code (1 : Nat) (Option.none : Option FieldType)) ∈ TT := TT_in (List.mem_append_right _ (List.mem_of_getElem? (i := 22) (rfl))) rfl
theorem t_23 : (Cond.classLink "LayeredPage" (9 : Nat) "LayeredPage$Octets") ∈ TT := TT_in (List.mem_append_right _ (List.mem_of_getElem? (i := 23) (by decide +kernel))) rfl
theorem t_24 : (Cond.instantiable "LayeredPage$Octets" (2 : Nat)) ∈ TT := TT_in (List.mem_append_right _ (List.mem_of_getElem? (i := 24) (by decide +kernel))) rfl
theorem q_25 : (Cond.methodLinkNest "LayeredPage" (11 : Nat) ({ cls := "LayeredPage$Octets", name := "<init>", desc := "()V" } : MethodName) "LayeredPage") ∈ lw_tbl := List.mem_append_right _ (List.mem_of_getElem? (i := 25) (by decide +kernel))
theorem t_26 : (Cond.instanceMethod ({ cls := "LayeredPage$Octets", name := "<init>", desc := "()V" } : MethodName)) ∈ TT := TT_in (List.mem_append_right _ (List.mem_of_getElem? (i := 26) (by decide +kernel))) rfl
set_option maxRecDepth 100000 in
theorem t_27 : (Cond.code ({ cls := "LayeredPage$Octets", name := "<init>", desc := "()V" } : MethodName) prog_8_method_1_code (1 : Nat) (Option.none : Option FieldType)) ∈ TT := TT_in (List.mem_append_right _ (List.mem_of_getElem? (i := 27) (rfl))) rfl
theorem t_28 : (Cond.methodLink "LayeredPage$Octets" (3 : Nat) ({ cls := "java/lang/Object", name := "<init>", desc := "()V" } : MethodName)) ∈ TT := TT_in (List.mem_append_right _ (List.mem_of_getElem? (i := 28) (by decide +kernel))) rfl
theorem t_29 : (Cond.fieldLink "LayeredPage$Octets" (9 : Nat) "LayeredPage$Octets" "row" "[I") ∈ TT := TT_in (List.mem_append_right _ (List.mem_of_getElem? (i := 29) (by decide +kernel))) rfl
theorem t_30 : (Cond.fieldLink "LayeredPage$DocumentWriter" (71 : Nat) "LayeredPage$Octets" "row" "[I") ∈ TT := TT_in (List.mem_append_right _ (List.mem_of_getElem? (i := 30) (by decide +kernel))) rfl
theorem t_31 : (Cond.fieldLink "LayeredPage$DocumentReader" (65 : Nat) "LayeredPage$Octets" "row" "[I") ∈ TT := TT_in (List.mem_append_right _ (List.mem_of_getElem? (i := 31) (by decide +kernel))) rfl
theorem t_32 : (Cond.fieldLink "LayeredPage$Octets" (15 : Nat) "LayeredPage$Octets" "count" "I") ∈ TT := TT_in (List.mem_append_right _ (List.mem_of_getElem? (i := 32) (by decide +kernel))) rfl
theorem t_33 : (Cond.fieldLink "LayeredPage$DocumentReader" (29 : Nat) "LayeredPage$Octets" "count" "I") ∈ TT := TT_in (List.mem_append_right _ (List.mem_of_getElem? (i := 33) (by decide +kernel))) rfl
theorem t_34 : (Cond.fieldLink "LayeredPage$DocumentWriter" (75 : Nat) "LayeredPage$Octets" "count" "I") ∈ TT := TT_in (List.mem_append_right _ (List.mem_of_getElem? (i := 34) (by decide +kernel))) rfl
theorem t_35 : (Cond.fieldLink "LayeredPage" (98 : Nat) "LayeredPage$Octets" "count" "I") ∈ TT := TT_in (List.mem_append_right _ (List.mem_of_getElem? (i := 35) (by decide +kernel))) rfl
theorem t_36 : (Cond.laysFinal "LayeredPage$Octets" "LayeredPage$Octets" "row" "[I") ∈ TT := TT_in (List.mem_append_right _ (List.mem_of_getElem? (i := 36) (by decide +kernel))) rfl
theorem t_38 : (Cond.lays "LayeredPage$Octets" "LayeredPage$Octets" "count" "I") ∈ TT := TT_in (List.mem_append_right _ (List.mem_of_getElem? (i := 38) (by decide +kernel))) rfl
theorem t_41 : (Cond.arrayClass FieldType.int) ∈ TT := TT_in (List.mem_append_right _ (List.mem_of_getElem? (i := 41) (by decide +kernel))) rfl
theorem t_42 : (Cond.classLink "LayeredPage" (16 : Nat) "LayeredPage$DocumentWriter") ∈ TT := TT_in (List.mem_append_right _ (List.mem_of_getElem? (i := 42) (by decide +kernel))) rfl
theorem t_43 : (Cond.instantiable "LayeredPage$DocumentWriter" (1 : Nat)) ∈ TT := TT_in (List.mem_append_right _ (List.mem_of_getElem? (i := 43) (by decide +kernel))) rfl
theorem q_44 : (Cond.methodLinkNest "LayeredPage" (18 : Nat) ({ cls := "LayeredPage$DocumentWriter", name := "<init>", desc := "()V" } : MethodName) "LayeredPage") ∈ lw_tbl := List.mem_append_right _ (List.mem_of_getElem? (i := 44) (by decide +kernel))
theorem t_45 : (Cond.instanceMethod ({ cls := "LayeredPage$DocumentWriter", name := "<init>", desc := "()V" } : MethodName)) ∈ TT := TT_in (List.mem_append_right _ (List.mem_of_getElem? (i := 45) (by decide +kernel))) rfl
set_option maxRecDepth 100000 in
theorem t_46 : (Cond.code ({ cls := "LayeredPage$DocumentWriter", name := "<init>", desc := "()V" } : MethodName) prog_6_method_1_code (1 : Nat) (Option.none : Option FieldType)) ∈ TT := TT_in (List.mem_append_right _ (List.mem_of_getElem? (i := 46) (rfl))) rfl
theorem t_47 : (Cond.methodLink "LayeredPage$DocumentWriter" (3 : Nat) ({ cls := "java/lang/Object", name := "<init>", desc := "()V" } : MethodName)) ∈ TT := TT_in (List.mem_append_right _ (List.mem_of_getElem? (i := 47) (by decide +kernel))) rfl
theorem t_48 : (Cond.classLink "LayeredPage$DocumentWriter" (9 : Nat) "LayeredPage$CodeWriter") ∈ TT := TT_in (List.mem_append_right _ (List.mem_of_getElem? (i := 48) (by decide +kernel))) rfl
theorem t_49 : (Cond.instantiable "LayeredPage$CodeWriter" (6 : Nat)) ∈ TT := TT_in (List.mem_append_right _ (List.mem_of_getElem? (i := 49) (by decide +kernel))) rfl
theorem q_50 : (Cond.methodLinkNest "LayeredPage$DocumentWriter" (11 : Nat) ({ cls := "LayeredPage$CodeWriter", name := "<init>", desc := "()V" } : MethodName) "LayeredPage") ∈ lw_tbl := List.mem_append_right _ (List.mem_of_getElem? (i := 50) (by decide +kernel))
theorem t_51 : (Cond.instanceMethod ({ cls := "LayeredPage$CodeWriter", name := "<init>", desc := "()V" } : MethodName)) ∈ TT := TT_in (List.mem_append_right _ (List.mem_of_getElem? (i := 51) (by decide +kernel))) rfl
set_option maxRecDepth 100000 in
theorem t_52 : (Cond.code ({ cls := "LayeredPage$CodeWriter", name := "<init>", desc := "()V" } : MethodName) prog_3_method_1_code (1 : Nat) (Option.none : Option FieldType)) ∈ TT := TT_in (List.mem_append_right _ (List.mem_of_getElem? (i := 52) (rfl))) rfl
theorem t_53 : (Cond.methodLink "LayeredPage$CodeWriter" (1 : Nat) ({ cls := "LayeredPage$Coder", name := "<init>", desc := "()V" } : MethodName)) ∈ TT := TT_in (List.mem_append_right _ (List.mem_of_getElem? (i := 53) (by decide +kernel))) rfl
theorem t_54 : (Cond.instanceMethod ({ cls := "LayeredPage$Coder", name := "<init>", desc := "()V" } : MethodName)) ∈ TT := TT_in (List.mem_append_right _ (List.mem_of_getElem? (i := 54) (by decide +kernel))) rfl
set_option maxRecDepth 100000 in
theorem t_55 : (Cond.code ({ cls := "LayeredPage$Coder", name := "<init>", desc := "()V" } : MethodName) prog_4_method_1_code (1 : Nat) (Option.none : Option FieldType)) ∈ TT := TT_in (List.mem_append_right _ (List.mem_of_getElem? (i := 55) (rfl))) rfl
theorem t_56 : (Cond.methodLink "LayeredPage$Coder" (1 : Nat) ({ cls := "java/lang/Object", name := "<init>", desc := "()V" } : MethodName)) ∈ TT := TT_in (List.mem_append_right _ (List.mem_of_getElem? (i := 56) (by decide +kernel))) rfl
theorem t_57 : (Cond.constant "LayeredPage$Coder" (16 : Nat) (65536 : Int32)) ∈ TT := TT_in (List.mem_append_right _ (List.mem_of_getElem? (i := 57) (by decide +kernel))) rfl
theorem t_58 : (Cond.methodLink "LayeredPage$Coder" (21 : Nat) ({ cls := "LayeredPage$Coder", name := "restart", desc := "()V" } : MethodName)) ∈ TT := TT_in (List.mem_append_right _ (List.mem_of_getElem? (i := 58) (by decide +kernel))) rfl
theorem t_59 : (Cond.instanceMethod ({ cls := "LayeredPage$Coder", name := "restart", desc := "()V" } : MethodName)) ∈ TT := TT_in (List.mem_append_right _ (List.mem_of_getElem? (i := 59) (by decide +kernel))) rfl
theorem t_60 : (Cond.sameMethod "LayeredPage$Coder" "LayeredPage$Coder" "restart" "()V") ∈ TT := TT_in (List.mem_append_right _ (List.mem_of_getElem? (i := 60) (by decide +kernel))) rfl
theorem t_61 : (Cond.selects "LayeredPage$CodeReader" ({ cls := "LayeredPage$Coder", name := "restart", desc := "()V" } : MethodName) ({ cls := "LayeredPage$Coder", name := "restart", desc := "()V" } : MethodName)) ∈ TT := TT_in (List.mem_append_right _ (List.mem_of_getElem? (i := 61) (by decide +kernel))) rfl
theorem t_62 : (Cond.selects "LayeredPage$CodeWriter" ({ cls := "LayeredPage$Coder", name := "restart", desc := "()V" } : MethodName) ({ cls := "LayeredPage$Coder", name := "restart", desc := "()V" } : MethodName)) ∈ TT := TT_in (List.mem_append_right _ (List.mem_of_getElem? (i := 62) (by decide +kernel))) rfl
set_option maxRecDepth 100000 in
theorem t_63 : (Cond.code ({ cls := "LayeredPage$Coder", name := "restart", desc := "()V" } : MethodName) prog_4_method_4_code (1 : Nat) (Option.none : Option FieldType)) ∈ TT := TT_in (List.mem_append_right _ (List.mem_of_getElem? (i := 63) (rfl))) rfl
theorem t_64 : (Cond.methodLink "LayeredPage$Coder" (24 : Nat) ({ cls := "java/util/Arrays", name := "fill", desc := "([II)V" } : MethodName)) ∈ TT := TT_in (List.mem_append_right _ (List.mem_of_getElem? (i := 64) (by decide +kernel))) rfl
theorem t_65 : (Cond.static ({ cls := "java/util/Arrays", name := "fill", desc := "([II)V" } : MethodName)) ∈ TT := TT_in (List.mem_append_right _ (List.mem_of_getElem? (i := 65) (by decide +kernel))) rfl
set_option maxRecDepth 100000 in
theorem t_66 : (Cond.code ({ cls := "java/util/Arrays", name := "fill", desc := "([II)V" } : MethodName) prog_15_method_103_code (4 : Nat) (Option.none : Option FieldType)) ∈ TT := TT_in (List.mem_append_right _ (List.mem_of_getElem? (i := 66) (rfl))) rfl
theorem t_67 : (Cond.fieldLink "LayeredPage$CodeWriter" (7 : Nat) "LayeredPage$CodeWriter" "row" "[I") ∈ TT := TT_in (List.mem_append_right _ (List.mem_of_getElem? (i := 67) (by decide +kernel))) rfl
theorem t_68 : (Cond.fieldLink "LayeredPage$CodeWriter" (13 : Nat) "LayeredPage$CodeWriter" "start" "I") ∈ TT := TT_in (List.mem_append_right _ (List.mem_of_getElem? (i := 68) (by decide +kernel))) rfl
theorem t_69 : (Cond.fieldLink "LayeredPage$CodeWriter" (17 : Nat) "LayeredPage$CodeWriter" "scale" "I") ∈ TT := TT_in (List.mem_append_right _ (List.mem_of_getElem? (i := 69) (by decide +kernel))) rfl
theorem t_70 : (Cond.fieldLink "LayeredPage$Coder" (9 : Nat) "LayeredPage$Coder" "zeros" "[I") ∈ TT := TT_in (List.mem_append_right _ (List.mem_of_getElem? (i := 70) (by decide +kernel))) rfl
theorem t_71 : (Cond.fieldLink "LayeredPage$Coder" (13 : Nat) "LayeredPage$Coder" "ones" "[I") ∈ TT := TT_in (List.mem_append_right _ (List.mem_of_getElem? (i := 71) (by decide +kernel))) rfl
theorem t_72 : (Cond.fieldLink "LayeredPage$Coder" (17 : Nat) "LayeredPage$Coder" "width" "I") ∈ TT := TT_in (List.mem_append_right _ (List.mem_of_getElem? (i := 72) (by decide +kernel))) rfl
theorem t_73 : (Cond.lays "LayeredPage$CodeWriter" "LayeredPage$CodeWriter" "row" "[I") ∈ TT := TT_in (List.mem_append_right _ (List.mem_of_getElem? (i := 73) (by decide +kernel))) rfl
theorem t_75 : (Cond.lays "LayeredPage$CodeWriter" "LayeredPage$CodeWriter" "start" "I") ∈ TT := TT_in (List.mem_append_right _ (List.mem_of_getElem? (i := 75) (by decide +kernel))) rfl
theorem t_77 : (Cond.lays "LayeredPage$CodeWriter" "LayeredPage$CodeWriter" "scale" "I") ∈ TT := TT_in (List.mem_append_right _ (List.mem_of_getElem? (i := 77) (by decide +kernel))) rfl
theorem t_79 : (Cond.laysFinal "LayeredPage$CodeWriter" "LayeredPage$Coder" "zeros" "[I") ∈ TT := TT_in (List.mem_append_right _ (List.mem_of_getElem? (i := 79) (by decide +kernel))) rfl
theorem t_81 : (Cond.laysFinal "LayeredPage$CodeWriter" "LayeredPage$Coder" "ones" "[I") ∈ TT := TT_in (List.mem_append_right _ (List.mem_of_getElem? (i := 81) (by decide +kernel))) rfl
theorem t_83 : (Cond.lays "LayeredPage$CodeWriter" "LayeredPage$Coder" "width" "I") ∈ TT := TT_in (List.mem_append_right _ (List.mem_of_getElem? (i := 83) (by decide +kernel))) rfl
theorem t_86 : (Cond.fieldLink "LayeredPage$DocumentWriter" (12 : Nat) "LayeredPage$DocumentWriter" "coder" "LLayeredPage$CodeWriter;") ∈ TT := TT_in (List.mem_append_right _ (List.mem_of_getElem? (i := 86) (by decide +kernel))) rfl
theorem t_87 : (Cond.laysFinal "LayeredPage$DocumentWriter" "LayeredPage$DocumentWriter" "coder" "LLayeredPage$CodeWriter;") ∈ TT := TT_in (List.mem_append_right _ (List.mem_of_getElem? (i := 87) (by decide +kernel))) rfl
theorem t_90 : (Cond.classLink "LayeredPage" (23 : Nat) "LayeredPage$DocumentReader") ∈ TT := TT_in (List.mem_append_right _ (List.mem_of_getElem? (i := 90) (by decide +kernel))) rfl
theorem t_91 : (Cond.instantiable "LayeredPage$DocumentReader" (1 : Nat)) ∈ TT := TT_in (List.mem_append_right _ (List.mem_of_getElem? (i := 91) (by decide +kernel))) rfl
theorem q_92 : (Cond.methodLinkNest "LayeredPage" (25 : Nat) ({ cls := "LayeredPage$DocumentReader", name := "<init>", desc := "()V" } : MethodName) "LayeredPage") ∈ lw_tbl := List.mem_append_right _ (List.mem_of_getElem? (i := 92) (by decide +kernel))
theorem t_93 : (Cond.instanceMethod ({ cls := "LayeredPage$DocumentReader", name := "<init>", desc := "()V" } : MethodName)) ∈ TT := TT_in (List.mem_append_right _ (List.mem_of_getElem? (i := 93) (by decide +kernel))) rfl
set_option maxRecDepth 100000 in
theorem t_94 : (Cond.code ({ cls := "LayeredPage$DocumentReader", name := "<init>", desc := "()V" } : MethodName) prog_5_method_1_code (1 : Nat) (Option.none : Option FieldType)) ∈ TT := TT_in (List.mem_append_right _ (List.mem_of_getElem? (i := 94) (rfl))) rfl
theorem t_95 : (Cond.methodLink "LayeredPage$DocumentReader" (3 : Nat) ({ cls := "java/lang/Object", name := "<init>", desc := "()V" } : MethodName)) ∈ TT := TT_in (List.mem_append_right _ (List.mem_of_getElem? (i := 95) (by decide +kernel))) rfl
theorem t_96 : (Cond.classLink "LayeredPage$DocumentReader" (9 : Nat) "LayeredPage$CodeReader") ∈ TT := TT_in (List.mem_append_right _ (List.mem_of_getElem? (i := 96) (by decide +kernel))) rfl
theorem t_97 : (Cond.instantiable "LayeredPage$CodeReader" (8 : Nat)) ∈ TT := TT_in (List.mem_append_right _ (List.mem_of_getElem? (i := 97) (by decide +kernel))) rfl
theorem q_98 : (Cond.methodLinkNest "LayeredPage$DocumentReader" (11 : Nat) ({ cls := "LayeredPage$CodeReader", name := "<init>", desc := "()V" } : MethodName) "LayeredPage") ∈ lw_tbl := List.mem_append_right _ (List.mem_of_getElem? (i := 98) (by decide +kernel))
theorem t_99 : (Cond.instanceMethod ({ cls := "LayeredPage$CodeReader", name := "<init>", desc := "()V" } : MethodName)) ∈ TT := TT_in (List.mem_append_right _ (List.mem_of_getElem? (i := 99) (by decide +kernel))) rfl
set_option maxRecDepth 100000 in
theorem t_100 : (Cond.code ({ cls := "LayeredPage$CodeReader", name := "<init>", desc := "()V" } : MethodName) prog_2_method_1_code (1 : Nat) (Option.none : Option FieldType)) ∈ TT := TT_in (List.mem_append_right _ (List.mem_of_getElem? (i := 100) (rfl))) rfl
theorem t_101 : (Cond.methodLink "LayeredPage$CodeReader" (1 : Nat) ({ cls := "LayeredPage$Coder", name := "<init>", desc := "()V" } : MethodName)) ∈ TT := TT_in (List.mem_append_right _ (List.mem_of_getElem? (i := 101) (by decide +kernel))) rfl
theorem t_102 : (Cond.fieldLink "LayeredPage$CodeReader" (7 : Nat) "LayeredPage$CodeReader" "row" "[I") ∈ TT := TT_in (List.mem_append_right _ (List.mem_of_getElem? (i := 102) (by decide +kernel))) rfl
theorem t_103 : (Cond.fieldLink "LayeredPage$CodeReader" (13 : Nat) "LayeredPage$CodeReader" "at" "I") ∈ TT := TT_in (List.mem_append_right _ (List.mem_of_getElem? (i := 103) (by decide +kernel))) rfl
theorem t_104 : (Cond.fieldLink "LayeredPage$CodeReader" (17 : Nat) "LayeredPage$CodeReader" "end" "I") ∈ TT := TT_in (List.mem_append_right _ (List.mem_of_getElem? (i := 104) (by decide +kernel))) rfl
theorem t_105 : (Cond.fieldLink "LayeredPage$CodeReader" (20 : Nat) "LayeredPage$CodeReader" "digit" "I") ∈ TT := TT_in (List.mem_append_right _ (List.mem_of_getElem? (i := 105) (by decide +kernel))) rfl
theorem t_106 : (Cond.fieldLink "LayeredPage$CodeReader" (23 : Nat) "LayeredPage$CodeReader" "rest" "I") ∈ TT := TT_in (List.mem_append_right _ (List.mem_of_getElem? (i := 106) (by decide +kernel))) rfl
theorem t_107 : (Cond.lays "LayeredPage$CodeReader" "LayeredPage$CodeReader" "row" "[I") ∈ TT := TT_in (List.mem_append_right _ (List.mem_of_getElem? (i := 107) (by decide +kernel))) rfl
theorem t_109 : (Cond.lays "LayeredPage$CodeReader" "LayeredPage$CodeReader" "at" "I") ∈ TT := TT_in (List.mem_append_right _ (List.mem_of_getElem? (i := 109) (by decide +kernel))) rfl
theorem t_111 : (Cond.lays "LayeredPage$CodeReader" "LayeredPage$CodeReader" "end" "I") ∈ TT := TT_in (List.mem_append_right _ (List.mem_of_getElem? (i := 111) (by decide +kernel))) rfl
theorem t_113 : (Cond.lays "LayeredPage$CodeReader" "LayeredPage$CodeReader" "digit" "I") ∈ TT := TT_in (List.mem_append_right _ (List.mem_of_getElem? (i := 113) (by decide +kernel))) rfl
theorem t_115 : (Cond.lays "LayeredPage$CodeReader" "LayeredPage$CodeReader" "rest" "I") ∈ TT := TT_in (List.mem_append_right _ (List.mem_of_getElem? (i := 115) (by decide +kernel))) rfl
theorem t_117 : (Cond.laysFinal "LayeredPage$CodeReader" "LayeredPage$Coder" "zeros" "[I") ∈ TT := TT_in (List.mem_append_right _ (List.mem_of_getElem? (i := 117) (by decide +kernel))) rfl
theorem t_118 : (Cond.laysFinal "LayeredPage$CodeReader" "LayeredPage$Coder" "ones" "[I") ∈ TT := TT_in (List.mem_append_right _ (List.mem_of_getElem? (i := 118) (by decide +kernel))) rfl
theorem t_119 : (Cond.lays "LayeredPage$CodeReader" "LayeredPage$Coder" "width" "I") ∈ TT := TT_in (List.mem_append_right _ (List.mem_of_getElem? (i := 119) (by decide +kernel))) rfl
theorem t_121 : (Cond.fieldLink "LayeredPage$DocumentReader" (12 : Nat) "LayeredPage$DocumentReader" "coder" "LLayeredPage$CodeReader;") ∈ TT := TT_in (List.mem_append_right _ (List.mem_of_getElem? (i := 121) (by decide +kernel))) rfl
theorem t_122 : (Cond.laysFinal "LayeredPage$DocumentReader" "LayeredPage$DocumentReader" "coder" "LLayeredPage$CodeReader;") ∈ TT := TT_in (List.mem_append_right _ (List.mem_of_getElem? (i := 122) (by decide +kernel))) rfl
theorem t_125 : (Cond.classLink "LayeredPage" (30 : Nat) "LayeredPage$Page") ∈ TT := TT_in (List.mem_append_right _ (List.mem_of_getElem? (i := 125) (by decide +kernel))) rfl
theorem t_126 : (Cond.instantiable "LayeredPage$Page" (7 : Nat)) ∈ TT := TT_in (List.mem_append_right _ (List.mem_of_getElem? (i := 126) (by decide +kernel))) rfl
theorem t_127 : (Cond.methodLink "LayeredPage" (32 : Nat) ({ cls := "LayeredPage$Page", name := "<init>", desc := "()V" } : MethodName)) ∈ TT := TT_in (List.mem_append_right _ (List.mem_of_getElem? (i := 127) (by decide +kernel))) rfl
theorem t_128 : (Cond.instanceMethod ({ cls := "LayeredPage$Page", name := "<init>", desc := "()V" } : MethodName)) ∈ TT := TT_in (List.mem_append_right _ (List.mem_of_getElem? (i := 128) (by decide +kernel))) rfl
set_option maxRecDepth 100000 in
theorem t_129 : (Cond.code ({ cls := "LayeredPage$Page", name := "<init>", desc := "()V" } : MethodName) prog_9_method_1_code (2 : Nat) (Option.none : Option FieldType)) ∈ TT := TT_in (List.mem_append_right _ (List.mem_of_getElem? (i := 129) (rfl))) rfl
theorem t_130 : (Cond.methodLink "LayeredPage$Page" (3 : Nat) ({ cls := "java/lang/Object", name := "<init>", desc := "()V" } : MethodName)) ∈ TT := TT_in (List.mem_append_right _ (List.mem_of_getElem? (i := 130) (by decide +kernel))) rfl
theorem t_131 : (Cond.classLink "LayeredPage$Page" (9 : Nat) "LayeredPage$Shape") ∈ TT := TT_in (List.mem_append_right _ (List.mem_of_getElem? (i := 131) (by decide +kernel))) rfl
theorem q_132 : (Cond.arrayOver (FieldType.object "LayeredPage$Shape")) ∈ lw_tbl := List.mem_append_right _ (List.mem_of_getElem? (i := 132) (by decide +kernel))
theorem t_133 : (Cond.classLink "LayeredPage$Page" (31 : Nat) "LayeredPage$Layer") ∈ TT := TT_in (List.mem_append_right _ (List.mem_of_getElem? (i := 133) (by decide +kernel))) rfl
theorem t_134 : (Cond.instantiable "LayeredPage$Layer" (6 : Nat)) ∈ TT := TT_in (List.mem_append_right _ (List.mem_of_getElem? (i := 134) (by decide +kernel))) rfl
theorem t_135 : (Cond.methodLink "LayeredPage$Page" (33 : Nat) ({ cls := "LayeredPage$Layer", name := "<init>", desc := "(I)V" } : MethodName)) ∈ TT := TT_in (List.mem_append_right _ (List.mem_of_getElem? (i := 135) (by decide +kernel))) rfl
theorem t_136 : (Cond.instanceMethod ({ cls := "LayeredPage$Layer", name := "<init>", desc := "(I)V" } : MethodName)) ∈ TT := TT_in (List.mem_append_right _ (List.mem_of_getElem? (i := 136) (by decide +kernel))) rfl
set_option maxRecDepth 100000 in
theorem t_137 : (Cond.code ({ cls := "LayeredPage$Layer", name := "<init>", desc := "(I)V" } : MethodName) prog_7_method_1_code (2 : Nat) (Option.none : Option FieldType)) ∈ TT := TT_in (List.mem_append_right _ (List.mem_of_getElem? (i := 137) (rfl))) rfl
theorem t_138 : (Cond.methodLink "LayeredPage$Layer" (3 : Nat) ({ cls := "java/lang/Object", name := "<init>", desc := "()V" } : MethodName)) ∈ TT := TT_in (List.mem_append_right _ (List.mem_of_getElem? (i := 138) (by decide +kernel))) rfl
theorem t_139 : (Cond.fieldLink "LayeredPage$Layer" (15 : Nat) "LayeredPage$Layer" "size" "I") ∈ TT := TT_in (List.mem_append_right _ (List.mem_of_getElem? (i := 139) (by decide +kernel))) rfl
theorem t_140 : (Cond.fieldLink "LayeredPage" (83 : Nat) "LayeredPage$Layer" "size" "I") ∈ TT := TT_in (List.mem_append_right _ (List.mem_of_getElem? (i := 140) (by decide +kernel))) rfl
theorem t_141 : (Cond.fieldLink "LayeredPage$Layer" (19 : Nat) "LayeredPage$Layer" "cells" "[I") ∈ TT := TT_in (List.mem_append_right _ (List.mem_of_getElem? (i := 141) (by decide +kernel))) rfl
theorem t_142 : (Cond.fieldLink "LayeredPage$Layer" (23 : Nat) "LayeredPage$Layer" "coefficients" "[I") ∈ TT := TT_in (List.mem_append_right _ (List.mem_of_getElem? (i := 142) (by decide +kernel))) rfl
theorem t_143 : (Cond.fieldLink "LayeredPage$Layer" (26 : Nat) "LayeredPage$Layer" "coded" "[I") ∈ TT := TT_in (List.mem_append_right _ (List.mem_of_getElem? (i := 143) (by decide +kernel))) rfl
theorem t_144 : (Cond.fieldLink "LayeredPage$Layer" (29 : Nat) "LayeredPage$Layer" "line" "[I") ∈ TT := TT_in (List.mem_append_right _ (List.mem_of_getElem? (i := 144) (by decide +kernel))) rfl
theorem t_145 : (Cond.fieldLink "LayeredPage$Layer" (9 : Nat) "LayeredPage$Layer" "came" "Z") ∈ TT := TT_in (List.mem_append_right _ (List.mem_of_getElem? (i := 145) (by decide +kernel))) rfl
theorem t_146 : (Cond.fieldLink "LayeredPage$DocumentReader" (87 : Nat) "LayeredPage$Layer" "came" "Z") ∈ TT := TT_in (List.mem_append_right _ (List.mem_of_getElem? (i := 146) (by decide +kernel))) rfl
theorem t_147 : (Cond.laysFinal "LayeredPage$Layer" "LayeredPage$Layer" "size" "I") ∈ TT := TT_in (List.mem_append_right _ (List.mem_of_getElem? (i := 147) (by decide +kernel))) rfl
theorem t_149 : (Cond.laysFinal "LayeredPage$Layer" "LayeredPage$Layer" "cells" "[I") ∈ TT := TT_in (List.mem_append_right _ (List.mem_of_getElem? (i := 149) (by decide +kernel))) rfl
theorem t_151 : (Cond.laysFinal "LayeredPage$Layer" "LayeredPage$Layer" "coefficients" "[I") ∈ TT := TT_in (List.mem_append_right _ (List.mem_of_getElem? (i := 151) (by decide +kernel))) rfl
theorem t_153 : (Cond.laysFinal "LayeredPage$Layer" "LayeredPage$Layer" "coded" "[I") ∈ TT := TT_in (List.mem_append_right _ (List.mem_of_getElem? (i := 153) (by decide +kernel))) rfl
theorem t_155 : (Cond.laysFinal "LayeredPage$Layer" "LayeredPage$Layer" "line" "[I") ∈ TT := TT_in (List.mem_append_right _ (List.mem_of_getElem? (i := 155) (by decide +kernel))) rfl
theorem t_157 : (Cond.lays "LayeredPage$Layer" "LayeredPage$Layer" "came" "Z") ∈ TT := TT_in (List.mem_append_right _ (List.mem_of_getElem? (i := 157) (by decide +kernel))) rfl
theorem t_160 : (Cond.instantiable "LayeredPage$Shape" (4 : Nat)) ∈ TT := TT_in (List.mem_append_right _ (List.mem_of_getElem? (i := 160) (by decide +kernel))) rfl
theorem q_161 : (Cond.methodLinkNest "LayeredPage$Page" (43 : Nat) ({ cls := "LayeredPage$Shape", name := "<init>", desc := "()V" } : MethodName) "LayeredPage") ∈ lw_tbl := List.mem_append_right _ (List.mem_of_getElem? (i := 161) (by decide +kernel))
theorem t_162 : (Cond.instanceMethod ({ cls := "LayeredPage$Shape", name := "<init>", desc := "()V" } : MethodName)) ∈ TT := TT_in (List.mem_append_right _ (List.mem_of_getElem? (i := 162) (by decide +kernel))) rfl
set_option maxRecDepth 100000 in
theorem t_163 : (Cond.code ({ cls := "LayeredPage$Shape", name := "<init>", desc := "()V" } : MethodName) prog_10_method_1_code (1 : Nat) (Option.none : Option FieldType)) ∈ TT := TT_in (List.mem_append_right _ (List.mem_of_getElem? (i := 163) (rfl))) rfl
theorem t_164 : (Cond.methodLink "LayeredPage$Shape" (3 : Nat) ({ cls := "java/lang/Object", name := "<init>", desc := "()V" } : MethodName)) ∈ TT := TT_in (List.mem_append_right _ (List.mem_of_getElem? (i := 164) (by decide +kernel))) rfl
theorem t_165 : (Cond.fieldLink "LayeredPage$Shape" (9 : Nat) "LayeredPage$Shape" "bits" "J") ∈ TT := TT_in (List.mem_append_right _ (List.mem_of_getElem? (i := 165) (by decide +kernel))) rfl
theorem t_166 : (Cond.fieldLink "LayeredPage$Page" (47 : Nat) "LayeredPage$Shape" "bits" "J") ∈ TT := TT_in (List.mem_append_right _ (List.mem_of_getElem? (i := 166) (by decide +kernel))) rfl
theorem t_167 : (Cond.fieldLink "LayeredPage" (143 : Nat) "LayeredPage$Shape" "bits" "J") ∈ TT := TT_in (List.mem_append_right _ (List.mem_of_getElem? (i := 167) (by decide +kernel))) rfl
theorem t_168 : (Cond.fieldLink "LayeredPage$Shape" (15 : Nat) "LayeredPage$Shape" "width" "I") ∈ TT := TT_in (List.mem_append_right _ (List.mem_of_getElem? (i := 168) (by decide +kernel))) rfl
theorem t_169 : (Cond.fieldLink "LayeredPage$DocumentWriter" (65 : Nat) "LayeredPage$Shape" "width" "I") ∈ TT := TT_in (List.mem_append_right _ (List.mem_of_getElem? (i := 169) (by decide +kernel))) rfl
theorem t_170 : (Cond.fieldLink "LayeredPage$Page" (51 : Nat) "LayeredPage$Shape" "width" "I") ∈ TT := TT_in (List.mem_append_right _ (List.mem_of_getElem? (i := 170) (by decide +kernel))) rfl
theorem t_171 : (Cond.fieldLink "LayeredPage$Shape" (19 : Nat) "LayeredPage$Shape" "height" "I") ∈ TT := TT_in (List.mem_append_right _ (List.mem_of_getElem? (i := 171) (by decide +kernel))) rfl
theorem t_172 : (Cond.fieldLink "LayeredPage$DocumentWriter" (68 : Nat) "LayeredPage$Shape" "height" "I") ∈ TT := TT_in (List.mem_append_right _ (List.mem_of_getElem? (i := 172) (by decide +kernel))) rfl
theorem t_173 : (Cond.fieldLink "LayeredPage$Page" (54 : Nat) "LayeredPage$Shape" "height" "I") ∈ TT := TT_in (List.mem_append_right _ (List.mem_of_getElem? (i := 173) (by decide +kernel))) rfl
theorem t_174 : (Cond.fieldLink "LayeredPage$Shape" (22 : Nat) "LayeredPage$Shape" "base" "I") ∈ TT := TT_in (List.mem_append_right _ (List.mem_of_getElem? (i := 174) (by decide +kernel))) rfl
theorem t_175 : (Cond.fieldLink "LayeredPage$DocumentWriter" (60 : Nat) "LayeredPage$Shape" "base" "I") ∈ TT := TT_in (List.mem_append_right _ (List.mem_of_getElem? (i := 175) (by decide +kernel))) rfl
theorem t_176 : (Cond.fieldLink "LayeredPage$Page" (57 : Nat) "LayeredPage$Shape" "base" "I") ∈ TT := TT_in (List.mem_append_right _ (List.mem_of_getElem? (i := 176) (by decide +kernel))) rfl
theorem t_177 : (Cond.lays "LayeredPage$Shape" "LayeredPage$Shape" "bits" "J") ∈ TT := TT_in (List.mem_append_right _ (List.mem_of_getElem? (i := 177) (by decide +kernel))) rfl
theorem t_179 : (Cond.lays "LayeredPage$Shape" "LayeredPage$Shape" "width" "I") ∈ TT := TT_in (List.mem_append_right _ (List.mem_of_getElem? (i := 179) (by decide +kernel))) rfl
theorem t_181 : (Cond.lays "LayeredPage$Shape" "LayeredPage$Shape" "height" "I") ∈ TT := TT_in (List.mem_append_right _ (List.mem_of_getElem? (i := 181) (by decide +kernel))) rfl
theorem t_183 : (Cond.lays "LayeredPage$Shape" "LayeredPage$Shape" "base" "I") ∈ TT := TT_in (List.mem_append_right _ (List.mem_of_getElem? (i := 183) (by decide +kernel))) rfl
theorem t_186 : (Cond.fieldLink "LayeredPage$Page" (11 : Nat) "LayeredPage$Page" "shapes" "[LLayeredPage$Shape;") ∈ TT := TT_in (List.mem_append_right _ (List.mem_of_getElem? (i := 186) (by decide +kernel))) rfl
theorem t_187 : (Cond.fieldLink "LayeredPage$DocumentWriter" (52 : Nat) "LayeredPage$Page" "shapes" "[LLayeredPage$Shape;") ∈ TT := TT_in (List.mem_append_right _ (List.mem_of_getElem? (i := 187) (by decide +kernel))) rfl
theorem t_188 : (Cond.fieldLink "LayeredPage" (139 : Nat) "LayeredPage$Page" "shapes" "[LLayeredPage$Shape;") ∈ TT := TT_in (List.mem_append_right _ (List.mem_of_getElem? (i := 188) (by decide +kernel))) rfl
theorem t_189 : (Cond.fieldLink "LayeredPage$Page" (17 : Nat) "LayeredPage$Page" "shapeCount" "I") ∈ TT := TT_in (List.mem_append_right _ (List.mem_of_getElem? (i := 189) (by decide +kernel))) rfl
theorem t_190 : (Cond.fieldLink "LayeredPage$DocumentWriter" (27 : Nat) "LayeredPage$Page" "shapeCount" "I") ∈ TT := TT_in (List.mem_append_right _ (List.mem_of_getElem? (i := 190) (by decide +kernel))) rfl
theorem t_191 : (Cond.fieldLink "LayeredPage$DocumentReader" (54 : Nat) "LayeredPage$Page" "shapeCount" "I") ∈ TT := TT_in (List.mem_append_right _ (List.mem_of_getElem? (i := 191) (by decide +kernel))) rfl
theorem t_192 : (Cond.fieldLink "LayeredPage" (136 : Nat) "LayeredPage$Page" "shapeCount" "I") ∈ TT := TT_in (List.mem_append_right _ (List.mem_of_getElem? (i := 192) (by decide +kernel))) rfl
theorem t_193 : (Cond.fieldLink "LayeredPage$Page" (21 : Nat) "LayeredPage$Page" "placedShapes" "[I") ∈ TT := TT_in (List.mem_append_right _ (List.mem_of_getElem? (i := 193) (by decide +kernel))) rfl
theorem t_194 : (Cond.fieldLink "LayeredPage$DocumentWriter" (99 : Nat) "LayeredPage$Page" "placedShapes" "[I") ∈ TT := TT_in (List.mem_append_right _ (List.mem_of_getElem? (i := 194) (by decide +kernel))) rfl
theorem t_195 : (Cond.fieldLink "LayeredPage$Page" (25 : Nat) "LayeredPage$Page" "spots" "[I") ∈ TT := TT_in (List.mem_append_right _ (List.mem_of_getElem? (i := 195) (by decide +kernel))) rfl
theorem t_196 : (Cond.fieldLink "LayeredPage$DocumentWriter" (102 : Nat) "LayeredPage$Page" "spots" "[I") ∈ TT := TT_in (List.mem_append_right _ (List.mem_of_getElem? (i := 196) (by decide +kernel))) rfl
theorem t_197 : (Cond.fieldLink "LayeredPage$Page" (28 : Nat) "LayeredPage$Page" "placingCount" "I") ∈ TT := TT_in (List.mem_append_right _ (List.mem_of_getElem? (i := 197) (by decide +kernel))) rfl
theorem t_198 : (Cond.fieldLink "LayeredPage$DocumentWriter" (96 : Nat) "LayeredPage$Page" "placingCount" "I") ∈ TT := TT_in (List.mem_append_right _ (List.mem_of_getElem? (i := 198) (by decide +kernel))) rfl
theorem t_199 : (Cond.fieldLink "LayeredPage$DocumentReader" (77 : Nat) "LayeredPage$Page" "placingCount" "I") ∈ TT := TT_in (List.mem_append_right _ (List.mem_of_getElem? (i := 199) (by decide +kernel))) rfl
theorem t_200 : (Cond.fieldLink "LayeredPage" (149 : Nat) "LayeredPage$Page" "placingCount" "I") ∈ TT := TT_in (List.mem_append_right _ (List.mem_of_getElem? (i := 200) (by decide +kernel))) rfl
theorem t_201 : (Cond.fieldLink "LayeredPage$Page" (36 : Nat) "LayeredPage$Page" "ground" "LLayeredPage$Layer;") ∈ TT := TT_in (List.mem_append_right _ (List.mem_of_getElem? (i := 201) (by decide +kernel))) rfl
theorem t_202 : (Cond.fieldLink "LayeredPage$DocumentWriter" (41 : Nat) "LayeredPage$Page" "ground" "LLayeredPage$Layer;") ∈ TT := TT_in (List.mem_append_right _ (List.mem_of_getElem? (i := 202) (by decide +kernel))) rfl
theorem t_203 : (Cond.fieldLink "LayeredPage$DocumentReader" (43 : Nat) "LayeredPage$Page" "ground" "LLayeredPage$Layer;") ∈ TT := TT_in (List.mem_append_right _ (List.mem_of_getElem? (i := 203) (by decide +kernel))) rfl
theorem t_204 : (Cond.fieldLink "LayeredPage" (127 : Nat) "LayeredPage$Page" "ground" "LLayeredPage$Layer;") ∈ TT := TT_in (List.mem_append_right _ (List.mem_of_getElem? (i := 204) (by decide +kernel))) rfl
theorem t_205 : (Cond.fieldLink "LayeredPage$Page" (40 : Nat) "LayeredPage$Page" "ink" "LLayeredPage$Layer;") ∈ TT := TT_in (List.mem_append_right _ (List.mem_of_getElem? (i := 205) (by decide +kernel))) rfl
theorem t_206 : (Cond.fieldLink "LayeredPage$DocumentWriter" (49 : Nat) "LayeredPage$Page" "ink" "LLayeredPage$Layer;") ∈ TT := TT_in (List.mem_append_right _ (List.mem_of_getElem? (i := 206) (by decide +kernel))) rfl
theorem t_207 : (Cond.fieldLink "LayeredPage$DocumentReader" (47 : Nat) "LayeredPage$Page" "ink" "LLayeredPage$Layer;") ∈ TT := TT_in (List.mem_append_right _ (List.mem_of_getElem? (i := 207) (by decide +kernel))) rfl
theorem t_208 : (Cond.fieldLink "LayeredPage" (120 : Nat) "LayeredPage$Page" "ink" "LLayeredPage$Layer;") ∈ TT := TT_in (List.mem_append_right _ (List.mem_of_getElem? (i := 208) (by decide +kernel))) rfl
theorem t_209 : (Cond.laysFinal "LayeredPage$Page" "LayeredPage$Page" "shapes" "[LLayeredPage$Shape;") ∈ TT := TT_in (List.mem_append_right _ (List.mem_of_getElem? (i := 209) (by decide +kernel))) rfl
theorem t_211 : (Cond.lays "LayeredPage$Page" "LayeredPage$Page" "shapeCount" "I") ∈ TT := TT_in (List.mem_append_right _ (List.mem_of_getElem? (i := 211) (by decide +kernel))) rfl
theorem t_213 : (Cond.laysFinal "LayeredPage$Page" "LayeredPage$Page" "placedShapes" "[I") ∈ TT := TT_in (List.mem_append_right _ (List.mem_of_getElem? (i := 213) (by decide +kernel))) rfl
theorem t_215 : (Cond.laysFinal "LayeredPage$Page" "LayeredPage$Page" "spots" "[I") ∈ TT := TT_in (List.mem_append_right _ (List.mem_of_getElem? (i := 215) (by decide +kernel))) rfl
theorem t_217 : (Cond.lays "LayeredPage$Page" "LayeredPage$Page" "placingCount" "I") ∈ TT := TT_in (List.mem_append_right _ (List.mem_of_getElem? (i := 217) (by decide +kernel))) rfl
theorem t_219 : (Cond.laysFinal "LayeredPage$Page" "LayeredPage$Page" "ground" "LLayeredPage$Layer;") ∈ TT := TT_in (List.mem_append_right _ (List.mem_of_getElem? (i := 219) (by decide +kernel))) rfl
theorem t_221 : (Cond.laysFinal "LayeredPage$Page" "LayeredPage$Page" "ink" "LLayeredPage$Layer;") ∈ TT := TT_in (List.mem_append_right _ (List.mem_of_getElem? (i := 221) (by decide +kernel))) rfl
theorem t_224 : (Cond.fieldLink "LayeredPage" (12 : Nat) "LayeredPage" "document" "LLayeredPage$Octets;") ∈ TT := TT_in (List.mem_append_right _ (List.mem_of_getElem? (i := 224) (by decide +kernel))) rfl
theorem t_225 : (Cond.fieldLink "LayeredPage" (19 : Nat) "LayeredPage" "writer" "LLayeredPage$DocumentWriter;") ∈ TT := TT_in (List.mem_append_right _ (List.mem_of_getElem? (i := 225) (by decide +kernel))) rfl
theorem t_226 : (Cond.fieldLink "LayeredPage" (26 : Nat) "LayeredPage" "reader" "LLayeredPage$DocumentReader;") ∈ TT := TT_in (List.mem_append_right _ (List.mem_of_getElem? (i := 226) (by decide +kernel))) rfl
theorem t_227 : (Cond.fieldLink "LayeredPage" (33 : Nat) "LayeredPage" "draft" "LLayeredPage$Page;") ∈ TT := TT_in (List.mem_append_right _ (List.mem_of_getElem? (i := 227) (by decide +kernel))) rfl
theorem t_228 : (Cond.fieldLink "LayeredPage" (37 : Nat) "LayeredPage" "hasPicture" "Z") ∈ TT := TT_in (List.mem_append_right _ (List.mem_of_getElem? (i := 228) (by decide +kernel))) rfl
theorem t_229 : (Cond.fieldLink "LayeredPage" (41 : Nat) "LayeredPage" "picture" "LLayeredPage$Page;") ∈ TT := TT_in (List.mem_append_right _ (List.mem_of_getElem? (i := 229) (by decide +kernel))) rfl
theorem t_230 : (Cond.fieldLink "LayeredPage" (44 : Nat) "LayeredPage" "spare" "LLayeredPage$Page;") ∈ TT := TT_in (List.mem_append_right _ (List.mem_of_getElem? (i := 230) (by decide +kernel))) rfl
theorem t_231 : (Cond.laysFinal "LayeredPage" "LayeredPage" "document" "LLayeredPage$Octets;") ∈ TT := TT_in (List.mem_append_right _ (List.mem_of_getElem? (i := 231) (by decide +kernel))) rfl
theorem t_233 : (Cond.laysFinal "LayeredPage" "LayeredPage" "writer" "LLayeredPage$DocumentWriter;") ∈ TT := TT_in (List.mem_append_right _ (List.mem_of_getElem? (i := 233) (by decide +kernel))) rfl
theorem t_235 : (Cond.laysFinal "LayeredPage" "LayeredPage" "reader" "LLayeredPage$DocumentReader;") ∈ TT := TT_in (List.mem_append_right _ (List.mem_of_getElem? (i := 235) (by decide +kernel))) rfl
theorem t_237 : (Cond.laysFinal "LayeredPage" "LayeredPage" "draft" "LLayeredPage$Page;") ∈ TT := TT_in (List.mem_append_right _ (List.mem_of_getElem? (i := 237) (by decide +kernel))) rfl
theorem t_239 : (Cond.lays "LayeredPage" "LayeredPage" "hasPicture" "Z") ∈ TT := TT_in (List.mem_append_right _ (List.mem_of_getElem? (i := 239) (by decide +kernel))) rfl
theorem t_241 : (Cond.lays "LayeredPage" "LayeredPage" "picture" "LLayeredPage$Page;") ∈ TT := TT_in (List.mem_append_right _ (List.mem_of_getElem? (i := 241) (by decide +kernel))) rfl
theorem t_243 : (Cond.lays "LayeredPage" "LayeredPage" "spare" "LLayeredPage$Page;") ∈ TT := TT_in (List.mem_append_right _ (List.mem_of_getElem? (i := 243) (by decide +kernel))) rfl
theorem t_246 : (Cond.methodLink "LayeredPageLaw" (15 : Nat) ({ cls := "LayeredPage", name := "shape", desc := "(JIII)I" } : MethodName)) ∈ TT := TT_in (List.mem_append_right _ (List.mem_of_getElem? (i := 246) (by decide +kernel))) rfl
theorem t_247 : (Cond.instanceMethod ({ cls := "LayeredPage", name := "shape", desc := "(JIII)I" } : MethodName)) ∈ TT := TT_in (List.mem_append_right _ (List.mem_of_getElem? (i := 247) (by decide +kernel))) rfl
theorem t_248 : (Cond.selects "LayeredPage" ({ cls := "LayeredPage", name := "shape", desc := "(JIII)I" } : MethodName) ({ cls := "LayeredPage", name := "shape", desc := "(JIII)I" } : MethodName)) ∈ TT := TT_in (List.mem_append_right _ (List.mem_of_getElem? (i := 248) (by decide +kernel))) rfl
set_option maxRecDepth 100000 in
theorem t_249 : (Cond.code ({ cls := "LayeredPage", name := "shape", desc := "(JIII)I" } : MethodName) prog_1_method_2_code (7 : Nat) (Option.some FieldType.int)) ∈ TT := TT_in (List.mem_append_right _ (List.mem_of_getElem? (i := 249) (rfl))) rfl
theorem t_250 : (Cond.methodLink "LayeredPage" (47 : Nat) ({ cls := "LayeredPage$Page", name := "hasShape", desc := "(I)Z" } : MethodName)) ∈ TT := TT_in (List.mem_append_right _ (List.mem_of_getElem? (i := 250) (by decide +kernel))) rfl
theorem t_251 : (Cond.instanceMethod ({ cls := "LayeredPage$Page", name := "hasShape", desc := "(I)Z" } : MethodName)) ∈ TT := TT_in (List.mem_append_right _ (List.mem_of_getElem? (i := 251) (by decide +kernel))) rfl
theorem t_252 : (Cond.selects "LayeredPage$Page" ({ cls := "LayeredPage$Page", name := "hasShape", desc := "(I)Z" } : MethodName) ({ cls := "LayeredPage$Page", name := "hasShape", desc := "(I)Z" } : MethodName)) ∈ TT := TT_in (List.mem_append_right _ (List.mem_of_getElem? (i := 252) (by decide +kernel))) rfl
set_option maxRecDepth 100000 in
theorem t_253 : (Cond.code ({ cls := "LayeredPage$Page", name := "hasShape", desc := "(I)Z" } : MethodName) prog_9_method_3_code (2 : Nat) (Option.some FieldType.boolean)) ∈ TT := TT_in (List.mem_append_right _ (List.mem_of_getElem? (i := 253) (rfl))) rfl
theorem t_254 : (Cond.methodLink "LayeredPage" (51 : Nat) ({ cls := "LayeredPage", name := "isShapeSide", desc := "(I)Z" } : MethodName)) ∈ TT := TT_in (List.mem_append_right _ (List.mem_of_getElem? (i := 254) (by decide +kernel))) rfl
theorem t_255 : (Cond.static ({ cls := "LayeredPage", name := "isShapeSide", desc := "(I)Z" } : MethodName)) ∈ TT := TT_in (List.mem_append_right _ (List.mem_of_getElem? (i := 255) (by decide +kernel))) rfl
set_option maxRecDepth 100000 in
theorem t_256 : (Cond.code ({ cls := "LayeredPage", name := "isShapeSide", desc := "(I)Z" } : MethodName) prog_1_method_21_code (1 : Nat) (Option.some FieldType.boolean)) ∈ TT := TT_in (List.mem_append_right _ (List.mem_of_getElem? (i := 256) (rfl))) rfl
theorem t_257 : (Cond.methodLink "LayeredPage" (54 : Nat) ({ cls := "LayeredPage", name := "shapeMask", desc := "(II)J" } : MethodName)) ∈ TT := TT_in (List.mem_append_right _ (List.mem_of_getElem? (i := 257) (by decide +kernel))) rfl
theorem t_258 : (Cond.static ({ cls := "LayeredPage", name := "shapeMask", desc := "(II)J" } : MethodName)) ∈ TT := TT_in (List.mem_append_right _ (List.mem_of_getElem? (i := 258) (by decide +kernel))) rfl
set_option maxRecDepth 100000 in
theorem t_259 : (Cond.code ({ cls := "LayeredPage", name := "shapeMask", desc := "(II)J" } : MethodName) prog_1_method_22_code (7 : Nat) (Option.some FieldType.long)) ∈ TT := TT_in (List.mem_append_right _ (List.mem_of_getElem? (i := 259) (rfl))) rfl
theorem t_260 : (Cond.constantLong "LayeredPage" (58 : Nat) (-1 : Int64)) ∈ TT := TT_in (List.mem_append_right _ (List.mem_of_getElem? (i := 260) (by decide +kernel))) rfl
theorem t_261 : (Cond.methodLink "LayeredPage" (60 : Nat) ({ cls := "LayeredPage$Page", name := "addShape", desc := "(JIII)I" } : MethodName)) ∈ TT := TT_in (List.mem_append_right _ (List.mem_of_getElem? (i := 261) (by decide +kernel))) rfl
theorem t_262 : (Cond.instanceMethod ({ cls := "LayeredPage$Page", name := "addShape", desc := "(JIII)I" } : MethodName)) ∈ TT := TT_in (List.mem_append_right _ (List.mem_of_getElem? (i := 262) (by decide +kernel))) rfl
theorem t_263 : (Cond.selects "LayeredPage$Page" ({ cls := "LayeredPage$Page", name := "addShape", desc := "(JIII)I" } : MethodName) ({ cls := "LayeredPage$Page", name := "addShape", desc := "(JIII)I" } : MethodName)) ∈ TT := TT_in (List.mem_append_right _ (List.mem_of_getElem? (i := 263) (by decide +kernel))) rfl
set_option maxRecDepth 100000 in
theorem t_264 : (Cond.code ({ cls := "LayeredPage$Page", name := "addShape", desc := "(JIII)I" } : MethodName) prog_9_method_5_code (7 : Nat) (Option.some FieldType.int)) ∈ TT := TT_in (List.mem_append_right _ (List.mem_of_getElem? (i := 264) (rfl))) rfl
theorem t_265 : (Cond.methodLink "LayeredPageLaw" (20 : Nat) ({ cls := "LayeredPage", name := "place", desc := "(III)I" } : MethodName)) ∈ TT := TT_in (List.mem_append_right _ (List.mem_of_getElem? (i := 265) (by decide +kernel))) rfl
theorem t_266 : (Cond.instanceMethod ({ cls := "LayeredPage", name := "place", desc := "(III)I" } : MethodName)) ∈ TT := TT_in (List.mem_append_right _ (List.mem_of_getElem? (i := 266) (by decide +kernel))) rfl
theorem t_267 : (Cond.selects "LayeredPage" ({ cls := "LayeredPage", name := "place", desc := "(III)I" } : MethodName) ({ cls := "LayeredPage", name := "place", desc := "(III)I" } : MethodName)) ∈ TT := TT_in (List.mem_append_right _ (List.mem_of_getElem? (i := 267) (by decide +kernel))) rfl
set_option maxRecDepth 100000 in
theorem t_268 : (Cond.code ({ cls := "LayeredPage", name := "place", desc := "(III)I" } : MethodName) prog_1_method_3_code (4 : Nat) (Option.some FieldType.int)) ∈ TT := TT_in (List.mem_append_right _ (List.mem_of_getElem? (i := 268) (rfl))) rfl
theorem t_269 : (Cond.methodLink "LayeredPage" (64 : Nat) ({ cls := "LayeredPage", name := "isOnPage", desc := "(II)Z" } : MethodName)) ∈ TT := TT_in (List.mem_append_right _ (List.mem_of_getElem? (i := 269) (by decide +kernel))) rfl
theorem t_270 : (Cond.static ({ cls := "LayeredPage", name := "isOnPage", desc := "(II)Z" } : MethodName)) ∈ TT := TT_in (List.mem_append_right _ (List.mem_of_getElem? (i := 270) (by decide +kernel))) rfl
set_option maxRecDepth 100000 in
theorem t_271 : (Cond.code ({ cls := "LayeredPage", name := "isOnPage", desc := "(II)Z" } : MethodName) prog_1_method_20_code (2 : Nat) (Option.some FieldType.boolean)) ∈ TT := TT_in (List.mem_append_right _ (List.mem_of_getElem? (i := 271) (rfl))) rfl
theorem t_272 : (Cond.methodLink "LayeredPage" (68 : Nat) ({ cls := "LayeredPage$Page", name := "addPlacing", desc := "(II)I" } : MethodName)) ∈ TT := TT_in (List.mem_append_right _ (List.mem_of_getElem? (i := 272) (by decide +kernel))) rfl
theorem t_273 : (Cond.instanceMethod ({ cls := "LayeredPage$Page", name := "addPlacing", desc := "(II)I" } : MethodName)) ∈ TT := TT_in (List.mem_append_right _ (List.mem_of_getElem? (i := 273) (by decide +kernel))) rfl
theorem t_274 : (Cond.selects "LayeredPage$Page" ({ cls := "LayeredPage$Page", name := "addPlacing", desc := "(II)I" } : MethodName) ({ cls := "LayeredPage$Page", name := "addPlacing", desc := "(II)I" } : MethodName)) ∈ TT := TT_in (List.mem_append_right _ (List.mem_of_getElem? (i := 274) (by decide +kernel))) rfl
set_option maxRecDepth 100000 in
theorem t_275 : (Cond.code ({ cls := "LayeredPage$Page", name := "addPlacing", desc := "(II)I" } : MethodName) prog_9_method_6_code (3 : Nat) (Option.some FieldType.int)) ∈ TT := TT_in (List.mem_append_right _ (List.mem_of_getElem? (i := 275) (rfl))) rfl
theorem t_276 : (Cond.methodLink "LayeredPageLaw" (25 : Nat) ({ cls := "LayeredPage", name := "paint", desc := "(IIJ)Z" } : MethodName)) ∈ TT := TT_in (List.mem_append_right _ (List.mem_of_getElem? (i := 276) (by decide +kernel))) rfl
theorem t_277 : (Cond.instanceMethod ({ cls := "LayeredPage", name := "paint", desc := "(IIJ)Z" } : MethodName)) ∈ TT := TT_in (List.mem_append_right _ (List.mem_of_getElem? (i := 277) (by decide +kernel))) rfl
theorem t_278 : (Cond.selects "LayeredPage" ({ cls := "LayeredPage", name := "paint", desc := "(IIJ)Z" } : MethodName) ({ cls := "LayeredPage", name := "paint", desc := "(IIJ)Z" } : MethodName)) ∈ TT := TT_in (List.mem_append_right _ (List.mem_of_getElem? (i := 278) (by decide +kernel))) rfl
set_option maxRecDepth 100000 in
theorem t_279 : (Cond.code ({ cls := "LayeredPage", name := "paint", desc := "(IIJ)Z" } : MethodName) prog_1_method_4_code (7 : Nat) (Option.some FieldType.boolean)) ∈ TT := TT_in (List.mem_append_right _ (List.mem_of_getElem? (i := 279) (rfl))) rfl
theorem t_280 : (Cond.methodLink "LayeredPage" (72 : Nat) ({ cls := "LayeredPage$Page", name := "layerOf", desc := "(I)LLayeredPage$Layer;" } : MethodName)) ∈ TT := TT_in (List.mem_append_right _ (List.mem_of_getElem? (i := 280) (by decide +kernel))) rfl
theorem t_281 : (Cond.instanceMethod ({ cls := "LayeredPage$Page", name := "layerOf", desc := "(I)LLayeredPage$Layer;" } : MethodName)) ∈ TT := TT_in (List.mem_append_right _ (List.mem_of_getElem? (i := 281) (by decide +kernel))) rfl
theorem t_282 : (Cond.selects "LayeredPage$Page" ({ cls := "LayeredPage$Page", name := "layerOf", desc := "(I)LLayeredPage$Layer;" } : MethodName) ({ cls := "LayeredPage$Page", name := "layerOf", desc := "(I)LLayeredPage$Layer;" } : MethodName)) ∈ TT := TT_in (List.mem_append_right _ (List.mem_of_getElem? (i := 282) (by decide +kernel))) rfl
set_option maxRecDepth 100000 in
theorem t_283 : (Cond.code ({ cls := "LayeredPage$Page", name := "layerOf", desc := "(I)LLayeredPage$Layer;" } : MethodName) prog_9_method_4_code (2 : Nat) (Option.some (FieldType.object "LayeredPage$Layer"))) ∈ TT := TT_in (List.mem_append_right _ (List.mem_of_getElem? (i := 283) (rfl))) rfl
theorem t_284 : (Cond.methodLink "LayeredPage" (76 : Nat) ({ cls := "LayeredPage$Layer", name := "hasCell", desc := "(II)Z" } : MethodName)) ∈ TT := TT_in (List.mem_append_right _ (List.mem_of_getElem? (i := 284) (by decide +kernel))) rfl
theorem t_285 : (Cond.instanceMethod ({ cls := "LayeredPage$Layer", name := "hasCell", desc := "(II)Z" } : MethodName)) ∈ TT := TT_in (List.mem_append_right _ (List.mem_of_getElem? (i := 285) (by decide +kernel))) rfl
theorem t_286 : (Cond.selects "LayeredPage$Layer" ({ cls := "LayeredPage$Layer", name := "hasCell", desc := "(II)Z" } : MethodName) ({ cls := "LayeredPage$Layer", name := "hasCell", desc := "(II)Z" } : MethodName)) ∈ TT := TT_in (List.mem_append_right _ (List.mem_of_getElem? (i := 286) (by decide +kernel))) rfl
set_option maxRecDepth 100000 in
theorem t_287 : (Cond.code ({ cls := "LayeredPage$Layer", name := "hasCell", desc := "(II)Z" } : MethodName) prog_7_method_3_code (3 : Nat) (Option.some FieldType.boolean)) ∈ TT := TT_in (List.mem_append_right _ (List.mem_of_getElem? (i := 287) (rfl))) rfl
theorem t_288 : (Cond.constantLong "LayeredPage" (81 : Nat) (-4557430888798830400 : Int64)) ∈ TT := TT_in (List.mem_append_right _ (List.mem_of_getElem? (i := 288) (by decide +kernel))) rfl
theorem t_289 : (Cond.methodLink "LayeredPage" (87 : Nat) ({ cls := "LayeredPage$Layer", name := "setRow", desc := "(IJ)V" } : MethodName)) ∈ TT := TT_in (List.mem_append_right _ (List.mem_of_getElem? (i := 289) (by decide +kernel))) rfl
theorem t_290 : (Cond.instanceMethod ({ cls := "LayeredPage$Layer", name := "setRow", desc := "(IJ)V" } : MethodName)) ∈ TT := TT_in (List.mem_append_right _ (List.mem_of_getElem? (i := 290) (by decide +kernel))) rfl
theorem t_291 : (Cond.selects "LayeredPage$Layer" ({ cls := "LayeredPage$Layer", name := "setRow", desc := "(IJ)V" } : MethodName) ({ cls := "LayeredPage$Layer", name := "setRow", desc := "(IJ)V" } : MethodName)) ∈ TT := TT_in (List.mem_append_right _ (List.mem_of_getElem? (i := 291) (by decide +kernel))) rfl
set_option maxRecDepth 100000 in
theorem t_292 : (Cond.code ({ cls := "LayeredPage$Layer", name := "setRow", desc := "(IJ)V" } : MethodName) prog_7_method_7_code (5 : Nat) (Option.none : Option FieldType)) ∈ TT := TT_in (List.mem_append_right _ (List.mem_of_getElem? (i := 292) (rfl))) rfl
theorem t_293 : (Cond.methodLink "LayeredPage$Layer" (42 : Nat) ({ cls := "LayeredPage$Layer", name := "indexOf", desc := "(II)I" } : MethodName)) ∈ TT := TT_in (List.mem_append_right _ (List.mem_of_getElem? (i := 293) (by decide +kernel))) rfl
theorem t_295 : (Cond.instanceMethod ({ cls := "LayeredPage$Layer", name := "indexOf", desc := "(II)I" } : MethodName)) ∈ TT := TT_in (List.mem_append_right _ (List.mem_of_getElem? (i := 295) (by decide +kernel))) rfl
set_option maxRecDepth 100000 in
theorem t_296 : (Cond.code ({ cls := "LayeredPage$Layer", name := "indexOf", desc := "(II)I" } : MethodName) prog_7_method_4_code (3 : Nat) (Option.some FieldType.int)) ∈ TT := TT_in (List.mem_append_right _ (List.mem_of_getElem? (i := 296) (rfl))) rfl
theorem t_297 : (Cond.methodLink "LayeredPageLaw" (30 : Nat) ({ cls := "LayeredPage", name := "clear", desc := "()V" } : MethodName)) ∈ TT := TT_in (List.mem_append_right _ (List.mem_of_getElem? (i := 297) (by decide +kernel))) rfl
theorem t_298 : (Cond.instanceMethod ({ cls := "LayeredPage", name := "clear", desc := "()V" } : MethodName)) ∈ TT := TT_in (List.mem_append_right _ (List.mem_of_getElem? (i := 298) (by decide +kernel))) rfl
theorem t_299 : (Cond.selects "LayeredPage" ({ cls := "LayeredPage", name := "clear", desc := "()V" } : MethodName) ({ cls := "LayeredPage", name := "clear", desc := "()V" } : MethodName)) ∈ TT := TT_in (List.mem_append_right _ (List.mem_of_getElem? (i := 299) (by decide +kernel))) rfl
set_option maxRecDepth 100000 in
theorem t_300 : (Cond.code ({ cls := "LayeredPage", name := "clear", desc := "()V" } : MethodName) prog_1_method_5_code (1 : Nat) (Option.none : Option FieldType)) ∈ TT := TT_in (List.mem_append_right _ (List.mem_of_getElem? (i := 300) (rfl))) rfl
theorem t_301 : (Cond.methodLink "LayeredPage" (91 : Nat) ({ cls := "LayeredPage$Page", name := "makeEmpty", desc := "()V" } : MethodName)) ∈ TT := TT_in (List.mem_append_right _ (List.mem_of_getElem? (i := 301) (by decide +kernel))) rfl
theorem t_302 : (Cond.instanceMethod ({ cls := "LayeredPage$Page", name := "makeEmpty", desc := "()V" } : MethodName)) ∈ TT := TT_in (List.mem_append_right _ (List.mem_of_getElem? (i := 302) (by decide +kernel))) rfl
theorem t_303 : (Cond.selects "LayeredPage$Page" ({ cls := "LayeredPage$Page", name := "makeEmpty", desc := "()V" } : MethodName) ({ cls := "LayeredPage$Page", name := "makeEmpty", desc := "()V" } : MethodName)) ∈ TT := TT_in (List.mem_append_right _ (List.mem_of_getElem? (i := 303) (by decide +kernel))) rfl
set_option maxRecDepth 100000 in
theorem t_304 : (Cond.code ({ cls := "LayeredPage$Page", name := "makeEmpty", desc := "()V" } : MethodName) prog_9_method_2_code (1 : Nat) (Option.none : Option FieldType)) ∈ TT := TT_in (List.mem_append_right _ (List.mem_of_getElem? (i := 304) (rfl))) rfl
theorem t_305 : (Cond.methodLink "LayeredPage$Page" (44 : Nat) ({ cls := "LayeredPage$Layer", name := "makeEmpty", desc := "()V" } : MethodName)) ∈ TT := TT_in (List.mem_append_right _ (List.mem_of_getElem? (i := 305) (by decide +kernel))) rfl
theorem t_306 : (Cond.instanceMethod ({ cls := "LayeredPage$Layer", name := "makeEmpty", desc := "()V" } : MethodName)) ∈ TT := TT_in (List.mem_append_right _ (List.mem_of_getElem? (i := 306) (by decide +kernel))) rfl
theorem t_307 : (Cond.selects "LayeredPage$Layer" ({ cls := "LayeredPage$Layer", name := "makeEmpty", desc := "()V" } : MethodName) ({ cls := "LayeredPage$Layer", name := "makeEmpty", desc := "()V" } : MethodName)) ∈ TT := TT_in (List.mem_append_right _ (List.mem_of_getElem? (i := 307) (by decide +kernel))) rfl
set_option maxRecDepth 100000 in
theorem t_308 : (Cond.code ({ cls := "LayeredPage$Layer", name := "makeEmpty", desc := "()V" } : MethodName) prog_7_method_2_code (1 : Nat) (Option.none : Option FieldType)) ∈ TT := TT_in (List.mem_append_right _ (List.mem_of_getElem? (i := 308) (rfl))) rfl
theorem t_309 : (Cond.methodLink "LayeredPage$Layer" (32 : Nat) ({ cls := "java/util/Arrays", name := "fill", desc := "([II)V" } : MethodName)) ∈ TT := TT_in (List.mem_append_right _ (List.mem_of_getElem? (i := 309) (by decide +kernel))) rfl
theorem t_310 : (Cond.methodLink "LayeredPageLaw" (34 : Nat) ({ cls := "LayeredPage", name := "encode", desc := "(I)I" } : MethodName)) ∈ TT := TT_in (List.mem_append_right _ (List.mem_of_getElem? (i := 310) (by decide +kernel))) rfl
theorem t_311 : (Cond.instanceMethod ({ cls := "LayeredPage", name := "encode", desc := "(I)I" } : MethodName)) ∈ TT := TT_in (List.mem_append_right _ (List.mem_of_getElem? (i := 311) (by decide +kernel))) rfl
theorem t_312 : (Cond.selects "LayeredPage" ({ cls := "LayeredPage", name := "encode", desc := "(I)I" } : MethodName) ({ cls := "LayeredPage", name := "encode", desc := "(I)I" } : MethodName)) ∈ TT := TT_in (List.mem_append_right _ (List.mem_of_getElem? (i := 312) (by decide +kernel))) rfl
set_option maxRecDepth 100000 in
theorem t_313 : (Cond.code ({ cls := "LayeredPage", name := "encode", desc := "(I)I" } : MethodName) prog_1_method_6_code (2 : Nat) (Option.some FieldType.int)) ∈ TT := TT_in (List.mem_append_right _ (List.mem_of_getElem? (i := 313) (rfl))) rfl
theorem t_314 : (Cond.methodLink "LayeredPage" (94 : Nat) ({ cls := "LayeredPage$DocumentWriter", name := "write", desc := "(LLayeredPage$Page;ILLayeredPage$Octets;)V" } : MethodName)) ∈ TT := TT_in (List.mem_append_right _ (List.mem_of_getElem? (i := 314) (by decide +kernel))) rfl
theorem t_315 : (Cond.instanceMethod ({ cls := "LayeredPage$DocumentWriter", name := "write", desc := "(LLayeredPage$Page;ILLayeredPage$Octets;)V" } : MethodName)) ∈ TT := TT_in (List.mem_append_right _ (List.mem_of_getElem? (i := 315) (by decide +kernel))) rfl
theorem t_316 : (Cond.selects "LayeredPage$DocumentWriter" ({ cls := "LayeredPage$DocumentWriter", name := "write", desc := "(LLayeredPage$Page;ILLayeredPage$Octets;)V" } : MethodName) ({ cls := "LayeredPage$DocumentWriter", name := "write", desc := "(LLayeredPage$Page;ILLayeredPage$Octets;)V" } : MethodName)) ∈ TT := TT_in (List.mem_append_right _ (List.mem_of_getElem? (i := 316) (by decide +kernel))) rfl
set_option maxRecDepth 100000 in
theorem t_317 : (Cond.code ({ cls := "LayeredPage$DocumentWriter", name := "write", desc := "(LLayeredPage$Page;ILLayeredPage$Octets;)V" } : MethodName) prog_6_method_2_code (5 : Nat) (Option.none : Option FieldType)) ∈ TT := TT_in (List.mem_append_right _ (List.mem_of_getElem? (i := 317) (rfl))) rfl
theorem t_318 : (Cond.methodLink "LayeredPage$DocumentWriter" (18 : Nat) ({ cls := "LayeredPage$Octets", name := "keep", desc := "(I)V" } : MethodName)) ∈ TT := TT_in (List.mem_append_right _ (List.mem_of_getElem? (i := 318) (by decide +kernel))) rfl
theorem t_319 : (Cond.instanceMethod ({ cls := "LayeredPage$Octets", name := "keep", desc := "(I)V" } : MethodName)) ∈ TT := TT_in (List.mem_append_right _ (List.mem_of_getElem? (i := 319) (by decide +kernel))) rfl
theorem t_320 : (Cond.selects "LayeredPage$Octets" ({ cls := "LayeredPage$Octets", name := "keep", desc := "(I)V" } : MethodName) ({ cls := "LayeredPage$Octets", name := "keep", desc := "(I)V" } : MethodName)) ∈ TT := TT_in (List.mem_append_right _ (List.mem_of_getElem? (i := 320) (by decide +kernel))) rfl
set_option maxRecDepth 100000 in
theorem t_321 : (Cond.code ({ cls := "LayeredPage$Octets", name := "keep", desc := "(I)V" } : MethodName) prog_8_method_5_code (3 : Nat) (Option.none : Option FieldType)) ∈ TT := TT_in (List.mem_append_right _ (List.mem_of_getElem? (i := 321) (rfl))) rfl
theorem t_322 : (Cond.methodLink "LayeredPage$DocumentWriter" (24 : Nat) ({ cls := "LayeredPage$Octets", name := "append", desc := "(I)V" } : MethodName)) ∈ TT := TT_in (List.mem_append_right _ (List.mem_of_getElem? (i := 322) (by decide +kernel))) rfl
theorem t_323 : (Cond.instanceMethod ({ cls := "LayeredPage$Octets", name := "append", desc := "(I)V" } : MethodName)) ∈ TT := TT_in (List.mem_append_right _ (List.mem_of_getElem? (i := 323) (by decide +kernel))) rfl
theorem t_324 : (Cond.selects "LayeredPage$Octets" ({ cls := "LayeredPage$Octets", name := "append", desc := "(I)V" } : MethodName) ({ cls := "LayeredPage$Octets", name := "append", desc := "(I)V" } : MethodName)) ∈ TT := TT_in (List.mem_append_right _ (List.mem_of_getElem? (i := 324) (by decide +kernel))) rfl
set_option maxRecDepth 100000 in
theorem t_325 : (Cond.code ({ cls := "LayeredPage$Octets", name := "append", desc := "(I)V" } : MethodName) prog_8_method_4_code (2 : Nat) (Option.none : Option FieldType)) ∈ TT := TT_in (List.mem_append_right _ (List.mem_of_getElem? (i := 325) (rfl))) rfl
theorem t_326 : (Cond.methodLink "LayeredPage$Octets" (25 : Nat) ({ cls := "LayeredPage$Octets", name := "set", desc := "(II)V" } : MethodName)) ∈ TT := TT_in (List.mem_append_right _ (List.mem_of_getElem? (i := 326) (by decide +kernel))) rfl
theorem t_327 : (Cond.instanceMethod ({ cls := "LayeredPage$Octets", name := "set", desc := "(II)V" } : MethodName)) ∈ TT := TT_in (List.mem_append_right _ (List.mem_of_getElem? (i := 327) (by decide +kernel))) rfl
theorem t_328 : (Cond.selects "LayeredPage$Octets" ({ cls := "LayeredPage$Octets", name := "set", desc := "(II)V" } : MethodName) ({ cls := "LayeredPage$Octets", name := "set", desc := "(II)V" } : MethodName)) ∈ TT := TT_in (List.mem_append_right _ (List.mem_of_getElem? (i := 328) (by decide +kernel))) rfl
set_option maxRecDepth 100000 in
theorem t_329 : (Cond.code ({ cls := "LayeredPage$Octets", name := "set", desc := "(II)V" } : MethodName) prog_8_method_3_code (3 : Nat) (Option.none : Option FieldType)) ∈ TT := TT_in (List.mem_append_right _ (List.mem_of_getElem? (i := 329) (rfl))) rfl
theorem t_330 : (Cond.methodLink "LayeredPage$Octets" (19 : Nat) ({ cls := "java/lang/Math", name := "max", desc := "(II)I" } : MethodName)) ∈ TT := TT_in (List.mem_append_right _ (List.mem_of_getElem? (i := 330) (by decide +kernel))) rfl
theorem t_331 : (Cond.static ({ cls := "java/lang/Math", name := "max", desc := "(II)I" } : MethodName)) ∈ TT := TT_in (List.mem_append_right _ (List.mem_of_getElem? (i := 331) (by decide +kernel))) rfl
set_option maxRecDepth 100000 in
theorem t_332 : (Cond.code ({ cls := "java/lang/Math", name := "max", desc := "(II)I" } : MethodName) prog_13_method_65_code (2 : Nat) (Option.some FieldType.int)) ∈ TT := TT_in (List.mem_append_right _ (List.mem_of_getElem? (i := 332) (rfl))) rfl
theorem t_333 : (Cond.methodLink "LayeredPage$DocumentWriter" (33 : Nat) ({ cls := "LayeredPage$DocumentWriter", name := "writeShape", desc := "(LLayeredPage$Page;ILLayeredPage$Octets;)V" } : MethodName)) ∈ TT := TT_in (List.mem_append_right _ (List.mem_of_getElem? (i := 333) (by decide +kernel))) rfl
theorem t_335 : (Cond.instanceMethod ({ cls := "LayeredPage$DocumentWriter", name := "writeShape", desc := "(LLayeredPage$Page;ILLayeredPage$Octets;)V" } : MethodName)) ∈ TT := TT_in (List.mem_append_right _ (List.mem_of_getElem? (i := 335) (by decide +kernel))) rfl
set_option maxRecDepth 100000 in
theorem t_336 : (Cond.code ({ cls := "LayeredPage$DocumentWriter", name := "writeShape", desc := "(LLayeredPage$Page;ILLayeredPage$Octets;)V" } : MethodName) prog_6_method_3_code (6 : Nat) (Option.none : Option FieldType)) ∈ TT := TT_in (List.mem_append_right _ (List.mem_of_getElem? (i := 336) (rfl))) rfl
theorem t_337 : (Cond.methodLink "LayeredPage$DocumentWriter" (56 : Nat) ({ cls := "LayeredPage$Octets", name := "openChunk", desc := "(I)I" } : MethodName)) ∈ TT := TT_in (List.mem_append_right _ (List.mem_of_getElem? (i := 337) (by decide +kernel))) rfl
theorem t_338 : (Cond.instanceMethod ({ cls := "LayeredPage$Octets", name := "openChunk", desc := "(I)I" } : MethodName)) ∈ TT := TT_in (List.mem_append_right _ (List.mem_of_getElem? (i := 338) (by decide +kernel))) rfl
theorem t_339 : (Cond.selects "LayeredPage$Octets" ({ cls := "LayeredPage$Octets", name := "openChunk", desc := "(I)I" } : MethodName) ({ cls := "LayeredPage$Octets", name := "openChunk", desc := "(I)I" } : MethodName)) ∈ TT := TT_in (List.mem_append_right _ (List.mem_of_getElem? (i := 339) (by decide +kernel))) rfl
set_option maxRecDepth 100000 in
theorem t_340 : (Cond.code ({ cls := "LayeredPage$Octets", name := "openChunk", desc := "(I)I" } : MethodName) prog_8_method_7_code (2 : Nat) (Option.some FieldType.int)) ∈ TT := TT_in (List.mem_append_right _ (List.mem_of_getElem? (i := 340) (rfl))) rfl
theorem t_341 : (Cond.methodLink "LayeredPage$Octets" (32 : Nat) ({ cls := "LayeredPage$Octets", name := "append", desc := "(I)V" } : MethodName)) ∈ TT := TT_in (List.mem_append_right _ (List.mem_of_getElem? (i := 341) (by decide +kernel))) rfl
theorem t_342 : (Cond.methodLink "LayeredPage$DocumentWriter" (78 : Nat) ({ cls := "LayeredPage$CodeWriter", name := "begin", desc := "([II)V" } : MethodName)) ∈ TT := TT_in (List.mem_append_right _ (List.mem_of_getElem? (i := 342) (by decide +kernel))) rfl
theorem t_343 : (Cond.instanceMethod ({ cls := "LayeredPage$CodeWriter", name := "begin", desc := "([II)V" } : MethodName)) ∈ TT := TT_in (List.mem_append_right _ (List.mem_of_getElem? (i := 343) (by decide +kernel))) rfl
theorem t_344 : (Cond.selects "LayeredPage$CodeWriter" ({ cls := "LayeredPage$CodeWriter", name := "begin", desc := "([II)V" } : MethodName) ({ cls := "LayeredPage$CodeWriter", name := "begin", desc := "([II)V" } : MethodName)) ∈ TT := TT_in (List.mem_append_right _ (List.mem_of_getElem? (i := 344) (by decide +kernel))) rfl
set_option maxRecDepth 100000 in
theorem t_345 : (Cond.code ({ cls := "LayeredPage$CodeWriter", name := "begin", desc := "([II)V" } : MethodName) prog_3_method_2_code (3 : Nat) (Option.none : Option FieldType)) ∈ TT := TT_in (List.mem_append_right _ (List.mem_of_getElem? (i := 345) (rfl))) rfl
theorem t_346 : (Cond.methodLink "LayeredPage$CodeWriter" (20 : Nat) ({ cls := "LayeredPage$CodeWriter", name := "restart", desc := "()V" } : MethodName)) ∈ TT := TT_in (List.mem_append_right _ (List.mem_of_getElem? (i := 346) (by decide +kernel))) rfl
theorem t_347 : (Cond.sameMethod "LayeredPage$CodeWriter" "LayeredPage$Coder" "restart" "()V") ∈ TT := TT_in (List.mem_append_right _ (List.mem_of_getElem? (i := 347) (by decide +kernel))) rfl
theorem q_348 : (Cond.declares ({ cls := "LayeredPage$Coder", name := "restart", desc := "()V" } : MethodName)) ∈ lw_tbl := List.mem_append_right _ (List.mem_of_getElem? (i := 348) (by decide +kernel))
theorem t_349 : (Cond.selects "LayeredPage$CodeWriter" ({ cls := "LayeredPage$CodeWriter", name := "restart", desc := "()V" } : MethodName) ({ cls := "LayeredPage$Coder", name := "restart", desc := "()V" } : MethodName)) ∈ TT := TT_in (List.mem_append_right _ (List.mem_of_getElem? (i := 349) (by decide +kernel))) rfl
theorem t_350 : (Cond.methodLink "LayeredPage$DocumentWriter" (82 : Nat) ({ cls := "LayeredPage$Page", name := "codeShape", desc := "(ILLayeredPage$Coder;)V" } : MethodName)) ∈ TT := TT_in (List.mem_append_right _ (List.mem_of_getElem? (i := 350) (by decide +kernel))) rfl
theorem t_351 : (Cond.instanceMethod ({ cls := "LayeredPage$Page", name := "codeShape", desc := "(ILLayeredPage$Coder;)V" } : MethodName)) ∈ TT := TT_in (List.mem_append_right _ (List.mem_of_getElem? (i := 351) (by decide +kernel))) rfl
theorem t_352 : (Cond.selects "LayeredPage$Page" ({ cls := "LayeredPage$Page", name := "codeShape", desc := "(ILLayeredPage$Coder;)V" } : MethodName) ({ cls := "LayeredPage$Page", name := "codeShape", desc := "(ILLayeredPage$Coder;)V" } : MethodName)) ∈ TT := TT_in (List.mem_append_right _ (List.mem_of_getElem? (i := 352) (by decide +kernel))) rfl
set_option maxRecDepth 100000 in
theorem t_353 : (Cond.code ({ cls := "LayeredPage$Page", name := "codeShape", desc := "(ILLayeredPage$Coder;)V" } : MethodName) prog_9_method_8_code (8 : Nat) (Option.none : Option FieldType)) ∈ TT := TT_in (List.mem_append_right _ (List.mem_of_getElem? (i := 353) (rfl))) rfl
theorem t_354 : (Cond.methodLink "LayeredPage$Page" (64 : Nat) ({ cls := "LayeredPage$Page", name := "hasShape", desc := "(I)Z" } : MethodName)) ∈ TT := TT_in (List.mem_append_right _ (List.mem_of_getElem? (i := 354) (by decide +kernel))) rfl
theorem t_355 : (Cond.methodLink "LayeredPage$Page" (68 : Nat) ({ cls := "LayeredPage$Shape", name := "contextAlone", desc := "(II)I" } : MethodName)) ∈ TT := TT_in (List.mem_append_right _ (List.mem_of_getElem? (i := 355) (by decide +kernel))) rfl
theorem t_356 : (Cond.instanceMethod ({ cls := "LayeredPage$Shape", name := "contextAlone", desc := "(II)I" } : MethodName)) ∈ TT := TT_in (List.mem_append_right _ (List.mem_of_getElem? (i := 356) (by decide +kernel))) rfl
theorem t_357 : (Cond.selects "LayeredPage$Shape" ({ cls := "LayeredPage$Shape", name := "contextAlone", desc := "(II)I" } : MethodName) ({ cls := "LayeredPage$Shape", name := "contextAlone", desc := "(II)I" } : MethodName)) ∈ TT := TT_in (List.mem_append_right _ (List.mem_of_getElem? (i := 357) (by decide +kernel))) rfl
set_option maxRecDepth 100000 in
theorem t_358 : (Cond.code ({ cls := "LayeredPage$Shape", name := "contextAlone", desc := "(II)I" } : MethodName) prog_10_method_3_code (3 : Nat) (Option.some FieldType.int)) ∈ TT := TT_in (List.mem_append_right _ (List.mem_of_getElem? (i := 358) (rfl))) rfl
theorem t_359 : (Cond.methodLink "LayeredPage$Shape" (25 : Nat) ({ cls := "LayeredPage$Shape", name := "bitAt", desc := "(II)I" } : MethodName)) ∈ TT := TT_in (List.mem_append_right _ (List.mem_of_getElem? (i := 359) (by decide +kernel))) rfl
theorem t_360 : (Cond.instanceMethod ({ cls := "LayeredPage$Shape", name := "bitAt", desc := "(II)I" } : MethodName)) ∈ TT := TT_in (List.mem_append_right _ (List.mem_of_getElem? (i := 360) (by decide +kernel))) rfl
theorem t_361 : (Cond.selects "LayeredPage$Shape" ({ cls := "LayeredPage$Shape", name := "bitAt", desc := "(II)I" } : MethodName) ({ cls := "LayeredPage$Shape", name := "bitAt", desc := "(II)I" } : MethodName)) ∈ TT := TT_in (List.mem_append_right _ (List.mem_of_getElem? (i := 361) (by decide +kernel))) rfl
set_option maxRecDepth 100000 in
theorem t_362 : (Cond.code ({ cls := "LayeredPage$Shape", name := "bitAt", desc := "(II)I" } : MethodName) prog_10_method_2_code (3 : Nat) (Option.some FieldType.int)) ∈ TT := TT_in (List.mem_append_right _ (List.mem_of_getElem? (i := 362) (rfl))) rfl
theorem t_363 : (Cond.methodLink "LayeredPage$Page" (71 : Nat) ({ cls := "LayeredPage$Shape", name := "contextWith", desc := "(LLayeredPage$Shape;II)I" } : MethodName)) ∈ TT := TT_in (List.mem_append_right _ (List.mem_of_getElem? (i := 363) (by decide +kernel))) rfl
theorem t_364 : (Cond.instanceMethod ({ cls := "LayeredPage$Shape", name := "contextWith", desc := "(LLayeredPage$Shape;II)I" } : MethodName)) ∈ TT := TT_in (List.mem_append_right _ (List.mem_of_getElem? (i := 364) (by decide +kernel))) rfl
theorem t_365 : (Cond.selects "LayeredPage$Shape" ({ cls := "LayeredPage$Shape", name := "contextWith", desc := "(LLayeredPage$Shape;II)I" } : MethodName) ({ cls := "LayeredPage$Shape", name := "contextWith", desc := "(LLayeredPage$Shape;II)I" } : MethodName)) ∈ TT := TT_in (List.mem_append_right _ (List.mem_of_getElem? (i := 365) (by decide +kernel))) rfl
set_option maxRecDepth 100000 in
theorem t_366 : (Cond.code ({ cls := "LayeredPage$Shape", name := "contextWith", desc := "(LLayeredPage$Shape;II)I" } : MethodName) prog_10_method_4_code (4 : Nat) (Option.some FieldType.int)) ∈ TT := TT_in (List.mem_append_right _ (List.mem_of_getElem? (i := 366) (rfl))) rfl
theorem t_367 : (Cond.methodLink "LayeredPage$Page" (60 : Nat) ({ cls := "LayeredPage$Shape", name := "bitAt", desc := "(II)I" } : MethodName)) ∈ TT := TT_in (List.mem_append_right _ (List.mem_of_getElem? (i := 367) (by decide +kernel))) rfl
theorem t_368 : (Cond.methodLink "LayeredPage$Page" (75 : Nat) ({ cls := "LayeredPage$Coder", name := "code", desc := "(II)I" } : MethodName)) ∈ TT := TT_in (List.mem_append_right _ (List.mem_of_getElem? (i := 368) (by decide +kernel))) rfl
theorem t_369 : (Cond.instanceMethod ({ cls := "LayeredPage$Coder", name := "code", desc := "(II)I" } : MethodName)) ∈ TT := TT_in (List.mem_append_right _ (List.mem_of_getElem? (i := 369) (by decide +kernel))) rfl
theorem t_370 : (Cond.sameMethod "LayeredPage$Coder" "LayeredPage$Coder" "code" "(II)I") ∈ TT := TT_in (List.mem_append_right _ (List.mem_of_getElem? (i := 370) (by decide +kernel))) rfl
theorem t_371 : (Cond.selects "LayeredPage$CodeReader" ({ cls := "LayeredPage$Coder", name := "code", desc := "(II)I" } : MethodName) ({ cls := "LayeredPage$Coder", name := "code", desc := "(II)I" } : MethodName)) ∈ TT := TT_in (List.mem_append_right _ (List.mem_of_getElem? (i := 371) (by decide +kernel))) rfl
theorem t_372 : (Cond.selects "LayeredPage$CodeWriter" ({ cls := "LayeredPage$Coder", name := "code", desc := "(II)I" } : MethodName) ({ cls := "LayeredPage$Coder", name := "code", desc := "(II)I" } : MethodName)) ∈ TT := TT_in (List.mem_append_right _ (List.mem_of_getElem? (i := 372) (by decide +kernel))) rfl
set_option maxRecDepth 100000 in
theorem t_373 : (Cond.code ({ cls := "LayeredPage$Coder", name := "code", desc := "(II)I" } : MethodName) prog_4_method_5_code (6 : Nat) (Option.some FieldType.int)) ∈ TT := TT_in (List.mem_append_right _ (List.mem_of_getElem? (i := 373) (rfl))) rfl
theorem t_374 : (Cond.methodLink "LayeredPage$Coder" (30 : Nat) ({ cls := "LayeredPage$Coder", name := "choose", desc := "(II)I" } : MethodName)) ∈ TT := TT_in (List.mem_append_right _ (List.mem_of_getElem? (i := 374) (by decide +kernel))) rfl
theorem q_375 : (Cond.declares ({ cls := "LayeredPage$Coder", name := "choose", desc := "(II)I" } : MethodName)) ∈ lw_tbl := List.mem_append_right _ (List.mem_of_getElem? (i := 375) (by decide +kernel))
theorem t_376 : (Cond.sameMethod "LayeredPage$Coder" "LayeredPage$Coder" "choose" "(II)I") ∈ TT := TT_in (List.mem_append_right _ (List.mem_of_getElem? (i := 376) (by decide +kernel))) rfl
theorem t_377 : (Cond.selects "LayeredPage$CodeReader" ({ cls := "LayeredPage$Coder", name := "choose", desc := "(II)I" } : MethodName) ({ cls := "LayeredPage$CodeReader", name := "choose", desc := "(II)I" } : MethodName)) ∈ TT := TT_in (List.mem_append_right _ (List.mem_of_getElem? (i := 377) (by decide +kernel))) rfl
theorem t_378 : (Cond.instanceMethod ({ cls := "LayeredPage$CodeReader", name := "choose", desc := "(II)I" } : MethodName)) ∈ TT := TT_in (List.mem_append_right _ (List.mem_of_getElem? (i := 378) (by decide +kernel))) rfl
set_option maxRecDepth 100000 in
theorem t_379 : (Cond.code ({ cls := "LayeredPage$CodeReader", name := "choose", desc := "(II)I" } : MethodName) prog_2_method_3_code (3 : Nat) (Option.some FieldType.int)) ∈ TT := TT_in (List.mem_append_right _ (List.mem_of_getElem? (i := 379) (rfl))) rfl
theorem t_380 : (Cond.selects "LayeredPage$CodeWriter" ({ cls := "LayeredPage$Coder", name := "choose", desc := "(II)I" } : MethodName) ({ cls := "LayeredPage$CodeWriter", name := "choose", desc := "(II)I" } : MethodName)) ∈ TT := TT_in (List.mem_append_right _ (List.mem_of_getElem? (i := 380) (by decide +kernel))) rfl
theorem t_381 : (Cond.instanceMethod ({ cls := "LayeredPage$CodeWriter", name := "choose", desc := "(II)I" } : MethodName)) ∈ TT := TT_in (List.mem_append_right _ (List.mem_of_getElem? (i := 381) (by decide +kernel))) rfl
set_option maxRecDepth 100000 in
theorem t_382 : (Cond.code ({ cls := "LayeredPage$CodeWriter", name := "choose", desc := "(II)I" } : MethodName) prog_3_method_3_code (6 : Nat) (Option.some FieldType.int)) ∈ TT := TT_in (List.mem_append_right _ (List.mem_of_getElem? (i := 382) (rfl))) rfl
theorem t_383 : (Cond.methodLink "LayeredPage$Coder" (34 : Nat) ({ cls := "LayeredPage$Coder", name := "tally", desc := "(II)V" } : MethodName)) ∈ TT := TT_in (List.mem_append_right _ (List.mem_of_getElem? (i := 383) (by decide +kernel))) rfl
theorem t_385 : (Cond.instanceMethod ({ cls := "LayeredPage$Coder", name := "tally", desc := "(II)V" } : MethodName)) ∈ TT := TT_in (List.mem_append_right _ (List.mem_of_getElem? (i := 385) (by decide +kernel))) rfl
set_option maxRecDepth 100000 in
theorem t_386 : (Cond.code ({ cls := "LayeredPage$Coder", name := "tally", desc := "(II)V" } : MethodName) prog_4_method_6_code (3 : Nat) (Option.none : Option FieldType)) ∈ TT := TT_in (List.mem_append_right _ (List.mem_of_getElem? (i := 386) (rfl))) rfl
theorem t_387 : (Cond.constant "LayeredPage$Coder" (38 : Nat) (32768 : Int32)) ∈ TT := TT_in (List.mem_append_right _ (List.mem_of_getElem? (i := 387) (by decide +kernel))) rfl
theorem t_388 : (Cond.methodLink "LayeredPage$Coder" (39 : Nat) ({ cls := "LayeredPage$Coder", name := "shift", desc := "()V" } : MethodName)) ∈ TT := TT_in (List.mem_append_right _ (List.mem_of_getElem? (i := 388) (by decide +kernel))) rfl
theorem q_389 : (Cond.declares ({ cls := "LayeredPage$Coder", name := "shift", desc := "()V" } : MethodName)) ∈ lw_tbl := List.mem_append_right _ (List.mem_of_getElem? (i := 389) (by decide +kernel))
theorem t_390 : (Cond.sameMethod "LayeredPage$Coder" "LayeredPage$Coder" "shift" "()V") ∈ TT := TT_in (List.mem_append_right _ (List.mem_of_getElem? (i := 390) (by decide +kernel))) rfl
theorem t_391 : (Cond.selects "LayeredPage$CodeReader" ({ cls := "LayeredPage$Coder", name := "shift", desc := "()V" } : MethodName) ({ cls := "LayeredPage$CodeReader", name := "shift", desc := "()V" } : MethodName)) ∈ TT := TT_in (List.mem_append_right _ (List.mem_of_getElem? (i := 391) (by decide +kernel))) rfl
theorem t_392 : (Cond.instanceMethod ({ cls := "LayeredPage$CodeReader", name := "shift", desc := "()V" } : MethodName)) ∈ TT := TT_in (List.mem_append_right _ (List.mem_of_getElem? (i := 392) (by decide +kernel))) rfl
set_option maxRecDepth 100000 in
theorem t_393 : (Cond.code ({ cls := "LayeredPage$CodeReader", name := "shift", desc := "()V" } : MethodName) prog_2_method_4_code (1 : Nat) (Option.none : Option FieldType)) ∈ TT := TT_in (List.mem_append_right _ (List.mem_of_getElem? (i := 393) (rfl))) rfl
theorem t_394 : (Cond.selects "LayeredPage$CodeWriter" ({ cls := "LayeredPage$Coder", name := "shift", desc := "()V" } : MethodName) ({ cls := "LayeredPage$CodeWriter", name := "shift", desc := "()V" } : MethodName)) ∈ TT := TT_in (List.mem_append_right _ (List.mem_of_getElem? (i := 394) (by decide +kernel))) rfl
theorem t_395 : (Cond.instanceMethod ({ cls := "LayeredPage$CodeWriter", name := "shift", desc := "()V" } : MethodName)) ∈ TT := TT_in (List.mem_append_right _ (List.mem_of_getElem? (i := 395) (by decide +kernel))) rfl
set_option maxRecDepth 100000 in
theorem t_396 : (Cond.code ({ cls := "LayeredPage$CodeWriter", name := "shift", desc := "()V" } : MethodName) prog_3_method_4_code (1 : Nat) (Option.none : Option FieldType)) ∈ TT := TT_in (List.mem_append_right _ (List.mem_of_getElem? (i := 396) (rfl))) rfl
theorem t_397 : (Cond.methodLink "LayeredPage$DocumentWriter" (86 : Nat) ({ cls := "LayeredPage$CodeWriter", name := "size", desc := "()I" } : MethodName)) ∈ TT := TT_in (List.mem_append_right _ (List.mem_of_getElem? (i := 397) (by decide +kernel))) rfl
theorem t_398 : (Cond.instanceMethod ({ cls := "LayeredPage$CodeWriter", name := "size", desc := "()I" } : MethodName)) ∈ TT := TT_in (List.mem_append_right _ (List.mem_of_getElem? (i := 398) (by decide +kernel))) rfl
theorem t_399 : (Cond.selects "LayeredPage$CodeWriter" ({ cls := "LayeredPage$CodeWriter", name := "size", desc := "()I" } : MethodName) ({ cls := "LayeredPage$CodeWriter", name := "size", desc := "()I" } : MethodName)) ∈ TT := TT_in (List.mem_append_right _ (List.mem_of_getElem? (i := 399) (by decide +kernel))) rfl
set_option maxRecDepth 100000 in
theorem t_400 : (Cond.code ({ cls := "LayeredPage$CodeWriter", name := "size", desc := "()I" } : MethodName) prog_3_method_5_code (1 : Nat) (Option.some FieldType.int)) ∈ TT := TT_in (List.mem_append_right _ (List.mem_of_getElem? (i := 400) (rfl))) rfl
theorem t_401 : (Cond.methodLink "LayeredPage$DocumentWriter" (90 : Nat) ({ cls := "LayeredPage$Octets", name := "take", desc := "(I)V" } : MethodName)) ∈ TT := TT_in (List.mem_append_right _ (List.mem_of_getElem? (i := 401) (by decide +kernel))) rfl
theorem t_402 : (Cond.instanceMethod ({ cls := "LayeredPage$Octets", name := "take", desc := "(I)V" } : MethodName)) ∈ TT := TT_in (List.mem_append_right _ (List.mem_of_getElem? (i := 402) (by decide +kernel))) rfl
theorem t_403 : (Cond.selects "LayeredPage$Octets" ({ cls := "LayeredPage$Octets", name := "take", desc := "(I)V" } : MethodName) ({ cls := "LayeredPage$Octets", name := "take", desc := "(I)V" } : MethodName)) ∈ TT := TT_in (List.mem_append_right _ (List.mem_of_getElem? (i := 403) (by decide +kernel))) rfl
set_option maxRecDepth 100000 in
theorem t_404 : (Cond.code ({ cls := "LayeredPage$Octets", name := "take", desc := "(I)V" } : MethodName) prog_8_method_6_code (2 : Nat) (Option.none : Option FieldType)) ∈ TT := TT_in (List.mem_append_right _ (List.mem_of_getElem? (i := 404) (rfl))) rfl
theorem t_405 : (Cond.methodLink "LayeredPage$Octets" (29 : Nat) ({ cls := "java/lang/Math", name := "min", desc := "(II)I" } : MethodName)) ∈ TT := TT_in (List.mem_append_right _ (List.mem_of_getElem? (i := 405) (by decide +kernel))) rfl
theorem t_406 : (Cond.static ({ cls := "java/lang/Math", name := "min", desc := "(II)I" } : MethodName)) ∈ TT := TT_in (List.mem_append_right _ (List.mem_of_getElem? (i := 406) (by decide +kernel))) rfl
set_option maxRecDepth 100000 in
theorem t_407 : (Cond.code ({ cls := "java/lang/Math", name := "min", desc := "(II)I" } : MethodName) prog_13_method_69_code (2 : Nat) (Option.some FieldType.int)) ∈ TT := TT_in (List.mem_append_right _ (List.mem_of_getElem? (i := 407) (rfl))) rfl
theorem t_408 : (Cond.methodLink "LayeredPage$DocumentWriter" (93 : Nat) ({ cls := "LayeredPage$Octets", name := "closeChunk", desc := "(I)V" } : MethodName)) ∈ TT := TT_in (List.mem_append_right _ (List.mem_of_getElem? (i := 408) (by decide +kernel))) rfl
theorem t_409 : (Cond.instanceMethod ({ cls := "LayeredPage$Octets", name := "closeChunk", desc := "(I)V" } : MethodName)) ∈ TT := TT_in (List.mem_append_right _ (List.mem_of_getElem? (i := 409) (by decide +kernel))) rfl
theorem t_410 : (Cond.selects "LayeredPage$Octets" ({ cls := "LayeredPage$Octets", name := "closeChunk", desc := "(I)V" } : MethodName) ({ cls := "LayeredPage$Octets", name := "closeChunk", desc := "(I)V" } : MethodName)) ∈ TT := TT_in (List.mem_append_right _ (List.mem_of_getElem? (i := 410) (by decide +kernel))) rfl
set_option maxRecDepth 100000 in
theorem t_411 : (Cond.code ({ cls := "LayeredPage$Octets", name := "closeChunk", desc := "(I)V" } : MethodName) prog_8_method_8_code (3 : Nat) (Option.none : Option FieldType)) ∈ TT := TT_in (List.mem_append_right _ (List.mem_of_getElem? (i := 411) (rfl))) rfl
theorem t_412 : (Cond.methodLink "LayeredPage$DocumentWriter" (37 : Nat) ({ cls := "LayeredPage$DocumentWriter", name := "writePlacings", desc := "(LLayeredPage$Page;LLayeredPage$Octets;)V" } : MethodName)) ∈ TT := TT_in (List.mem_append_right _ (List.mem_of_getElem? (i := 412) (by decide +kernel))) rfl
theorem t_414 : (Cond.instanceMethod ({ cls := "LayeredPage$DocumentWriter", name := "writePlacings", desc := "(LLayeredPage$Page;LLayeredPage$Octets;)V" } : MethodName)) ∈ TT := TT_in (List.mem_append_right _ (List.mem_of_getElem? (i := 414) (by decide +kernel))) rfl
set_option maxRecDepth 100000 in
theorem t_415 : (Cond.code ({ cls := "LayeredPage$DocumentWriter", name := "writePlacings", desc := "(LLayeredPage$Page;LLayeredPage$Octets;)V" } : MethodName) prog_6_method_4_code (5 : Nat) (Option.none : Option FieldType)) ∈ TT := TT_in (List.mem_append_right _ (List.mem_of_getElem? (i := 415) (rfl))) rfl
theorem t_416 : (Cond.methodLink "LayeredPage$DocumentWriter" (45 : Nat) ({ cls := "LayeredPage$DocumentWriter", name := "writeLayer", desc := "(ILLayeredPage$Layer;ILLayeredPage$Octets;)V" } : MethodName)) ∈ TT := TT_in (List.mem_append_right _ (List.mem_of_getElem? (i := 416) (by decide +kernel))) rfl
theorem t_418 : (Cond.instanceMethod ({ cls := "LayeredPage$DocumentWriter", name := "writeLayer", desc := "(ILLayeredPage$Layer;ILLayeredPage$Octets;)V" } : MethodName)) ∈ TT := TT_in (List.mem_append_right _ (List.mem_of_getElem? (i := 418) (by decide +kernel))) rfl
set_option maxRecDepth 100000 in
theorem t_419 : (Cond.code ({ cls := "LayeredPage$DocumentWriter", name := "writeLayer", desc := "(ILLayeredPage$Layer;ILLayeredPage$Octets;)V" } : MethodName) prog_6_method_5_code (6 : Nat) (Option.none : Option FieldType)) ∈ TT := TT_in (List.mem_append_right _ (List.mem_of_getElem? (i := 419) (rfl))) rfl
theorem t_420 : (Cond.methodLink "LayeredPage$DocumentWriter" (105 : Nat) ({ cls := "LayeredPage$Layer", name := "liftCells", desc := "()V" } : MethodName)) ∈ TT := TT_in (List.mem_append_right _ (List.mem_of_getElem? (i := 420) (by decide +kernel))) rfl
theorem t_421 : (Cond.instanceMethod ({ cls := "LayeredPage$Layer", name := "liftCells", desc := "()V" } : MethodName)) ∈ TT := TT_in (List.mem_append_right _ (List.mem_of_getElem? (i := 421) (by decide +kernel))) rfl
theorem t_422 : (Cond.selects "LayeredPage$Layer" ({ cls := "LayeredPage$Layer", name := "liftCells", desc := "()V" } : MethodName) ({ cls := "LayeredPage$Layer", name := "liftCells", desc := "()V" } : MethodName)) ∈ TT := TT_in (List.mem_append_right _ (List.mem_of_getElem? (i := 422) (by decide +kernel))) rfl
set_option maxRecDepth 100000 in
theorem t_423 : (Cond.code ({ cls := "LayeredPage$Layer", name := "liftCells", desc := "()V" } : MethodName) prog_7_method_8_code (3 : Nat) (Option.none : Option FieldType)) ∈ TT := TT_in (List.mem_append_right _ (List.mem_of_getElem? (i := 423) (rfl))) rfl
theorem t_424 : (Cond.methodLink "LayeredPage$Layer" (46 : Nat) ({ cls := "java/lang/System", name := "arraycopy", desc := "(Ljava/lang/Object;ILjava/lang/Object;II)V" } : MethodName)) ∈ TT := TT_in (List.mem_append_right _ (List.mem_of_getElem? (i := 424) (by decide +kernel))) rfl
theorem t_425 : (Cond.static ({ cls := "java/lang/System", name := "arraycopy", desc := "(Ljava/lang/Object;ILjava/lang/Object;II)V" } : MethodName)) ∈ TT := TT_in (List.mem_append_right _ (List.mem_of_getElem? (i := 425) (by decide +kernel))) rfl
theorem t_426 : (Cond.native ({ cls := "java/lang/System", name := "arraycopy", desc := "(Ljava/lang/Object;ILjava/lang/Object;II)V" } : MethodName)) ∈ TT := TT_in (List.mem_append_right _ (List.mem_of_getElem? (i := 426) (by decide +kernel))) rfl
theorem t_427 : (Cond.methodLink "LayeredPage$Layer" (52 : Nat) ({ cls := "LayeredPage$Layer", name := "liftLine", desc := "(III)V" } : MethodName)) ∈ TT := TT_in (List.mem_append_right _ (List.mem_of_getElem? (i := 427) (by decide +kernel))) rfl
theorem t_429 : (Cond.instanceMethod ({ cls := "LayeredPage$Layer", name := "liftLine", desc := "(III)V" } : MethodName)) ∈ TT := TT_in (List.mem_append_right _ (List.mem_of_getElem? (i := 429) (by decide +kernel))) rfl
set_option maxRecDepth 100000 in
theorem t_430 : (Cond.code ({ cls := "LayeredPage$Layer", name := "liftLine", desc := "(III)V" } : MethodName) prog_7_method_9_code (9 : Nat) (Option.none : Option FieldType)) ∈ TT := TT_in (List.mem_append_right _ (List.mem_of_getElem? (i := 430) (rfl))) rfl
theorem t_431 : (Cond.methodLink "LayeredPage$DocumentWriter" (110 : Nat) ({ cls := "LayeredPage$Layer", name := "codeCoefficients", desc := "(ILLayeredPage$Coder;)V" } : MethodName)) ∈ TT := TT_in (List.mem_append_right _ (List.mem_of_getElem? (i := 431) (by decide +kernel))) rfl
theorem t_432 : (Cond.instanceMethod ({ cls := "LayeredPage$Layer", name := "codeCoefficients", desc := "(ILLayeredPage$Coder;)V" } : MethodName)) ∈ TT := TT_in (List.mem_append_right _ (List.mem_of_getElem? (i := 432) (by decide +kernel))) rfl
theorem t_433 : (Cond.selects "LayeredPage$Layer" ({ cls := "LayeredPage$Layer", name := "codeCoefficients", desc := "(ILLayeredPage$Coder;)V" } : MethodName) ({ cls := "LayeredPage$Layer", name := "codeCoefficients", desc := "(ILLayeredPage$Coder;)V" } : MethodName)) ∈ TT := TT_in (List.mem_append_right _ (List.mem_of_getElem? (i := 433) (by decide +kernel))) rfl
set_option maxRecDepth 100000 in
theorem t_434 : (Cond.code ({ cls := "LayeredPage$Layer", name := "codeCoefficients", desc := "(ILLayeredPage$Coder;)V" } : MethodName) prog_7_method_12_code (5 : Nat) (Option.none : Option FieldType)) ∈ TT := TT_in (List.mem_append_right _ (List.mem_of_getElem? (i := 434) (rfl))) rfl
theorem t_435 : (Cond.methodLink "LayeredPage$Layer" (67 : Nat) ({ cls := "LayeredPage$Layer", name := "codePlaneBit", desc := "(IILLayeredPage$Coder;)V" } : MethodName)) ∈ TT := TT_in (List.mem_append_right _ (List.mem_of_getElem? (i := 435) (by decide +kernel))) rfl
theorem t_437 : (Cond.instanceMethod ({ cls := "LayeredPage$Layer", name := "codePlaneBit", desc := "(IILLayeredPage$Coder;)V" } : MethodName)) ∈ TT := TT_in (List.mem_append_right _ (List.mem_of_getElem? (i := 437) (by decide +kernel))) rfl
set_option maxRecDepth 100000 in
theorem t_438 : (Cond.code ({ cls := "LayeredPage$Layer", name := "codePlaneBit", desc := "(IILLayeredPage$Coder;)V" } : MethodName) prog_7_method_13_code (7 : Nat) (Option.none : Option FieldType)) ∈ TT := TT_in (List.mem_append_right _ (List.mem_of_getElem? (i := 438) (rfl))) rfl
theorem t_439 : (Cond.methodLink "LayeredPage$Layer" (71 : Nat) ({ cls := "java/lang/Math", name := "abs", desc := "(I)I" } : MethodName)) ∈ TT := TT_in (List.mem_append_right _ (List.mem_of_getElem? (i := 439) (by decide +kernel))) rfl
theorem t_440 : (Cond.static ({ cls := "java/lang/Math", name := "abs", desc := "(I)I" } : MethodName)) ∈ TT := TT_in (List.mem_append_right _ (List.mem_of_getElem? (i := 440) (by decide +kernel))) rfl
set_option maxRecDepth 100000 in
theorem t_441 : (Cond.code ({ cls := "java/lang/Math", name := "abs", desc := "(I)I" } : MethodName) prog_13_method_59_code (1 : Nat) (Option.some FieldType.int)) ∈ TT := TT_in (List.mem_append_right _ (List.mem_of_getElem? (i := 441) (rfl))) rfl
theorem t_442 : (Cond.methodLink "LayeredPage$Layer" (75 : Nat) ({ cls := "LayeredPage$Coder", name := "code", desc := "(II)I" } : MethodName)) ∈ TT := TT_in (List.mem_append_right _ (List.mem_of_getElem? (i := 442) (by decide +kernel))) rfl
theorem t_443 : (Cond.methodLink "LayeredPage$Layer" (80 : Nat) ({ cls := "LayeredPage$Layer", name := "begunNeighbours", desc := "(I)I" } : MethodName)) ∈ TT := TT_in (List.mem_append_right _ (List.mem_of_getElem? (i := 443) (by decide +kernel))) rfl
theorem t_445 : (Cond.instanceMethod ({ cls := "LayeredPage$Layer", name := "begunNeighbours", desc := "(I)I" } : MethodName)) ∈ TT := TT_in (List.mem_append_right _ (List.mem_of_getElem? (i := 445) (by decide +kernel))) rfl
set_option maxRecDepth 100000 in
theorem t_446 : (Cond.code ({ cls := "LayeredPage$Layer", name := "begunNeighbours", desc := "(I)I" } : MethodName) prog_7_method_14_code (4 : Nat) (Option.some FieldType.int)) ∈ TT := TT_in (List.mem_append_right _ (List.mem_of_getElem? (i := 446) (rfl))) rfl
theorem t_447 : (Cond.methodLink "LayeredPageLaw" (39 : Nat) ({ cls := "LayeredPage", name := "length", desc := "()I" } : MethodName)) ∈ TT := TT_in (List.mem_append_right _ (List.mem_of_getElem? (i := 447) (by decide +kernel))) rfl
theorem t_448 : (Cond.instanceMethod ({ cls := "LayeredPage", name := "length", desc := "()I" } : MethodName)) ∈ TT := TT_in (List.mem_append_right _ (List.mem_of_getElem? (i := 448) (by decide +kernel))) rfl
theorem t_449 : (Cond.selects "LayeredPage" ({ cls := "LayeredPage", name := "length", desc := "()I" } : MethodName) ({ cls := "LayeredPage", name := "length", desc := "()I" } : MethodName)) ∈ TT := TT_in (List.mem_append_right _ (List.mem_of_getElem? (i := 449) (by decide +kernel))) rfl
set_option maxRecDepth 100000 in
theorem t_450 : (Cond.code ({ cls := "LayeredPage", name := "length", desc := "()I" } : MethodName) prog_1_method_7_code (1 : Nat) (Option.some FieldType.int)) ∈ TT := TT_in (List.mem_append_right _ (List.mem_of_getElem? (i := 450) (rfl))) rfl
theorem t_451 : (Cond.methodLink "LayeredPageLaw" (44 : Nat) ({ cls := "LayeredPage", name := "octet", desc := "(I)I" } : MethodName)) ∈ TT := TT_in (List.mem_append_right _ (List.mem_of_getElem? (i := 451) (by decide +kernel))) rfl
theorem t_452 : (Cond.instanceMethod ({ cls := "LayeredPage", name := "octet", desc := "(I)I" } : MethodName)) ∈ TT := TT_in (List.mem_append_right _ (List.mem_of_getElem? (i := 452) (by decide +kernel))) rfl
theorem t_453 : (Cond.selects "LayeredPage" ({ cls := "LayeredPage", name := "octet", desc := "(I)I" } : MethodName) ({ cls := "LayeredPage", name := "octet", desc := "(I)I" } : MethodName)) ∈ TT := TT_in (List.mem_append_right _ (List.mem_of_getElem? (i := 453) (by decide +kernel))) rfl
set_option maxRecDepth 100000 in
theorem t_454 : (Cond.code ({ cls := "LayeredPage", name := "octet", desc := "(I)I" } : MethodName) prog_1_method_8_code (2 : Nat) (Option.some FieldType.int)) ∈ TT := TT_in (List.mem_append_right _ (List.mem_of_getElem? (i := 454) (rfl))) rfl
theorem t_455 : (Cond.methodLink "LayeredPage" (101 : Nat) ({ cls := "LayeredPage$Octets", name := "at", desc := "(I)I" } : MethodName)) ∈ TT := TT_in (List.mem_append_right _ (List.mem_of_getElem? (i := 455) (by decide +kernel))) rfl
theorem t_456 : (Cond.instanceMethod ({ cls := "LayeredPage$Octets", name := "at", desc := "(I)I" } : MethodName)) ∈ TT := TT_in (List.mem_append_right _ (List.mem_of_getElem? (i := 456) (by decide +kernel))) rfl
theorem t_457 : (Cond.selects "LayeredPage$Octets" ({ cls := "LayeredPage$Octets", name := "at", desc := "(I)I" } : MethodName) ({ cls := "LayeredPage$Octets", name := "at", desc := "(I)I" } : MethodName)) ∈ TT := TT_in (List.mem_append_right _ (List.mem_of_getElem? (i := 457) (by decide +kernel))) rfl
set_option maxRecDepth 100000 in
theorem t_458 : (Cond.code ({ cls := "LayeredPage$Octets", name := "at", desc := "(I)I" } : MethodName) prog_8_method_2_code (2 : Nat) (Option.some FieldType.int)) ∈ TT := TT_in (List.mem_append_right _ (List.mem_of_getElem? (i := 458) (rfl))) rfl
theorem t_459 : (Cond.methodLink "LayeredPageLaw" (48 : Nat) ({ cls := "LayeredPage", name := "alter", desc := "(II)Z" } : MethodName)) ∈ TT := TT_in (List.mem_append_right _ (List.mem_of_getElem? (i := 459) (by decide +kernel))) rfl
theorem t_460 : (Cond.instanceMethod ({ cls := "LayeredPage", name := "alter", desc := "(II)Z" } : MethodName)) ∈ TT := TT_in (List.mem_append_right _ (List.mem_of_getElem? (i := 460) (by decide +kernel))) rfl
theorem t_461 : (Cond.selects "LayeredPage" ({ cls := "LayeredPage", name := "alter", desc := "(II)Z" } : MethodName) ({ cls := "LayeredPage", name := "alter", desc := "(II)Z" } : MethodName)) ∈ TT := TT_in (List.mem_append_right _ (List.mem_of_getElem? (i := 461) (by decide +kernel))) rfl
set_option maxRecDepth 100000 in
theorem t_462 : (Cond.code ({ cls := "LayeredPage", name := "alter", desc := "(II)Z" } : MethodName) prog_1_method_9_code (3 : Nat) (Option.some FieldType.boolean)) ∈ TT := TT_in (List.mem_append_right _ (List.mem_of_getElem? (i := 462) (rfl))) rfl
theorem t_463 : (Cond.methodLink "LayeredPage" (105 : Nat) ({ cls := "LayeredPage$Octets", name := "set", desc := "(II)V" } : MethodName)) ∈ TT := TT_in (List.mem_append_right _ (List.mem_of_getElem? (i := 463) (by decide +kernel))) rfl
theorem t_464 : (Cond.methodLink "LayeredPageLaw" (53 : Nat) ({ cls := "LayeredPage", name := "cut", desc := "(I)Z" } : MethodName)) ∈ TT := TT_in (List.mem_append_right _ (List.mem_of_getElem? (i := 464) (by decide +kernel))) rfl
theorem t_465 : (Cond.instanceMethod ({ cls := "LayeredPage", name := "cut", desc := "(I)Z" } : MethodName)) ∈ TT := TT_in (List.mem_append_right _ (List.mem_of_getElem? (i := 465) (by decide +kernel))) rfl
theorem t_466 : (Cond.selects "LayeredPage" ({ cls := "LayeredPage", name := "cut", desc := "(I)Z" } : MethodName) ({ cls := "LayeredPage", name := "cut", desc := "(I)Z" } : MethodName)) ∈ TT := TT_in (List.mem_append_right _ (List.mem_of_getElem? (i := 466) (by decide +kernel))) rfl
set_option maxRecDepth 100000 in
theorem t_467 : (Cond.code ({ cls := "LayeredPage", name := "cut", desc := "(I)Z" } : MethodName) prog_1_method_10_code (2 : Nat) (Option.some FieldType.boolean)) ∈ TT := TT_in (List.mem_append_right _ (List.mem_of_getElem? (i := 467) (rfl))) rfl
theorem t_468 : (Cond.methodLink "LayeredPage" (109 : Nat) ({ cls := "LayeredPage$Octets", name := "keep", desc := "(I)V" } : MethodName)) ∈ TT := TT_in (List.mem_append_right _ (List.mem_of_getElem? (i := 468) (by decide +kernel))) rfl
theorem t_469 : (Cond.methodLink "LayeredPageLaw" (58 : Nat) ({ cls := "LayeredPage", name := "decode", desc := "()I" } : MethodName)) ∈ TT := TT_in (List.mem_append_right _ (List.mem_of_getElem? (i := 469) (by decide +kernel))) rfl
theorem t_470 : (Cond.instanceMethod ({ cls := "LayeredPage", name := "decode", desc := "()I" } : MethodName)) ∈ TT := TT_in (List.mem_append_right _ (List.mem_of_getElem? (i := 470) (by decide +kernel))) rfl
theorem t_471 : (Cond.selects "LayeredPage" ({ cls := "LayeredPage", name := "decode", desc := "()I" } : MethodName) ({ cls := "LayeredPage", name := "decode", desc := "()I" } : MethodName)) ∈ TT := TT_in (List.mem_append_right _ (List.mem_of_getElem? (i := 471) (by decide +kernel))) rfl
set_option maxRecDepth 100000 in
theorem t_472 : (Cond.code ({ cls := "LayeredPage", name := "decode", desc := "()I" } : MethodName) prog_1_method_11_code (3 : Nat) (Option.some FieldType.int)) ∈ TT := TT_in (List.mem_append_right _ (List.mem_of_getElem? (i := 472) (rfl))) rfl
theorem t_473 : (Cond.methodLink "LayeredPage" (113 : Nat) ({ cls := "LayeredPage$DocumentReader", name := "read", desc := "(LLayeredPage$Octets;LLayeredPage$Page;)I" } : MethodName)) ∈ TT := TT_in (List.mem_append_right _ (List.mem_of_getElem? (i := 473) (by decide +kernel))) rfl
theorem t_474 : (Cond.instanceMethod ({ cls := "LayeredPage$DocumentReader", name := "read", desc := "(LLayeredPage$Octets;LLayeredPage$Page;)I" } : MethodName)) ∈ TT := TT_in (List.mem_append_right _ (List.mem_of_getElem? (i := 474) (by decide +kernel))) rfl
theorem t_475 : (Cond.selects "LayeredPage$DocumentReader" ({ cls := "LayeredPage$DocumentReader", name := "read", desc := "(LLayeredPage$Octets;LLayeredPage$Page;)I" } : MethodName) ({ cls := "LayeredPage$DocumentReader", name := "read", desc := "(LLayeredPage$Octets;LLayeredPage$Page;)I" } : MethodName)) ∈ TT := TT_in (List.mem_append_right _ (List.mem_of_getElem? (i := 475) (by decide +kernel))) rfl
set_option maxRecDepth 100000 in
theorem t_476 : (Cond.code ({ cls := "LayeredPage$DocumentReader", name := "read", desc := "(LLayeredPage$Octets;LLayeredPage$Page;)I" } : MethodName) prog_5_method_2_code (9 : Nat) (Option.some FieldType.int)) ∈ TT := TT_in (List.mem_append_right _ (List.mem_of_getElem? (i := 476) (rfl))) rfl
theorem t_477 : (Cond.methodLink "LayeredPage$DocumentReader" (18 : Nat) ({ cls := "LayeredPage$Page", name := "makeEmpty", desc := "()V" } : MethodName)) ∈ TT := TT_in (List.mem_append_right _ (List.mem_of_getElem? (i := 477) (by decide +kernel))) rfl
theorem t_478 : (Cond.methodLink "LayeredPage$DocumentReader" (23 : Nat) ({ cls := "LayeredPage$Octets", name := "at", desc := "(I)I" } : MethodName)) ∈ TT := TT_in (List.mem_append_right _ (List.mem_of_getElem? (i := 478) (by decide +kernel))) rfl
theorem t_479 : (Cond.methodLink "LayeredPage$DocumentReader" (33 : Nat) ({ cls := "LayeredPage$Octets", name := "chunkSize", desc := "(I)I" } : MethodName)) ∈ TT := TT_in (List.mem_append_right _ (List.mem_of_getElem? (i := 479) (by decide +kernel))) rfl
theorem t_480 : (Cond.instanceMethod ({ cls := "LayeredPage$Octets", name := "chunkSize", desc := "(I)I" } : MethodName)) ∈ TT := TT_in (List.mem_append_right _ (List.mem_of_getElem? (i := 480) (by decide +kernel))) rfl
theorem t_481 : (Cond.selects "LayeredPage$Octets" ({ cls := "LayeredPage$Octets", name := "chunkSize", desc := "(I)I" } : MethodName) ({ cls := "LayeredPage$Octets", name := "chunkSize", desc := "(I)I" } : MethodName)) ∈ TT := TT_in (List.mem_append_right _ (List.mem_of_getElem? (i := 481) (by decide +kernel))) rfl
set_option maxRecDepth 100000 in
theorem t_482 : (Cond.code ({ cls := "LayeredPage$Octets", name := "chunkSize", desc := "(I)I" } : MethodName) prog_8_method_9_code (3 : Nat) (Option.some FieldType.int)) ∈ TT := TT_in (List.mem_append_right _ (List.mem_of_getElem? (i := 482) (rfl))) rfl
theorem t_483 : (Cond.methodLink "LayeredPage$Octets" (36 : Nat) ({ cls := "LayeredPage$Octets", name := "at", desc := "(I)I" } : MethodName)) ∈ TT := TT_in (List.mem_append_right _ (List.mem_of_getElem? (i := 483) (by decide +kernel))) rfl
theorem t_484 : (Cond.methodLink "LayeredPage$DocumentReader" (36 : Nat) ({ cls := "LayeredPage$DocumentReader", name := "readShape", desc := "(LLayeredPage$Octets;IILLayeredPage$Page;)I" } : MethodName)) ∈ TT := TT_in (List.mem_append_right _ (List.mem_of_getElem? (i := 484) (by decide +kernel))) rfl
theorem t_486 : (Cond.instanceMethod ({ cls := "LayeredPage$DocumentReader", name := "readShape", desc := "(LLayeredPage$Octets;IILLayeredPage$Page;)I" } : MethodName)) ∈ TT := TT_in (List.mem_append_right _ (List.mem_of_getElem? (i := 486) (by decide +kernel))) rfl
set_option maxRecDepth 100000 in
theorem t_487 : (Cond.code ({ cls := "LayeredPage$DocumentReader", name := "readShape", desc := "(LLayeredPage$Octets;IILLayeredPage$Page;)I" } : MethodName) prog_5_method_3_code (9 : Nat) (Option.some FieldType.int)) ∈ TT := TT_in (List.mem_append_right _ (List.mem_of_getElem? (i := 487) (rfl))) rfl
theorem q_488 : (Cond.methodLinkNest "LayeredPage$DocumentReader" (57 : Nat) ({ cls := "LayeredPage", name := "isShapeSide", desc := "(I)Z" } : MethodName) "LayeredPage") ∈ lw_tbl := List.mem_append_right _ (List.mem_of_getElem? (i := 488) (by decide +kernel))
theorem t_489 : (Cond.methodLink "LayeredPage$DocumentReader" (61 : Nat) ({ cls := "LayeredPage$Page", name := "addShape", desc := "(JIII)I" } : MethodName)) ∈ TT := TT_in (List.mem_append_right _ (List.mem_of_getElem? (i := 489) (by decide +kernel))) rfl
theorem t_490 : (Cond.methodLink "LayeredPage$DocumentReader" (69 : Nat) ({ cls := "LayeredPage$CodeReader", name := "begin", desc := "([III)V" } : MethodName)) ∈ TT := TT_in (List.mem_append_right _ (List.mem_of_getElem? (i := 490) (by decide +kernel))) rfl
theorem t_491 : (Cond.instanceMethod ({ cls := "LayeredPage$CodeReader", name := "begin", desc := "([III)V" } : MethodName)) ∈ TT := TT_in (List.mem_append_right _ (List.mem_of_getElem? (i := 491) (by decide +kernel))) rfl
theorem t_492 : (Cond.selects "LayeredPage$CodeReader" ({ cls := "LayeredPage$CodeReader", name := "begin", desc := "([III)V" } : MethodName) ({ cls := "LayeredPage$CodeReader", name := "begin", desc := "([III)V" } : MethodName)) ∈ TT := TT_in (List.mem_append_right _ (List.mem_of_getElem? (i := 492) (by decide +kernel))) rfl
set_option maxRecDepth 100000 in
theorem t_493 : (Cond.code ({ cls := "LayeredPage$CodeReader", name := "begin", desc := "([III)V" } : MethodName) prog_2_method_2_code (5 : Nat) (Option.none : Option FieldType)) ∈ TT := TT_in (List.mem_append_right _ (List.mem_of_getElem? (i := 493) (rfl))) rfl
theorem t_494 : (Cond.methodLink "LayeredPage$CodeReader" (26 : Nat) ({ cls := "LayeredPage$CodeReader", name := "restart", desc := "()V" } : MethodName)) ∈ TT := TT_in (List.mem_append_right _ (List.mem_of_getElem? (i := 494) (by decide +kernel))) rfl
theorem t_495 : (Cond.sameMethod "LayeredPage$CodeReader" "LayeredPage$Coder" "restart" "()V") ∈ TT := TT_in (List.mem_append_right _ (List.mem_of_getElem? (i := 495) (by decide +kernel))) rfl
theorem t_496 : (Cond.selects "LayeredPage$CodeReader" ({ cls := "LayeredPage$CodeReader", name := "restart", desc := "()V" } : MethodName) ({ cls := "LayeredPage$Coder", name := "restart", desc := "()V" } : MethodName)) ∈ TT := TT_in (List.mem_append_right _ (List.mem_of_getElem? (i := 496) (by decide +kernel))) rfl
theorem t_497 : (Cond.methodLink "LayeredPage$CodeReader" (29 : Nat) ({ cls := "java/lang/Math", name := "min", desc := "(II)I" } : MethodName)) ∈ TT := TT_in (List.mem_append_right _ (List.mem_of_getElem? (i := 497) (by decide +kernel))) rfl
theorem t_498 : (Cond.methodLink "LayeredPage$CodeReader" (35 : Nat) ({ cls := "LayeredPage$CodeReader", name := "shift", desc := "()V" } : MethodName)) ∈ TT := TT_in (List.mem_append_right _ (List.mem_of_getElem? (i := 498) (by decide +kernel))) rfl
theorem t_499 : (Cond.methodLink "LayeredPage$DocumentReader" (73 : Nat) ({ cls := "LayeredPage$Page", name := "codeShape", desc := "(ILLayeredPage$Coder;)V" } : MethodName)) ∈ TT := TT_in (List.mem_append_right _ (List.mem_of_getElem? (i := 499) (by decide +kernel))) rfl
theorem t_500 : (Cond.methodLink "LayeredPage$DocumentReader" (40 : Nat) ({ cls := "LayeredPage$DocumentReader", name := "readPlacings", desc := "(LLayeredPage$Octets;IILLayeredPage$Page;)I" } : MethodName)) ∈ TT := TT_in (List.mem_append_right _ (List.mem_of_getElem? (i := 500) (by decide +kernel))) rfl
theorem t_502 : (Cond.instanceMethod ({ cls := "LayeredPage$DocumentReader", name := "readPlacings", desc := "(LLayeredPage$Octets;IILLayeredPage$Page;)I" } : MethodName)) ∈ TT := TT_in (List.mem_append_right _ (List.mem_of_getElem? (i := 502) (by decide +kernel))) rfl
set_option maxRecDepth 100000 in
theorem t_503 : (Cond.code ({ cls := "LayeredPage$DocumentReader", name := "readPlacings", desc := "(LLayeredPage$Octets;IILLayeredPage$Page;)I" } : MethodName) prog_5_method_4_code (6 : Nat) (Option.some FieldType.int)) ∈ TT := TT_in (List.mem_append_right _ (List.mem_of_getElem? (i := 503) (rfl))) rfl
theorem t_504 : (Cond.methodLink "LayeredPage$DocumentReader" (80 : Nat) ({ cls := "LayeredPage$Page", name := "hasShape", desc := "(I)Z" } : MethodName)) ∈ TT := TT_in (List.mem_append_right _ (List.mem_of_getElem? (i := 504) (by decide +kernel))) rfl
theorem t_505 : (Cond.methodLink "LayeredPage$DocumentReader" (83 : Nat) ({ cls := "LayeredPage$Page", name := "addPlacing", desc := "(II)I" } : MethodName)) ∈ TT := TT_in (List.mem_append_right _ (List.mem_of_getElem? (i := 505) (by decide +kernel))) rfl
theorem t_506 : (Cond.methodLink "LayeredPage$DocumentReader" (50 : Nat) ({ cls := "LayeredPage$DocumentReader", name := "readLayer", desc := "(LLayeredPage$Octets;IILLayeredPage$Layer;)I" } : MethodName)) ∈ TT := TT_in (List.mem_append_right _ (List.mem_of_getElem? (i := 506) (by decide +kernel))) rfl
theorem t_508 : (Cond.instanceMethod ({ cls := "LayeredPage$DocumentReader", name := "readLayer", desc := "(LLayeredPage$Octets;IILLayeredPage$Layer;)I" } : MethodName)) ∈ TT := TT_in (List.mem_append_right _ (List.mem_of_getElem? (i := 508) (by decide +kernel))) rfl
set_option maxRecDepth 100000 in
theorem t_509 : (Cond.code ({ cls := "LayeredPage$DocumentReader", name := "readLayer", desc := "(LLayeredPage$Octets;IILLayeredPage$Layer;)I" } : MethodName) prog_5_method_5_code (5 : Nat) (Option.some FieldType.int)) ∈ TT := TT_in (List.mem_append_right _ (List.mem_of_getElem? (i := 509) (rfl))) rfl
theorem t_510 : (Cond.methodLink "LayeredPage$DocumentReader" (93 : Nat) ({ cls := "LayeredPage$Layer", name := "codeCoefficients", desc := "(ILLayeredPage$Coder;)V" } : MethodName)) ∈ TT := TT_in (List.mem_append_right _ (List.mem_of_getElem? (i := 510) (by decide +kernel))) rfl
theorem t_511 : (Cond.methodLink "LayeredPage$DocumentReader" (96 : Nat) ({ cls := "LayeredPage$Layer", name := "undoCoefficients", desc := "()V" } : MethodName)) ∈ TT := TT_in (List.mem_append_right _ (List.mem_of_getElem? (i := 511) (by decide +kernel))) rfl
theorem t_512 : (Cond.instanceMethod ({ cls := "LayeredPage$Layer", name := "undoCoefficients", desc := "()V" } : MethodName)) ∈ TT := TT_in (List.mem_append_right _ (List.mem_of_getElem? (i := 512) (by decide +kernel))) rfl
theorem t_513 : (Cond.selects "LayeredPage$Layer" ({ cls := "LayeredPage$Layer", name := "undoCoefficients", desc := "()V" } : MethodName) ({ cls := "LayeredPage$Layer", name := "undoCoefficients", desc := "()V" } : MethodName)) ∈ TT := TT_in (List.mem_append_right _ (List.mem_of_getElem? (i := 513) (by decide +kernel))) rfl
set_option maxRecDepth 100000 in
theorem t_514 : (Cond.code ({ cls := "LayeredPage$Layer", name := "undoCoefficients", desc := "()V" } : MethodName) prog_7_method_10_code (3 : Nat) (Option.none : Option FieldType)) ∈ TT := TT_in (List.mem_append_right _ (List.mem_of_getElem? (i := 514) (rfl))) rfl
theorem t_515 : (Cond.methodLink "LayeredPage$Layer" (56 : Nat) ({ cls := "LayeredPage$Layer", name := "undoLine", desc := "(III)V" } : MethodName)) ∈ TT := TT_in (List.mem_append_right _ (List.mem_of_getElem? (i := 515) (by decide +kernel))) rfl
theorem t_517 : (Cond.instanceMethod ({ cls := "LayeredPage$Layer", name := "undoLine", desc := "(III)V" } : MethodName)) ∈ TT := TT_in (List.mem_append_right _ (List.mem_of_getElem? (i := 517) (by decide +kernel))) rfl
set_option maxRecDepth 100000 in
theorem t_518 : (Cond.code ({ cls := "LayeredPage$Layer", name := "undoLine", desc := "(III)V" } : MethodName) prog_7_method_11_code (8 : Nat) (Option.none : Option FieldType)) ∈ TT := TT_in (List.mem_append_right _ (List.mem_of_getElem? (i := 518) (rfl))) rfl
theorem t_519 : (Cond.methodLink "LayeredPage$Layer" (59 : Nat) ({ cls := "java/lang/Math", name := "min", desc := "(II)I" } : MethodName)) ∈ TT := TT_in (List.mem_append_right _ (List.mem_of_getElem? (i := 519) (by decide +kernel))) rfl
theorem t_520 : (Cond.methodLink "LayeredPage$Layer" (64 : Nat) ({ cls := "java/lang/Math", name := "max", desc := "(II)I" } : MethodName)) ∈ TT := TT_in (List.mem_append_right _ (List.mem_of_getElem? (i := 520) (by decide +kernel))) rfl
theorem t_521 : (Cond.methodLink "LayeredPageLaw" (62 : Nat) ({ cls := "LayeredPage", name := "pixel", desc := "(II)I" } : MethodName)) ∈ TT := TT_in (List.mem_append_right _ (List.mem_of_getElem? (i := 521) (by decide +kernel))) rfl
theorem t_522 : (Cond.instanceMethod ({ cls := "LayeredPage", name := "pixel", desc := "(II)I" } : MethodName)) ∈ TT := TT_in (List.mem_append_right _ (List.mem_of_getElem? (i := 522) (by decide +kernel))) rfl
theorem t_523 : (Cond.selects "LayeredPage" ({ cls := "LayeredPage", name := "pixel", desc := "(II)I" } : MethodName) ({ cls := "LayeredPage", name := "pixel", desc := "(II)I" } : MethodName)) ∈ TT := TT_in (List.mem_append_right _ (List.mem_of_getElem? (i := 523) (by decide +kernel))) rfl
set_option maxRecDepth 100000 in
theorem t_524 : (Cond.code ({ cls := "LayeredPage", name := "pixel", desc := "(II)I" } : MethodName) prog_1_method_12_code (3 : Nat) (Option.some FieldType.int)) ∈ TT := TT_in (List.mem_append_right _ (List.mem_of_getElem? (i := 524) (rfl))) rfl
theorem t_525 : (Cond.methodLink "LayeredPage" (117 : Nat) ({ cls := "LayeredPage$Page", name := "isInked", desc := "(II)Z" } : MethodName)) ∈ TT := TT_in (List.mem_append_right _ (List.mem_of_getElem? (i := 525) (by decide +kernel))) rfl
theorem t_526 : (Cond.instanceMethod ({ cls := "LayeredPage$Page", name := "isInked", desc := "(II)Z" } : MethodName)) ∈ TT := TT_in (List.mem_append_right _ (List.mem_of_getElem? (i := 526) (by decide +kernel))) rfl
theorem t_527 : (Cond.selects "LayeredPage$Page" ({ cls := "LayeredPage$Page", name := "isInked", desc := "(II)Z" } : MethodName) ({ cls := "LayeredPage$Page", name := "isInked", desc := "(II)Z" } : MethodName)) ∈ TT := TT_in (List.mem_append_right _ (List.mem_of_getElem? (i := 527) (by decide +kernel))) rfl
set_option maxRecDepth 100000 in
theorem t_528 : (Cond.code ({ cls := "LayeredPage$Page", name := "isInked", desc := "(II)Z" } : MethodName) prog_9_method_7_code (6 : Nat) (Option.some FieldType.boolean)) ∈ TT := TT_in (List.mem_append_right _ (List.mem_of_getElem? (i := 528) (rfl))) rfl
theorem t_529 : (Cond.methodLink "LayeredPage" (124 : Nat) ({ cls := "LayeredPage$Layer", name := "cellAt", desc := "(II)I" } : MethodName)) ∈ TT := TT_in (List.mem_append_right _ (List.mem_of_getElem? (i := 529) (by decide +kernel))) rfl
theorem t_530 : (Cond.instanceMethod ({ cls := "LayeredPage$Layer", name := "cellAt", desc := "(II)I" } : MethodName)) ∈ TT := TT_in (List.mem_append_right _ (List.mem_of_getElem? (i := 530) (by decide +kernel))) rfl
theorem t_531 : (Cond.selects "LayeredPage$Layer" ({ cls := "LayeredPage$Layer", name := "cellAt", desc := "(II)I" } : MethodName) ({ cls := "LayeredPage$Layer", name := "cellAt", desc := "(II)I" } : MethodName)) ∈ TT := TT_in (List.mem_append_right _ (List.mem_of_getElem? (i := 531) (by decide +kernel))) rfl
set_option maxRecDepth 100000 in
theorem t_532 : (Cond.code ({ cls := "LayeredPage$Layer", name := "cellAt", desc := "(II)I" } : MethodName) prog_7_method_5_code (3 : Nat) (Option.some FieldType.int)) ∈ TT := TT_in (List.mem_append_right _ (List.mem_of_getElem? (i := 532) (rfl))) rfl
theorem t_533 : (Cond.methodLink "LayeredPage$Layer" (38 : Nat) ({ cls := "LayeredPage$Layer", name := "hasCell", desc := "(II)Z" } : MethodName)) ∈ TT := TT_in (List.mem_append_right _ (List.mem_of_getElem? (i := 533) (by decide +kernel))) rfl
theorem t_534 : (Cond.methodLink "LayeredPageLaw" (67 : Nat) ({ cls := "LayeredPage", name := "inked", desc := "(II)Z" } : MethodName)) ∈ TT := TT_in (List.mem_append_right _ (List.mem_of_getElem? (i := 534) (by decide +kernel))) rfl
theorem t_535 : (Cond.instanceMethod ({ cls := "LayeredPage", name := "inked", desc := "(II)Z" } : MethodName)) ∈ TT := TT_in (List.mem_append_right _ (List.mem_of_getElem? (i := 535) (by decide +kernel))) rfl
theorem t_536 : (Cond.selects "LayeredPage" ({ cls := "LayeredPage", name := "inked", desc := "(II)Z" } : MethodName) ({ cls := "LayeredPage", name := "inked", desc := "(II)Z" } : MethodName)) ∈ TT := TT_in (List.mem_append_right _ (List.mem_of_getElem? (i := 536) (by decide +kernel))) rfl
set_option maxRecDepth 100000 in
theorem t_537 : (Cond.code ({ cls := "LayeredPage", name := "inked", desc := "(II)Z" } : MethodName) prog_1_method_13_code (3 : Nat) (Option.some FieldType.boolean)) ∈ TT := TT_in (List.mem_append_right _ (List.mem_of_getElem? (i := 537) (rfl))) rfl
theorem t_538 : (Cond.methodLink "LayeredPageLaw" (71 : Nat) ({ cls := "LayeredPage", name := "cell", desc := "(III)I" } : MethodName)) ∈ TT := TT_in (List.mem_append_right _ (List.mem_of_getElem? (i := 538) (by decide +kernel))) rfl
theorem t_539 : (Cond.instanceMethod ({ cls := "LayeredPage", name := "cell", desc := "(III)I" } : MethodName)) ∈ TT := TT_in (List.mem_append_right _ (List.mem_of_getElem? (i := 539) (by decide +kernel))) rfl
theorem t_540 : (Cond.selects "LayeredPage" ({ cls := "LayeredPage", name := "cell", desc := "(III)I" } : MethodName) ({ cls := "LayeredPage", name := "cell", desc := "(III)I" } : MethodName)) ∈ TT := TT_in (List.mem_append_right _ (List.mem_of_getElem? (i := 540) (by decide +kernel))) rfl
set_option maxRecDepth 100000 in
theorem t_541 : (Cond.code ({ cls := "LayeredPage", name := "cell", desc := "(III)I" } : MethodName) prog_1_method_14_code (5 : Nat) (Option.some FieldType.int)) ∈ TT := TT_in (List.mem_append_right _ (List.mem_of_getElem? (i := 541) (rfl))) rfl
theorem t_542 : (Cond.methodLink "LayeredPage" (130 : Nat) ({ cls := "LayeredPage", name := "pictureLayer", desc := "(I)LLayeredPage$Layer;" } : MethodName)) ∈ TT := TT_in (List.mem_append_right _ (List.mem_of_getElem? (i := 542) (by decide +kernel))) rfl
theorem t_544 : (Cond.instanceMethod ({ cls := "LayeredPage", name := "pictureLayer", desc := "(I)LLayeredPage$Layer;" } : MethodName)) ∈ TT := TT_in (List.mem_append_right _ (List.mem_of_getElem? (i := 544) (by decide +kernel))) rfl
set_option maxRecDepth 100000 in
theorem t_545 : (Cond.code ({ cls := "LayeredPage", name := "pictureLayer", desc := "(I)LLayeredPage$Layer;" } : MethodName) prog_1_method_19_code (2 : Nat) (Option.some (FieldType.object "LayeredPage$Layer"))) ∈ TT := TT_in (List.mem_append_right _ (List.mem_of_getElem? (i := 545) (rfl))) rfl
theorem t_546 : (Cond.methodLink "LayeredPageLaw" (75 : Nat) ({ cls := "LayeredPage", name := "coefficient", desc := "(III)I" } : MethodName)) ∈ TT := TT_in (List.mem_append_right _ (List.mem_of_getElem? (i := 546) (by decide +kernel))) rfl
theorem t_547 : (Cond.instanceMethod ({ cls := "LayeredPage", name := "coefficient", desc := "(III)I" } : MethodName)) ∈ TT := TT_in (List.mem_append_right _ (List.mem_of_getElem? (i := 547) (by decide +kernel))) rfl
theorem t_548 : (Cond.selects "LayeredPage" ({ cls := "LayeredPage", name := "coefficient", desc := "(III)I" } : MethodName) ({ cls := "LayeredPage", name := "coefficient", desc := "(III)I" } : MethodName)) ∈ TT := TT_in (List.mem_append_right _ (List.mem_of_getElem? (i := 548) (by decide +kernel))) rfl
set_option maxRecDepth 100000 in
theorem t_549 : (Cond.code ({ cls := "LayeredPage", name := "coefficient", desc := "(III)I" } : MethodName) prog_1_method_15_code (5 : Nat) (Option.some FieldType.int)) ∈ TT := TT_in (List.mem_append_right _ (List.mem_of_getElem? (i := 549) (rfl))) rfl
theorem t_550 : (Cond.methodLink "LayeredPage" (133 : Nat) ({ cls := "LayeredPage$Layer", name := "coefficientAt", desc := "(II)I" } : MethodName)) ∈ TT := TT_in (List.mem_append_right _ (List.mem_of_getElem? (i := 550) (by decide +kernel))) rfl
theorem t_551 : (Cond.instanceMethod ({ cls := "LayeredPage$Layer", name := "coefficientAt", desc := "(II)I" } : MethodName)) ∈ TT := TT_in (List.mem_append_right _ (List.mem_of_getElem? (i := 551) (by decide +kernel))) rfl
theorem t_552 : (Cond.selects "LayeredPage$Layer" ({ cls := "LayeredPage$Layer", name := "coefficientAt", desc := "(II)I" } : MethodName) ({ cls := "LayeredPage$Layer", name := "coefficientAt", desc := "(II)I" } : MethodName)) ∈ TT := TT_in (List.mem_append_right _ (List.mem_of_getElem? (i := 552) (by decide +kernel))) rfl
set_option maxRecDepth 100000 in
theorem t_553 : (Cond.code ({ cls := "LayeredPage$Layer", name := "coefficientAt", desc := "(II)I" } : MethodName) prog_7_method_6_code (3 : Nat) (Option.some FieldType.int)) ∈ TT := TT_in (List.mem_append_right _ (List.mem_of_getElem? (i := 553) (rfl))) rfl
theorem t_554 : (Cond.methodLink "LayeredPageLaw" (79 : Nat) ({ cls := "LayeredPage", name := "shapes", desc := "()I" } : MethodName)) ∈ TT := TT_in (List.mem_append_right _ (List.mem_of_getElem? (i := 554) (by decide +kernel))) rfl
theorem t_555 : (Cond.instanceMethod ({ cls := "LayeredPage", name := "shapes", desc := "()I" } : MethodName)) ∈ TT := TT_in (List.mem_append_right _ (List.mem_of_getElem? (i := 555) (by decide +kernel))) rfl
theorem t_556 : (Cond.selects "LayeredPage" ({ cls := "LayeredPage", name := "shapes", desc := "()I" } : MethodName) ({ cls := "LayeredPage", name := "shapes", desc := "()I" } : MethodName)) ∈ TT := TT_in (List.mem_append_right _ (List.mem_of_getElem? (i := 556) (by decide +kernel))) rfl
set_option maxRecDepth 100000 in
theorem t_557 : (Cond.code ({ cls := "LayeredPage", name := "shapes", desc := "()I" } : MethodName) prog_1_method_16_code (1 : Nat) (Option.some FieldType.int)) ∈ TT := TT_in (List.mem_append_right _ (List.mem_of_getElem? (i := 557) (rfl))) rfl
theorem t_558 : (Cond.methodLink "LayeredPageLaw" (83 : Nat) ({ cls := "LayeredPage", name := "glyph", desc := "(I)J" } : MethodName)) ∈ TT := TT_in (List.mem_append_right _ (List.mem_of_getElem? (i := 558) (by decide +kernel))) rfl
theorem t_559 : (Cond.instanceMethod ({ cls := "LayeredPage", name := "glyph", desc := "(I)J" } : MethodName)) ∈ TT := TT_in (List.mem_append_right _ (List.mem_of_getElem? (i := 559) (by decide +kernel))) rfl
theorem t_560 : (Cond.selects "LayeredPage" ({ cls := "LayeredPage", name := "glyph", desc := "(I)J" } : MethodName) ({ cls := "LayeredPage", name := "glyph", desc := "(I)J" } : MethodName)) ∈ TT := TT_in (List.mem_append_right _ (List.mem_of_getElem? (i := 560) (by decide +kernel))) rfl
set_option maxRecDepth 100000 in
theorem t_561 : (Cond.code ({ cls := "LayeredPage", name := "glyph", desc := "(I)J" } : MethodName) prog_1_method_17_code (2 : Nat) (Option.some FieldType.long)) ∈ TT := TT_in (List.mem_append_right _ (List.mem_of_getElem? (i := 561) (rfl))) rfl
theorem t_562 : (Cond.methodLink "LayeredPageLaw" (88 : Nat) ({ cls := "LayeredPage", name := "placings", desc := "()I" } : MethodName)) ∈ TT := TT_in (List.mem_append_right _ (List.mem_of_getElem? (i := 562) (by decide +kernel))) rfl
theorem t_563 : (Cond.instanceMethod ({ cls := "LayeredPage", name := "placings", desc := "()I" } : MethodName)) ∈ TT := TT_in (List.mem_append_right _ (List.mem_of_getElem? (i := 563) (by decide +kernel))) rfl
theorem t_564 : (Cond.selects "LayeredPage" ({ cls := "LayeredPage", name := "placings", desc := "()I" } : MethodName) ({ cls := "LayeredPage", name := "placings", desc := "()I" } : MethodName)) ∈ TT := TT_in (List.mem_append_right _ (List.mem_of_getElem? (i := 564) (by decide +kernel))) rfl
set_option maxRecDepth 100000 in
theorem t_565 : (Cond.code ({ cls := "LayeredPage", name := "placings", desc := "()I" } : MethodName) prog_1_method_18_code (1 : Nat) (Option.some FieldType.int)) ∈ TT := TT_in (List.mem_append_right _ (List.mem_of_getElem? (i := 565) (rfl))) rfl
theorem t_566 : (Cond.classLink "LayeredPageLaw" (10 : Nat) "LayeredPageModel") ∈ TT := TT_in (List.mem_append_right _ (List.mem_of_getElem? (i := 566) (by decide +kernel))) rfl
theorem t_567 : (Cond.instantiable "LayeredPageModel" (30 : Nat)) ∈ TT := TT_in (List.mem_append_right _ (List.mem_of_getElem? (i := 567) (by decide +kernel))) rfl
theorem t_568 : (Cond.methodLink "LayeredPageLaw" (12 : Nat) ({ cls := "LayeredPageModel", name := "<init>", desc := "()V" } : MethodName)) ∈ TT := TT_in (List.mem_append_right _ (List.mem_of_getElem? (i := 568) (by decide +kernel))) rfl
theorem t_569 : (Cond.instanceMethod ({ cls := "LayeredPageModel", name := "<init>", desc := "()V" } : MethodName)) ∈ TT := TT_in (List.mem_append_right _ (List.mem_of_getElem? (i := 569) (by decide +kernel))) rfl
set_option maxRecDepth 100000 in
theorem t_570 : (Cond.code ({ cls := "LayeredPageModel", name := "<init>", desc := "()V" } : MethodName) prog_12_method_1_code (1 : Nat) (Option.none : Option FieldType)) ∈ TT := TT_in (List.mem_append_right _ (List.mem_of_getElem? (i := 570) (rfl))) rfl
theorem t_571 : (Cond.methodLink "LayeredPageModel" (1 : Nat) ({ cls := "java/lang/Object", name := "<init>", desc := "()V" } : MethodName)) ∈ TT := TT_in (List.mem_append_right _ (List.mem_of_getElem? (i := 571) (by decide +kernel))) rfl
theorem t_572 : (Cond.fieldLink "LayeredPageModel" (7 : Nat) "LayeredPageModel" "bits" "[J") ∈ TT := TT_in (List.mem_append_right _ (List.mem_of_getElem? (i := 572) (by decide +kernel))) rfl
theorem t_573 : (Cond.fieldLink "LayeredPageModel" (13 : Nat) "LayeredPageModel" "wide" "[I") ∈ TT := TT_in (List.mem_append_right _ (List.mem_of_getElem? (i := 573) (by decide +kernel))) rfl
theorem t_574 : (Cond.fieldLink "LayeredPageModel" (17 : Nat) "LayeredPageModel" "high" "[I") ∈ TT := TT_in (List.mem_append_right _ (List.mem_of_getElem? (i := 574) (by decide +kernel))) rfl
theorem t_575 : (Cond.fieldLink "LayeredPageModel" (20 : Nat) "LayeredPageModel" "base" "[I") ∈ TT := TT_in (List.mem_append_right _ (List.mem_of_getElem? (i := 575) (by decide +kernel))) rfl
theorem t_576 : (Cond.fieldLink "LayeredPageModel" (79 : Nat) "LayeredPageModel" "drawn" "I") ∈ TT := TT_in (List.mem_append_right _ (List.mem_of_getElem? (i := 576) (by decide +kernel))) rfl
theorem t_577 : (Cond.fieldLink "LayeredPageModel" (23 : Nat) "LayeredPageModel" "placeShape" "[I") ∈ TT := TT_in (List.mem_append_right _ (List.mem_of_getElem? (i := 577) (by decide +kernel))) rfl
theorem t_578 : (Cond.fieldLink "LayeredPageModel" (26 : Nat) "LayeredPageModel" "placeAt" "[I") ∈ TT := TT_in (List.mem_append_right _ (List.mem_of_getElem? (i := 578) (by decide +kernel))) rfl
theorem t_579 : (Cond.fieldLink "LayeredPageModel" (87 : Nat) "LayeredPageModel" "placed" "I") ∈ TT := TT_in (List.mem_append_right _ (List.mem_of_getElem? (i := 579) (by decide +kernel))) rfl
theorem t_580 : (Cond.fieldLink "LayeredPageModel" (29 : Nat) "LayeredPageModel" "cells" "[I") ∈ TT := TT_in (List.mem_append_right _ (List.mem_of_getElem? (i := 580) (by decide +kernel))) rfl
theorem t_581 : (Cond.fieldLink "LayeredPageModel" (32 : Nat) "LayeredPageModel" "doc" "[I") ∈ TT := TT_in (List.mem_append_right _ (List.mem_of_getElem? (i := 581) (by decide +kernel))) rfl
theorem t_582 : (Cond.fieldLink "LayeredPageModel" (120 : Nat) "LayeredPageModel" "len" "I") ∈ TT := TT_in (List.mem_append_right _ (List.mem_of_getElem? (i := 582) (by decide +kernel))) rfl
theorem t_583 : (Cond.fieldLink "LayeredPageModel" (180 : Nat) "LayeredPageModel" "there" "Z") ∈ TT := TT_in (List.mem_append_right _ (List.mem_of_getElem? (i := 583) (by decide +kernel))) rfl
theorem t_584 : (Cond.fieldLink "LayeredPageModel" (35 : Nat) "LayeredPageModel" "seen" "[J") ∈ TT := TT_in (List.mem_append_right _ (List.mem_of_getElem? (i := 584) (by decide +kernel))) rfl
theorem t_585 : (Cond.fieldLink "LayeredPageModel" (183 : Nat) "LayeredPageModel" "seenShapes" "I") ∈ TT := TT_in (List.mem_append_right _ (List.mem_of_getElem? (i := 585) (by decide +kernel))) rfl
theorem t_586 : (Cond.fieldLink "LayeredPageModel" (38 : Nat) "LayeredPageModel" "putShape" "[I") ∈ TT := TT_in (List.mem_append_right _ (List.mem_of_getElem? (i := 586) (by decide +kernel))) rfl
theorem t_587 : (Cond.fieldLink "LayeredPageModel" (41 : Nat) "LayeredPageModel" "putAt" "[I") ∈ TT := TT_in (List.mem_append_right _ (List.mem_of_getElem? (i := 587) (by decide +kernel))) rfl
theorem t_588 : (Cond.fieldLink "LayeredPageModel" (186 : Nat) "LayeredPageModel" "puts" "I") ∈ TT := TT_in (List.mem_append_right _ (List.mem_of_getElem? (i := 588) (by decide +kernel))) rfl
theorem t_589 : (Cond.fieldLink "LayeredPageModel" (44 : Nat) "LayeredPageModel" "coef" "[I") ∈ TT := TT_in (List.mem_append_right _ (List.mem_of_getElem? (i := 589) (by decide +kernel))) rfl
theorem t_590 : (Cond.fieldLink "LayeredPageModel" (47 : Nat) "LayeredPageModel" "undone" "[I") ∈ TT := TT_in (List.mem_append_right _ (List.mem_of_getElem? (i := 590) (by decide +kernel))) rfl
theorem t_591 : (Cond.fieldLink "LayeredPageModel" (96 : Nat) "LayeredPageModel" "reading" "Z") ∈ TT := TT_in (List.mem_append_right _ (List.mem_of_getElem? (i := 591) (by decide +kernel))) rfl
theorem t_592 : (Cond.fieldLink "LayeredPageModel" (50 : Nat) "LayeredPageModel" "zeros" "[I") ∈ TT := TT_in (List.mem_append_right _ (List.mem_of_getElem? (i := 592) (by decide +kernel))) rfl
theorem t_593 : (Cond.fieldLink "LayeredPageModel" (53 : Nat) "LayeredPageModel" "ones" "[I") ∈ TT := TT_in (List.mem_append_right _ (List.mem_of_getElem? (i := 593) (by decide +kernel))) rfl
theorem t_594 : (Cond.fieldLink "LayeredPageModel" (101 : Nat) "LayeredPageModel" "width" "I") ∈ TT := TT_in (List.mem_append_right _ (List.mem_of_getElem? (i := 594) (by decide +kernel))) rfl
theorem t_595 : (Cond.fieldLink "LayeredPageModel" (104 : Nat) "LayeredPageModel" "scale" "I") ∈ TT := TT_in (List.mem_append_right _ (List.mem_of_getElem? (i := 595) (by decide +kernel))) rfl
theorem t_596 : (Cond.fieldLink "LayeredPageModel" (56 : Nat) "LayeredPageModel" "digit" "[I") ∈ TT := TT_in (List.mem_append_right _ (List.mem_of_getElem? (i := 596) (by decide +kernel))) rfl
theorem t_597 : (Cond.fieldLink "LayeredPageModel" (59 : Nat) "LayeredPageModel" "grid" "[I") ∈ TT := TT_in (List.mem_append_right _ (List.mem_of_getElem? (i := 597) (by decide +kernel))) rfl
theorem t_598 : (Cond.fieldLink "LayeredPageModel" (62 : Nat) "LayeredPageModel" "row" "[I") ∈ TT := TT_in (List.mem_append_right _ (List.mem_of_getElem? (i := 598) (by decide +kernel))) rfl
theorem t_599 : (Cond.fieldLink "LayeredPageModel" (65 : Nat) "LayeredPageModel" "next" "[I") ∈ TT := TT_in (List.mem_append_right _ (List.mem_of_getElem? (i := 599) (by decide +kernel))) rfl
theorem t_600 : (Cond.fieldLink "LayeredPageModel" (68 : Nat) "LayeredPageModel" "prefix" "[I") ∈ TT := TT_in (List.mem_append_right _ (List.mem_of_getElem? (i := 600) (by decide +kernel))) rfl
theorem t_601 : (Cond.fieldLink "LayeredPageModel" (71 : Nat) "LayeredPageModel" "minus" "[Z") ∈ TT := TT_in (List.mem_append_right _ (List.mem_of_getElem? (i := 601) (by decide +kernel))) rfl
theorem t_602 : (Cond.laysFinal "LayeredPageModel" "LayeredPageModel" "bits" "[J") ∈ TT := TT_in (List.mem_append_right _ (List.mem_of_getElem? (i := 602) (by decide +kernel))) rfl
theorem t_604 : (Cond.laysFinal "LayeredPageModel" "LayeredPageModel" "wide" "[I") ∈ TT := TT_in (List.mem_append_right _ (List.mem_of_getElem? (i := 604) (by decide +kernel))) rfl
theorem t_606 : (Cond.laysFinal "LayeredPageModel" "LayeredPageModel" "high" "[I") ∈ TT := TT_in (List.mem_append_right _ (List.mem_of_getElem? (i := 606) (by decide +kernel))) rfl
theorem t_608 : (Cond.laysFinal "LayeredPageModel" "LayeredPageModel" "base" "[I") ∈ TT := TT_in (List.mem_append_right _ (List.mem_of_getElem? (i := 608) (by decide +kernel))) rfl
theorem t_610 : (Cond.lays "LayeredPageModel" "LayeredPageModel" "drawn" "I") ∈ TT := TT_in (List.mem_append_right _ (List.mem_of_getElem? (i := 610) (by decide +kernel))) rfl
theorem t_612 : (Cond.laysFinal "LayeredPageModel" "LayeredPageModel" "placeShape" "[I") ∈ TT := TT_in (List.mem_append_right _ (List.mem_of_getElem? (i := 612) (by decide +kernel))) rfl
theorem t_614 : (Cond.laysFinal "LayeredPageModel" "LayeredPageModel" "placeAt" "[I") ∈ TT := TT_in (List.mem_append_right _ (List.mem_of_getElem? (i := 614) (by decide +kernel))) rfl
theorem t_616 : (Cond.lays "LayeredPageModel" "LayeredPageModel" "placed" "I") ∈ TT := TT_in (List.mem_append_right _ (List.mem_of_getElem? (i := 616) (by decide +kernel))) rfl
theorem t_618 : (Cond.laysFinal "LayeredPageModel" "LayeredPageModel" "cells" "[I") ∈ TT := TT_in (List.mem_append_right _ (List.mem_of_getElem? (i := 618) (by decide +kernel))) rfl
theorem t_620 : (Cond.laysFinal "LayeredPageModel" "LayeredPageModel" "doc" "[I") ∈ TT := TT_in (List.mem_append_right _ (List.mem_of_getElem? (i := 620) (by decide +kernel))) rfl
theorem t_622 : (Cond.lays "LayeredPageModel" "LayeredPageModel" "len" "I") ∈ TT := TT_in (List.mem_append_right _ (List.mem_of_getElem? (i := 622) (by decide +kernel))) rfl
theorem t_624 : (Cond.lays "LayeredPageModel" "LayeredPageModel" "there" "Z") ∈ TT := TT_in (List.mem_append_right _ (List.mem_of_getElem? (i := 624) (by decide +kernel))) rfl
theorem t_626 : (Cond.laysFinal "LayeredPageModel" "LayeredPageModel" "seen" "[J") ∈ TT := TT_in (List.mem_append_right _ (List.mem_of_getElem? (i := 626) (by decide +kernel))) rfl
theorem t_628 : (Cond.lays "LayeredPageModel" "LayeredPageModel" "seenShapes" "I") ∈ TT := TT_in (List.mem_append_right _ (List.mem_of_getElem? (i := 628) (by decide +kernel))) rfl
theorem t_630 : (Cond.laysFinal "LayeredPageModel" "LayeredPageModel" "putShape" "[I") ∈ TT := TT_in (List.mem_append_right _ (List.mem_of_getElem? (i := 630) (by decide +kernel))) rfl
theorem t_632 : (Cond.laysFinal "LayeredPageModel" "LayeredPageModel" "putAt" "[I") ∈ TT := TT_in (List.mem_append_right _ (List.mem_of_getElem? (i := 632) (by decide +kernel))) rfl
theorem t_634 : (Cond.lays "LayeredPageModel" "LayeredPageModel" "puts" "I") ∈ TT := TT_in (List.mem_append_right _ (List.mem_of_getElem? (i := 634) (by decide +kernel))) rfl
theorem t_636 : (Cond.laysFinal "LayeredPageModel" "LayeredPageModel" "coef" "[I") ∈ TT := TT_in (List.mem_append_right _ (List.mem_of_getElem? (i := 636) (by decide +kernel))) rfl
theorem t_638 : (Cond.laysFinal "LayeredPageModel" "LayeredPageModel" "undone" "[I") ∈ TT := TT_in (List.mem_append_right _ (List.mem_of_getElem? (i := 638) (by decide +kernel))) rfl
theorem t_640 : (Cond.lays "LayeredPageModel" "LayeredPageModel" "reading" "Z") ∈ TT := TT_in (List.mem_append_right _ (List.mem_of_getElem? (i := 640) (by decide +kernel))) rfl
theorem t_642 : (Cond.laysFinal "LayeredPageModel" "LayeredPageModel" "zeros" "[I") ∈ TT := TT_in (List.mem_append_right _ (List.mem_of_getElem? (i := 642) (by decide +kernel))) rfl
theorem t_644 : (Cond.laysFinal "LayeredPageModel" "LayeredPageModel" "ones" "[I") ∈ TT := TT_in (List.mem_append_right _ (List.mem_of_getElem? (i := 644) (by decide +kernel))) rfl
theorem t_646 : (Cond.lays "LayeredPageModel" "LayeredPageModel" "width" "I") ∈ TT := TT_in (List.mem_append_right _ (List.mem_of_getElem? (i := 646) (by decide +kernel))) rfl
theorem t_648 : (Cond.lays "LayeredPageModel" "LayeredPageModel" "scale" "I") ∈ TT := TT_in (List.mem_append_right _ (List.mem_of_getElem? (i := 648) (by decide +kernel))) rfl
theorem t_650 : (Cond.laysFinal "LayeredPageModel" "LayeredPageModel" "digit" "[I") ∈ TT := TT_in (List.mem_append_right _ (List.mem_of_getElem? (i := 650) (by decide +kernel))) rfl
theorem t_652 : (Cond.laysFinal "LayeredPageModel" "LayeredPageModel" "grid" "[I") ∈ TT := TT_in (List.mem_append_right _ (List.mem_of_getElem? (i := 652) (by decide +kernel))) rfl
theorem t_654 : (Cond.laysFinal "LayeredPageModel" "LayeredPageModel" "row" "[I") ∈ TT := TT_in (List.mem_append_right _ (List.mem_of_getElem? (i := 654) (by decide +kernel))) rfl
theorem t_656 : (Cond.laysFinal "LayeredPageModel" "LayeredPageModel" "next" "[I") ∈ TT := TT_in (List.mem_append_right _ (List.mem_of_getElem? (i := 656) (by decide +kernel))) rfl
theorem t_658 : (Cond.laysFinal "LayeredPageModel" "LayeredPageModel" "prefix" "[I") ∈ TT := TT_in (List.mem_append_right _ (List.mem_of_getElem? (i := 658) (by decide +kernel))) rfl
theorem t_660 : (Cond.laysFinal "LayeredPageModel" "LayeredPageModel" "minus" "[Z") ∈ TT := TT_in (List.mem_append_right _ (List.mem_of_getElem? (i := 660) (by decide +kernel))) rfl
theorem t_663 : (Cond.arrayClass FieldType.long) ∈ TT := TT_in (List.mem_append_right _ (List.mem_of_getElem? (i := 663) (by decide +kernel))) rfl
theorem t_664 : (Cond.arrayClass FieldType.boolean) ∈ TT := TT_in (List.mem_append_right _ (List.mem_of_getElem? (i := 664) (by decide +kernel))) rfl
theorem t_665 : (Cond.methodLink "LayeredPageLaw" (19 : Nat) ({ cls := "LayeredPageModel", name := "shape", desc := "(JIII)I" } : MethodName)) ∈ TT := TT_in (List.mem_append_right _ (List.mem_of_getElem? (i := 665) (by decide +kernel))) rfl
theorem t_666 : (Cond.instanceMethod ({ cls := "LayeredPageModel", name := "shape", desc := "(JIII)I" } : MethodName)) ∈ TT := TT_in (List.mem_append_right _ (List.mem_of_getElem? (i := 666) (by decide +kernel))) rfl
theorem t_667 : (Cond.selects "LayeredPageModel" ({ cls := "LayeredPageModel", name := "shape", desc := "(JIII)I" } : MethodName) ({ cls := "LayeredPageModel", name := "shape", desc := "(JIII)I" } : MethodName)) ∈ TT := TT_in (List.mem_append_right _ (List.mem_of_getElem? (i := 667) (by decide +kernel))) rfl
set_option maxRecDepth 100000 in
theorem t_668 : (Cond.code ({ cls := "LayeredPageModel", name := "shape", desc := "(JIII)I" } : MethodName) prog_12_method_4_code (8 : Nat) (Option.some FieldType.int)) ∈ TT := TT_in (List.mem_append_right _ (List.mem_of_getElem? (i := 668) (rfl))) rfl
theorem t_669 : (Cond.methodLink "LayeredPageModel" (75 : Nat) ({ cls := "LayeredPageModel", name := "outside", desc := "(II)Z" } : MethodName)) ∈ TT := TT_in (List.mem_append_right _ (List.mem_of_getElem? (i := 669) (by decide +kernel))) rfl
theorem t_670 : (Cond.static ({ cls := "LayeredPageModel", name := "outside", desc := "(II)Z" } : MethodName)) ∈ TT := TT_in (List.mem_append_right _ (List.mem_of_getElem? (i := 670) (by decide +kernel))) rfl
set_option maxRecDepth 100000 in
theorem t_671 : (Cond.code ({ cls := "LayeredPageModel", name := "outside", desc := "(II)Z" } : MethodName) prog_12_method_2_code (2 : Nat) (Option.some FieldType.boolean)) ∈ TT := TT_in (List.mem_append_right _ (List.mem_of_getElem? (i := 671) (rfl))) rfl
theorem t_672 : (Cond.methodLink "LayeredPageModel" (83 : Nat) ({ cls := "LayeredPageModel", name := "at", desc := "(JII)I" } : MethodName)) ∈ TT := TT_in (List.mem_append_right _ (List.mem_of_getElem? (i := 672) (by decide +kernel))) rfl
theorem t_673 : (Cond.static ({ cls := "LayeredPageModel", name := "at", desc := "(JII)I" } : MethodName)) ∈ TT := TT_in (List.mem_append_right _ (List.mem_of_getElem? (i := 673) (by decide +kernel))) rfl
set_option maxRecDepth 100000 in
theorem t_674 : (Cond.code ({ cls := "LayeredPageModel", name := "at", desc := "(JII)I" } : MethodName) prog_12_method_3_code (4 : Nat) (Option.some FieldType.int)) ∈ TT := TT_in (List.mem_append_right _ (List.mem_of_getElem? (i := 674) (rfl))) rfl
theorem t_675 : (Cond.methodLink "LayeredPageLaw" (24 : Nat) ({ cls := "LayeredPageModel", name := "place", desc := "(III)I" } : MethodName)) ∈ TT := TT_in (List.mem_append_right _ (List.mem_of_getElem? (i := 675) (by decide +kernel))) rfl
theorem t_676 : (Cond.instanceMethod ({ cls := "LayeredPageModel", name := "place", desc := "(III)I" } : MethodName)) ∈ TT := TT_in (List.mem_append_right _ (List.mem_of_getElem? (i := 676) (by decide +kernel))) rfl
theorem t_677 : (Cond.selects "LayeredPageModel" ({ cls := "LayeredPageModel", name := "place", desc := "(III)I" } : MethodName) ({ cls := "LayeredPageModel", name := "place", desc := "(III)I" } : MethodName)) ∈ TT := TT_in (List.mem_append_right _ (List.mem_of_getElem? (i := 677) (by decide +kernel))) rfl
set_option maxRecDepth 100000 in
theorem t_678 : (Cond.code ({ cls := "LayeredPageModel", name := "place", desc := "(III)I" } : MethodName) prog_12_method_5_code (4 : Nat) (Option.some FieldType.int)) ∈ TT := TT_in (List.mem_append_right _ (List.mem_of_getElem? (i := 678) (rfl))) rfl
theorem t_679 : (Cond.methodLink "LayeredPageLaw" (29 : Nat) ({ cls := "LayeredPageModel", name := "paint", desc := "(IIJ)Z" } : MethodName)) ∈ TT := TT_in (List.mem_append_right _ (List.mem_of_getElem? (i := 679) (by decide +kernel))) rfl
theorem t_680 : (Cond.instanceMethod ({ cls := "LayeredPageModel", name := "paint", desc := "(IIJ)Z" } : MethodName)) ∈ TT := TT_in (List.mem_append_right _ (List.mem_of_getElem? (i := 680) (by decide +kernel))) rfl
theorem t_681 : (Cond.selects "LayeredPageModel" ({ cls := "LayeredPageModel", name := "paint", desc := "(IIJ)Z" } : MethodName) ({ cls := "LayeredPageModel", name := "paint", desc := "(IIJ)Z" } : MethodName)) ∈ TT := TT_in (List.mem_append_right _ (List.mem_of_getElem? (i := 681) (by decide +kernel))) rfl
set_option maxRecDepth 100000 in
theorem t_682 : (Cond.code ({ cls := "LayeredPageModel", name := "paint", desc := "(IIJ)Z" } : MethodName) prog_12_method_7_code (7 : Nat) (Option.some FieldType.boolean)) ∈ TT := TT_in (List.mem_append_right _ (List.mem_of_getElem? (i := 682) (rfl))) rfl
theorem t_683 : (Cond.methodLink "LayeredPageModel" (90 : Nat) ({ cls := "LayeredPageModel", name := "side", desc := "(I)I" } : MethodName)) ∈ TT := TT_in (List.mem_append_right _ (List.mem_of_getElem? (i := 683) (by decide +kernel))) rfl
theorem t_684 : (Cond.static ({ cls := "LayeredPageModel", name := "side", desc := "(I)I" } : MethodName)) ∈ TT := TT_in (List.mem_append_right _ (List.mem_of_getElem? (i := 684) (by decide +kernel))) rfl
set_option maxRecDepth 100000 in
theorem t_685 : (Cond.code ({ cls := "LayeredPageModel", name := "side", desc := "(I)I" } : MethodName) prog_12_method_6_code (1 : Nat) (Option.some FieldType.int)) ∈ TT := TT_in (List.mem_append_right _ (List.mem_of_getElem? (i := 685) (rfl))) rfl
theorem t_686 : (Cond.constantLong "LayeredPageModel" (94 : Nat) (255 : Int64)) ∈ TT := TT_in (List.mem_append_right _ (List.mem_of_getElem? (i := 686) (by decide +kernel))) rfl
theorem t_687 : (Cond.methodLink "LayeredPageLaw" (33 : Nat) ({ cls := "LayeredPageModel", name := "clear", desc := "()V" } : MethodName)) ∈ TT := TT_in (List.mem_append_right _ (List.mem_of_getElem? (i := 687) (by decide +kernel))) rfl
theorem t_688 : (Cond.instanceMethod ({ cls := "LayeredPageModel", name := "clear", desc := "()V" } : MethodName)) ∈ TT := TT_in (List.mem_append_right _ (List.mem_of_getElem? (i := 688) (by decide +kernel))) rfl
theorem t_689 : (Cond.selects "LayeredPageModel" ({ cls := "LayeredPageModel", name := "clear", desc := "()V" } : MethodName) ({ cls := "LayeredPageModel", name := "clear", desc := "()V" } : MethodName)) ∈ TT := TT_in (List.mem_append_right _ (List.mem_of_getElem? (i := 689) (by decide +kernel))) rfl
set_option maxRecDepth 100000 in
theorem t_690 : (Cond.code ({ cls := "LayeredPageModel", name := "clear", desc := "()V" } : MethodName) prog_12_method_8_code (2 : Nat) (Option.none : Option FieldType)) ∈ TT := TT_in (List.mem_append_right _ (List.mem_of_getElem? (i := 690) (rfl))) rfl
theorem t_691 : (Cond.methodLink "LayeredPageLaw" (38 : Nat) ({ cls := "LayeredPageModel", name := "encode", desc := "(I)I" } : MethodName)) ∈ TT := TT_in (List.mem_append_right _ (List.mem_of_getElem? (i := 691) (by decide +kernel))) rfl
theorem t_692 : (Cond.instanceMethod ({ cls := "LayeredPageModel", name := "encode", desc := "(I)I" } : MethodName)) ∈ TT := TT_in (List.mem_append_right _ (List.mem_of_getElem? (i := 692) (by decide +kernel))) rfl
theorem t_693 : (Cond.selects "LayeredPageModel" ({ cls := "LayeredPageModel", name := "encode", desc := "(I)I" } : MethodName) ({ cls := "LayeredPageModel", name := "encode", desc := "(I)I" } : MethodName)) ∈ TT := TT_in (List.mem_append_right _ (List.mem_of_getElem? (i := 693) (by decide +kernel))) rfl
set_option maxRecDepth 100000 in
theorem t_694 : (Cond.code ({ cls := "LayeredPageModel", name := "encode", desc := "(I)I" } : MethodName) prog_12_method_26_code (4 : Nat) (Option.some FieldType.int)) ∈ TT := TT_in (List.mem_append_right _ (List.mem_of_getElem? (i := 694) (rfl))) rfl
theorem t_695 : (Cond.methodLink "LayeredPageModel" (123 : Nat) ({ cls := "LayeredPageModel", name := "put", desc := "(I)V" } : MethodName)) ∈ TT := TT_in (List.mem_append_right _ (List.mem_of_getElem? (i := 695) (by decide +kernel))) rfl
theorem t_697 : (Cond.instanceMethod ({ cls := "LayeredPageModel", name := "put", desc := "(I)V" } : MethodName)) ∈ TT := TT_in (List.mem_append_right _ (List.mem_of_getElem? (i := 697) (by decide +kernel))) rfl
set_option maxRecDepth 100000 in
theorem t_698 : (Cond.code ({ cls := "LayeredPageModel", name := "put", desc := "(I)V" } : MethodName) prog_12_method_14_code (2 : Nat) (Option.none : Option FieldType)) ∈ TT := TT_in (List.mem_append_right _ (List.mem_of_getElem? (i := 698) (rfl))) rfl
theorem t_699 : (Cond.methodLink "LayeredPageModel" (160 : Nat) ({ cls := "LayeredPageModel", name := "putShape", desc := "(I)V" } : MethodName)) ∈ TT := TT_in (List.mem_append_right _ (List.mem_of_getElem? (i := 699) (by decide +kernel))) rfl
theorem t_701 : (Cond.instanceMethod ({ cls := "LayeredPageModel", name := "putShape", desc := "(I)V" } : MethodName)) ∈ TT := TT_in (List.mem_append_right _ (List.mem_of_getElem? (i := 701) (by decide +kernel))) rfl
set_option maxRecDepth 100000 in
theorem t_702 : (Cond.code ({ cls := "LayeredPageModel", name := "putShape", desc := "(I)V" } : MethodName) prog_12_method_24_code (5 : Nat) (Option.none : Option FieldType)) ∈ TT := TT_in (List.mem_append_right _ (List.mem_of_getElem? (i := 702) (rfl))) rfl
theorem t_703 : (Cond.methodLink "LayeredPageModel" (140 : Nat) ({ cls := "LayeredPageModel", name := "open", desc := "(I)I" } : MethodName)) ∈ TT := TT_in (List.mem_append_right _ (List.mem_of_getElem? (i := 703) (by decide +kernel))) rfl
theorem t_705 : (Cond.instanceMethod ({ cls := "LayeredPageModel", name := "open", desc := "(I)I" } : MethodName)) ∈ TT := TT_in (List.mem_append_right _ (List.mem_of_getElem? (i := 705) (by decide +kernel))) rfl
set_option maxRecDepth 100000 in
theorem t_706 : (Cond.code ({ cls := "LayeredPageModel", name := "open", desc := "(I)I" } : MethodName) prog_12_method_23_code (2 : Nat) (Option.some FieldType.int)) ∈ TT := TT_in (List.mem_append_right _ (List.mem_of_getElem? (i := 706) (rfl))) rfl
theorem t_707 : (Cond.methodLink "LayeredPageModel" (107 : Nat) ({ cls := "LayeredPageModel", name := "begin", desc := "(Z)V" } : MethodName)) ∈ TT := TT_in (List.mem_append_right _ (List.mem_of_getElem? (i := 707) (by decide +kernel))) rfl
theorem t_709 : (Cond.instanceMethod ({ cls := "LayeredPageModel", name := "begin", desc := "(Z)V" } : MethodName)) ∈ TT := TT_in (List.mem_append_right _ (List.mem_of_getElem? (i := 709) (by decide +kernel))) rfl
set_option maxRecDepth 100000 in
theorem t_710 : (Cond.code ({ cls := "LayeredPageModel", name := "begin", desc := "(Z)V" } : MethodName) prog_12_method_9_code (3 : Nat) (Option.none : Option FieldType)) ∈ TT := TT_in (List.mem_append_right _ (List.mem_of_getElem? (i := 710) (rfl))) rfl
theorem t_711 : (Cond.constant "LayeredPageModel" (100 : Nat) (65536 : Int32)) ∈ TT := TT_in (List.mem_append_right _ (List.mem_of_getElem? (i := 711) (by decide +kernel))) rfl
theorem t_712 : (Cond.methodLink "LayeredPageModel" (143 : Nat) ({ cls := "LayeredPageModel", name := "walk", desc := "(JIIZJ)J" } : MethodName)) ∈ TT := TT_in (List.mem_append_right _ (List.mem_of_getElem? (i := 712) (by decide +kernel))) rfl
theorem t_714 : (Cond.instanceMethod ({ cls := "LayeredPageModel", name := "walk", desc := "(JIIZJ)J" } : MethodName)) ∈ TT := TT_in (List.mem_append_right _ (List.mem_of_getElem? (i := 714) (by decide +kernel))) rfl
set_option maxRecDepth 100000 in
theorem t_715 : (Cond.code ({ cls := "LayeredPageModel", name := "walk", desc := "(JIIZJ)J" } : MethodName) prog_12_method_16_code (14 : Nat) (Option.some FieldType.long)) ∈ TT := TT_in (List.mem_append_right _ (List.mem_of_getElem? (i := 715) (rfl))) rfl
theorem t_716 : (Cond.methodLink "LayeredPageModel" (127 : Nat) ({ cls := "LayeredPageModel", name := "code", desc := "(II)I" } : MethodName)) ∈ TT := TT_in (List.mem_append_right _ (List.mem_of_getElem? (i := 716) (by decide +kernel))) rfl
theorem t_718 : (Cond.instanceMethod ({ cls := "LayeredPageModel", name := "code", desc := "(II)I" } : MethodName)) ∈ TT := TT_in (List.mem_append_right _ (List.mem_of_getElem? (i := 718) (by decide +kernel))) rfl
set_option maxRecDepth 100000 in
theorem t_719 : (Cond.code ({ cls := "LayeredPageModel", name := "code", desc := "(II)I" } : MethodName) prog_12_method_13_code (6 : Nat) (Option.some FieldType.int)) ∈ TT := TT_in (List.mem_append_right _ (List.mem_of_getElem? (i := 719) (rfl))) rfl
theorem t_720 : (Cond.methodLink "LayeredPageModel" (111 : Nat) ({ cls := "LayeredPageModel", name := "units", desc := "()I" } : MethodName)) ∈ TT := TT_in (List.mem_append_right _ (List.mem_of_getElem? (i := 720) (by decide +kernel))) rfl
theorem t_722 : (Cond.instanceMethod ({ cls := "LayeredPageModel", name := "units", desc := "()I" } : MethodName)) ∈ TT := TT_in (List.mem_append_right _ (List.mem_of_getElem? (i := 722) (by decide +kernel))) rfl
set_option maxRecDepth 100000 in
theorem t_723 : (Cond.code ({ cls := "LayeredPageModel", name := "units", desc := "()I" } : MethodName) prog_12_method_12_code (3 : Nat) (Option.some FieldType.int)) ∈ TT := TT_in (List.mem_append_right _ (List.mem_of_getElem? (i := 723) (rfl))) rfl
theorem t_724 : (Cond.methodLink "LayeredPageModel" (115 : Nat) ({ cls := "LayeredPageModel", name := "shift", desc := "(II)V" } : MethodName)) ∈ TT := TT_in (List.mem_append_right _ (List.mem_of_getElem? (i := 724) (by decide +kernel))) rfl
theorem t_726 : (Cond.instanceMethod ({ cls := "LayeredPageModel", name := "shift", desc := "(II)V" } : MethodName)) ∈ TT := TT_in (List.mem_append_right _ (List.mem_of_getElem? (i := 726) (by decide +kernel))) rfl
set_option maxRecDepth 100000 in
theorem t_727 : (Cond.code ({ cls := "LayeredPageModel", name := "shift", desc := "(II)V" } : MethodName) prog_12_method_11_code (7 : Nat) (Option.none : Option FieldType)) ∈ TT := TT_in (List.mem_append_right _ (List.mem_of_getElem? (i := 727) (rfl))) rfl
theorem t_728 : (Cond.constant "LayeredPageModel" (119 : Nat) (32768 : Int32)) ∈ TT := TT_in (List.mem_append_right _ (List.mem_of_getElem? (i := 728) (by decide +kernel))) rfl
theorem t_729 : (Cond.methodLink "LayeredPageModel" (147 : Nat) ({ cls := "LayeredPageModel", name := "putCode", desc := "()V" } : MethodName)) ∈ TT := TT_in (List.mem_append_right _ (List.mem_of_getElem? (i := 729) (by decide +kernel))) rfl
theorem t_731 : (Cond.instanceMethod ({ cls := "LayeredPageModel", name := "putCode", desc := "()V" } : MethodName)) ∈ TT := TT_in (List.mem_append_right _ (List.mem_of_getElem? (i := 731) (by decide +kernel))) rfl
set_option maxRecDepth 100000 in
theorem t_732 : (Cond.code ({ cls := "LayeredPageModel", name := "putCode", desc := "()V" } : MethodName) prog_12_method_15_code (5 : Nat) (Option.none : Option FieldType)) ∈ TT := TT_in (List.mem_append_right _ (List.mem_of_getElem? (i := 732) (rfl))) rfl
theorem t_733 : (Cond.methodLink "LayeredPageModel" (150 : Nat) ({ cls := "LayeredPageModel", name := "close", desc := "(I)V" } : MethodName)) ∈ TT := TT_in (List.mem_append_right _ (List.mem_of_getElem? (i := 733) (by decide +kernel))) rfl
theorem t_735 : (Cond.instanceMethod ({ cls := "LayeredPageModel", name := "close", desc := "(I)V" } : MethodName)) ∈ TT := TT_in (List.mem_append_right _ (List.mem_of_getElem? (i := 735) (by decide +kernel))) rfl
set_option maxRecDepth 100000 in
theorem t_736 : (Cond.code ({ cls := "LayeredPageModel", name := "close", desc := "(I)V" } : MethodName) prog_12_method_22_code (2 : Nat) (Option.none : Option FieldType)) ∈ TT := TT_in (List.mem_append_right _ (List.mem_of_getElem? (i := 736) (rfl))) rfl
theorem t_737 : (Cond.methodLink "LayeredPageModel" (162 : Nat) ({ cls := "LayeredPageModel", name := "putLayer", desc := "(II)V" } : MethodName)) ∈ TT := TT_in (List.mem_append_right _ (List.mem_of_getElem? (i := 737) (by decide +kernel))) rfl
theorem t_739 : (Cond.instanceMethod ({ cls := "LayeredPageModel", name := "putLayer", desc := "(II)V" } : MethodName)) ∈ TT := TT_in (List.mem_append_right _ (List.mem_of_getElem? (i := 739) (by decide +kernel))) rfl
set_option maxRecDepth 100000 in
theorem t_740 : (Cond.code ({ cls := "LayeredPageModel", name := "putLayer", desc := "(II)V" } : MethodName) prog_12_method_25_code (5 : Nat) (Option.none : Option FieldType)) ∈ TT := TT_in (List.mem_append_right _ (List.mem_of_getElem? (i := 740) (rfl))) rfl
theorem t_741 : (Cond.methodLink "LayeredPageModel" (153 : Nat) ({ cls := "LayeredPageModel", name := "all", desc := "(IZZ)V" } : MethodName)) ∈ TT := TT_in (List.mem_append_right _ (List.mem_of_getElem? (i := 741) (by decide +kernel))) rfl
theorem t_743 : (Cond.instanceMethod ({ cls := "LayeredPageModel", name := "all", desc := "(IZZ)V" } : MethodName)) ∈ TT := TT_in (List.mem_append_right _ (List.mem_of_getElem? (i := 743) (by decide +kernel))) rfl
set_option maxRecDepth 100000 in
theorem t_744 : (Cond.code ({ cls := "LayeredPageModel", name := "all", desc := "(IZZ)V" } : MethodName) prog_12_method_21_code (6 : Nat) (Option.none : Option FieldType)) ∈ TT := TT_in (List.mem_append_right _ (List.mem_of_getElem? (i := 744) (rfl))) rfl
theorem t_745 : (Cond.methodLink "LayeredPageModel" (134 : Nat) ({ cls := "LayeredPageModel", name := "lift", desc := "(I)V" } : MethodName)) ∈ TT := TT_in (List.mem_append_right _ (List.mem_of_getElem? (i := 745) (by decide +kernel))) rfl
theorem t_747 : (Cond.instanceMethod ({ cls := "LayeredPageModel", name := "lift", desc := "(I)V" } : MethodName)) ∈ TT := TT_in (List.mem_append_right _ (List.mem_of_getElem? (i := 747) (by decide +kernel))) rfl
set_option maxRecDepth 100000 in
theorem t_748 : (Cond.code ({ cls := "LayeredPageModel", name := "lift", desc := "(I)V" } : MethodName) prog_12_method_19_code (5 : Nat) (Option.none : Option FieldType)) ∈ TT := TT_in (List.mem_append_right _ (List.mem_of_getElem? (i := 748) (rfl))) rfl
theorem t_749 : (Cond.methodLink "LayeredPageModel" (131 : Nat) ({ cls := "LayeredPageModel", name := "half", desc := "(I)I" } : MethodName)) ∈ TT := TT_in (List.mem_append_right _ (List.mem_of_getElem? (i := 749) (by decide +kernel))) rfl
theorem t_750 : (Cond.static ({ cls := "LayeredPageModel", name := "half", desc := "(I)I" } : MethodName)) ∈ TT := TT_in (List.mem_append_right _ (List.mem_of_getElem? (i := 750) (by decide +kernel))) rfl
set_option maxRecDepth 100000 in
theorem t_751 : (Cond.code ({ cls := "LayeredPageModel", name := "half", desc := "(I)I" } : MethodName) prog_12_method_18_code (1 : Nat) (Option.some FieldType.int)) ∈ TT := TT_in (List.mem_append_right _ (List.mem_of_getElem? (i := 751) (rfl))) rfl
theorem t_752 : (Cond.methodLink "LayeredPageModel" (137 : Nat) ({ cls := "LayeredPageModel", name := "drop", desc := "(I)V" } : MethodName)) ∈ TT := TT_in (List.mem_append_right _ (List.mem_of_getElem? (i := 752) (by decide +kernel))) rfl
theorem t_754 : (Cond.instanceMethod ({ cls := "LayeredPageModel", name := "drop", desc := "(I)V" } : MethodName)) ∈ TT := TT_in (List.mem_append_right _ (List.mem_of_getElem? (i := 754) (by decide +kernel))) rfl
set_option maxRecDepth 100000 in
theorem t_755 : (Cond.code ({ cls := "LayeredPageModel", name := "drop", desc := "(I)V" } : MethodName) prog_12_method_20_code (5 : Nat) (Option.none : Option FieldType)) ∈ TT := TT_in (List.mem_append_right _ (List.mem_of_getElem? (i := 755) (rfl))) rfl
theorem t_756 : (Cond.methodLink "LayeredPageModel" (157 : Nat) ({ cls := "LayeredPageModel", name := "planes", desc := "(II)V" } : MethodName)) ∈ TT := TT_in (List.mem_append_right _ (List.mem_of_getElem? (i := 756) (by decide +kernel))) rfl
theorem t_758 : (Cond.instanceMethod ({ cls := "LayeredPageModel", name := "planes", desc := "(II)V" } : MethodName)) ∈ TT := TT_in (List.mem_append_right _ (List.mem_of_getElem? (i := 758) (by decide +kernel))) rfl
set_option maxRecDepth 100000 in
theorem t_759 : (Cond.code ({ cls := "LayeredPageModel", name := "planes", desc := "(II)V" } : MethodName) prog_12_method_17_code (13 : Nat) (Option.none : Option FieldType)) ∈ TT := TT_in (List.mem_append_right _ (List.mem_of_getElem? (i := 759) (rfl))) rfl
theorem t_760 : (Cond.methodLink "LayeredPageLaw" (43 : Nat) ({ cls := "LayeredPageModel", name := "length", desc := "()I" } : MethodName)) ∈ TT := TT_in (List.mem_append_right _ (List.mem_of_getElem? (i := 760) (by decide +kernel))) rfl
theorem t_761 : (Cond.instanceMethod ({ cls := "LayeredPageModel", name := "length", desc := "()I" } : MethodName)) ∈ TT := TT_in (List.mem_append_right _ (List.mem_of_getElem? (i := 761) (by decide +kernel))) rfl
theorem t_762 : (Cond.selects "LayeredPageModel" ({ cls := "LayeredPageModel", name := "length", desc := "()I" } : MethodName) ({ cls := "LayeredPageModel", name := "length", desc := "()I" } : MethodName)) ∈ TT := TT_in (List.mem_append_right _ (List.mem_of_getElem? (i := 762) (by decide +kernel))) rfl
set_option maxRecDepth 100000 in
theorem t_763 : (Cond.code ({ cls := "LayeredPageModel", name := "length", desc := "()I" } : MethodName) prog_12_method_27_code (1 : Nat) (Option.some FieldType.int)) ∈ TT := TT_in (List.mem_append_right _ (List.mem_of_getElem? (i := 763) (rfl))) rfl
theorem t_764 : (Cond.methodLink "LayeredPageLaw" (47 : Nat) ({ cls := "LayeredPageModel", name := "octet", desc := "(I)I" } : MethodName)) ∈ TT := TT_in (List.mem_append_right _ (List.mem_of_getElem? (i := 764) (by decide +kernel))) rfl
theorem t_765 : (Cond.instanceMethod ({ cls := "LayeredPageModel", name := "octet", desc := "(I)I" } : MethodName)) ∈ TT := TT_in (List.mem_append_right _ (List.mem_of_getElem? (i := 765) (by decide +kernel))) rfl
theorem t_766 : (Cond.selects "LayeredPageModel" ({ cls := "LayeredPageModel", name := "octet", desc := "(I)I" } : MethodName) ({ cls := "LayeredPageModel", name := "octet", desc := "(I)I" } : MethodName)) ∈ TT := TT_in (List.mem_append_right _ (List.mem_of_getElem? (i := 766) (by decide +kernel))) rfl
set_option maxRecDepth 100000 in
theorem t_767 : (Cond.code ({ cls := "LayeredPageModel", name := "octet", desc := "(I)I" } : MethodName) prog_12_method_28_code (2 : Nat) (Option.some FieldType.int)) ∈ TT := TT_in (List.mem_append_right _ (List.mem_of_getElem? (i := 767) (rfl))) rfl
theorem t_768 : (Cond.methodLink "LayeredPageLaw" (52 : Nat) ({ cls := "LayeredPageModel", name := "alter", desc := "(II)Z" } : MethodName)) ∈ TT := TT_in (List.mem_append_right _ (List.mem_of_getElem? (i := 768) (by decide +kernel))) rfl
theorem t_769 : (Cond.instanceMethod ({ cls := "LayeredPageModel", name := "alter", desc := "(II)Z" } : MethodName)) ∈ TT := TT_in (List.mem_append_right _ (List.mem_of_getElem? (i := 769) (by decide +kernel))) rfl
theorem t_770 : (Cond.selects "LayeredPageModel" ({ cls := "LayeredPageModel", name := "alter", desc := "(II)Z" } : MethodName) ({ cls := "LayeredPageModel", name := "alter", desc := "(II)Z" } : MethodName)) ∈ TT := TT_in (List.mem_append_right _ (List.mem_of_getElem? (i := 770) (by decide +kernel))) rfl
set_option maxRecDepth 100000 in
theorem t_771 : (Cond.code ({ cls := "LayeredPageModel", name := "alter", desc := "(II)Z" } : MethodName) prog_12_method_29_code (3 : Nat) (Option.some FieldType.boolean)) ∈ TT := TT_in (List.mem_append_right _ (List.mem_of_getElem? (i := 771) (rfl))) rfl
theorem t_772 : (Cond.methodLink "LayeredPageLaw" (57 : Nat) ({ cls := "LayeredPageModel", name := "cut", desc := "(I)Z" } : MethodName)) ∈ TT := TT_in (List.mem_append_right _ (List.mem_of_getElem? (i := 772) (by decide +kernel))) rfl
theorem t_773 : (Cond.instanceMethod ({ cls := "LayeredPageModel", name := "cut", desc := "(I)Z" } : MethodName)) ∈ TT := TT_in (List.mem_append_right _ (List.mem_of_getElem? (i := 773) (by decide +kernel))) rfl
theorem t_774 : (Cond.selects "LayeredPageModel" ({ cls := "LayeredPageModel", name := "cut", desc := "(I)Z" } : MethodName) ({ cls := "LayeredPageModel", name := "cut", desc := "(I)Z" } : MethodName)) ∈ TT := TT_in (List.mem_append_right _ (List.mem_of_getElem? (i := 774) (by decide +kernel))) rfl
set_option maxRecDepth 100000 in
theorem t_775 : (Cond.code ({ cls := "LayeredPageModel", name := "cut", desc := "(I)Z" } : MethodName) prog_12_method_30_code (2 : Nat) (Option.some FieldType.boolean)) ∈ TT := TT_in (List.mem_append_right _ (List.mem_of_getElem? (i := 775) (rfl))) rfl
theorem t_776 : (Cond.methodLink "LayeredPageLaw" (61 : Nat) ({ cls := "LayeredPageModel", name := "decode", desc := "()I" } : MethodName)) ∈ TT := TT_in (List.mem_append_right _ (List.mem_of_getElem? (i := 776) (by decide +kernel))) rfl
theorem t_777 : (Cond.instanceMethod ({ cls := "LayeredPageModel", name := "decode", desc := "()I" } : MethodName)) ∈ TT := TT_in (List.mem_append_right _ (List.mem_of_getElem? (i := 777) (by decide +kernel))) rfl
theorem t_778 : (Cond.selects "LayeredPageModel" ({ cls := "LayeredPageModel", name := "decode", desc := "()I" } : MethodName) ({ cls := "LayeredPageModel", name := "decode", desc := "()I" } : MethodName)) ∈ TT := TT_in (List.mem_append_right _ (List.mem_of_getElem? (i := 778) (by decide +kernel))) rfl
set_option maxRecDepth 100000 in
theorem t_779 : (Cond.code ({ cls := "LayeredPageModel", name := "decode", desc := "()I" } : MethodName) prog_12_method_36_code (3 : Nat) (Option.some FieldType.int)) ∈ TT := TT_in (List.mem_append_right _ (List.mem_of_getElem? (i := 779) (rfl))) rfl
theorem t_780 : (Cond.methodLink "LayeredPageModel" (177 : Nat) ({ cls := "LayeredPageModel", name := "fault", desc := "()I" } : MethodName)) ∈ TT := TT_in (List.mem_append_right _ (List.mem_of_getElem? (i := 780) (by decide +kernel))) rfl
theorem t_782 : (Cond.instanceMethod ({ cls := "LayeredPageModel", name := "fault", desc := "()I" } : MethodName)) ∈ TT := TT_in (List.mem_append_right _ (List.mem_of_getElem? (i := 782) (by decide +kernel))) rfl
set_option maxRecDepth 100000 in
theorem t_783 : (Cond.code ({ cls := "LayeredPageModel", name := "fault", desc := "()I" } : MethodName) prog_12_method_35_code (3 : Nat) (Option.some FieldType.int)) ∈ TT := TT_in (List.mem_append_right _ (List.mem_of_getElem? (i := 783) (rfl))) rfl
theorem t_784 : (Cond.methodLink "LayeredPageModel" (174 : Nat) ({ cls := "LayeredPageModel", name := "chunkFault", desc := "(I)I" } : MethodName)) ∈ TT := TT_in (List.mem_append_right _ (List.mem_of_getElem? (i := 784) (by decide +kernel))) rfl
theorem t_786 : (Cond.instanceMethod ({ cls := "LayeredPageModel", name := "chunkFault", desc := "(I)I" } : MethodName)) ∈ TT := TT_in (List.mem_append_right _ (List.mem_of_getElem? (i := 786) (by decide +kernel))) rfl
set_option maxRecDepth 100000 in
theorem t_787 : (Cond.code ({ cls := "LayeredPageModel", name := "chunkFault", desc := "(I)I" } : MethodName) prog_12_method_34_code (6 : Nat) (Option.some FieldType.int)) ∈ TT := TT_in (List.mem_append_right _ (List.mem_of_getElem? (i := 787) (rfl))) rfl
theorem t_788 : (Cond.methodLink "LayeredPageModel" (165 : Nat) ({ cls := "LayeredPageModel", name := "chunkLength", desc := "(I)I" } : MethodName)) ∈ TT := TT_in (List.mem_append_right _ (List.mem_of_getElem? (i := 788) (by decide +kernel))) rfl
theorem t_790 : (Cond.instanceMethod ({ cls := "LayeredPageModel", name := "chunkLength", desc := "(I)I" } : MethodName)) ∈ TT := TT_in (List.mem_append_right _ (List.mem_of_getElem? (i := 790) (by decide +kernel))) rfl
set_option maxRecDepth 100000 in
theorem t_791 : (Cond.code ({ cls := "LayeredPageModel", name := "chunkLength", desc := "(I)I" } : MethodName) prog_12_method_31_code (2 : Nat) (Option.some FieldType.int)) ∈ TT := TT_in (List.mem_append_right _ (List.mem_of_getElem? (i := 791) (rfl))) rfl
theorem t_792 : (Cond.methodLink "LayeredPageModel" (168 : Nat) ({ cls := "LayeredPageModel", name := "before", desc := "(II)I" } : MethodName)) ∈ TT := TT_in (List.mem_append_right _ (List.mem_of_getElem? (i := 792) (by decide +kernel))) rfl
theorem t_794 : (Cond.instanceMethod ({ cls := "LayeredPageModel", name := "before", desc := "(II)I" } : MethodName)) ∈ TT := TT_in (List.mem_append_right _ (List.mem_of_getElem? (i := 794) (by decide +kernel))) rfl
set_option maxRecDepth 100000 in
theorem t_795 : (Cond.code ({ cls := "LayeredPageModel", name := "before", desc := "(II)I" } : MethodName) prog_12_method_32_code (5 : Nat) (Option.some FieldType.int)) ∈ TT := TT_in (List.mem_append_right _ (List.mem_of_getElem? (i := 795) (rfl))) rfl
theorem t_796 : (Cond.methodLink "LayeredPageModel" (171 : Nat) ({ cls := "LayeredPageModel", name := "placingsBefore", desc := "(I)I" } : MethodName)) ∈ TT := TT_in (List.mem_append_right _ (List.mem_of_getElem? (i := 796) (by decide +kernel))) rfl
theorem t_798 : (Cond.instanceMethod ({ cls := "LayeredPageModel", name := "placingsBefore", desc := "(I)I" } : MethodName)) ∈ TT := TT_in (List.mem_append_right _ (List.mem_of_getElem? (i := 798) (by decide +kernel))) rfl
set_option maxRecDepth 100000 in
theorem t_799 : (Cond.code ({ cls := "LayeredPageModel", name := "placingsBefore", desc := "(I)I" } : MethodName) prog_12_method_33_code (4 : Nat) (Option.some FieldType.int)) ∈ TT := TT_in (List.mem_append_right _ (List.mem_of_getElem? (i := 799) (rfl))) rfl
theorem t_800 : (Cond.methodLink "LayeredPageModel" (189 : Nat) ({ cls := "LayeredPageModel", name := "takeShape", desc := "(I)V" } : MethodName)) ∈ TT := TT_in (List.mem_append_right _ (List.mem_of_getElem? (i := 800) (by decide +kernel))) rfl
theorem t_802 : (Cond.instanceMethod ({ cls := "LayeredPageModel", name := "takeShape", desc := "(I)V" } : MethodName)) ∈ TT := TT_in (List.mem_append_right _ (List.mem_of_getElem? (i := 802) (by decide +kernel))) rfl
set_option maxRecDepth 100000 in
theorem t_803 : (Cond.code ({ cls := "LayeredPageModel", name := "takeShape", desc := "(I)V" } : MethodName) prog_12_method_37_code (5 : Nat) (Option.none : Option FieldType)) ∈ TT := TT_in (List.mem_append_right _ (List.mem_of_getElem? (i := 803) (rfl))) rfl
theorem t_804 : (Cond.methodLink "LayeredPageModel" (198 : Nat) ({ cls := "LayeredPageModel", name := "load", desc := "(II)V" } : MethodName)) ∈ TT := TT_in (List.mem_append_right _ (List.mem_of_getElem? (i := 804) (by decide +kernel))) rfl
theorem t_806 : (Cond.instanceMethod ({ cls := "LayeredPageModel", name := "load", desc := "(II)V" } : MethodName)) ∈ TT := TT_in (List.mem_append_right _ (List.mem_of_getElem? (i := 806) (by decide +kernel))) rfl
set_option maxRecDepth 100000 in
theorem t_807 : (Cond.code ({ cls := "LayeredPageModel", name := "load", desc := "(II)V" } : MethodName) prog_12_method_10_code (4 : Nat) (Option.none : Option FieldType)) ∈ TT := TT_in (List.mem_append_right _ (List.mem_of_getElem? (i := 807) (rfl))) rfl
theorem t_808 : (Cond.methodLink "LayeredPageModel" (192 : Nat) ({ cls := "LayeredPageModel", name := "takePlacings", desc := "(I)V" } : MethodName)) ∈ TT := TT_in (List.mem_append_right _ (List.mem_of_getElem? (i := 808) (by decide +kernel))) rfl
theorem t_810 : (Cond.instanceMethod ({ cls := "LayeredPageModel", name := "takePlacings", desc := "(I)V" } : MethodName)) ∈ TT := TT_in (List.mem_append_right _ (List.mem_of_getElem? (i := 810) (by decide +kernel))) rfl
set_option maxRecDepth 100000 in
theorem t_811 : (Cond.code ({ cls := "LayeredPageModel", name := "takePlacings", desc := "(I)V" } : MethodName) prog_12_method_38_code (3 : Nat) (Option.none : Option FieldType)) ∈ TT := TT_in (List.mem_append_right _ (List.mem_of_getElem? (i := 811) (rfl))) rfl
theorem t_812 : (Cond.methodLink "LayeredPageModel" (195 : Nat) ({ cls := "LayeredPageModel", name := "takeLayer", desc := "(II)V" } : MethodName)) ∈ TT := TT_in (List.mem_append_right _ (List.mem_of_getElem? (i := 812) (by decide +kernel))) rfl
theorem t_814 : (Cond.instanceMethod ({ cls := "LayeredPageModel", name := "takeLayer", desc := "(II)V" } : MethodName)) ∈ TT := TT_in (List.mem_append_right _ (List.mem_of_getElem? (i := 814) (by decide +kernel))) rfl
set_option maxRecDepth 100000 in
theorem t_815 : (Cond.code ({ cls := "LayeredPageModel", name := "takeLayer", desc := "(II)V" } : MethodName) prog_12_method_39_code (7 : Nat) (Option.none : Option FieldType)) ∈ TT := TT_in (List.mem_append_right _ (List.mem_of_getElem? (i := 815) (rfl))) rfl
theorem t_816 : (Cond.methodLink "LayeredPageLaw" (70 : Nat) ({ cls := "LayeredPageModel", name := "inked", desc := "(II)Z" } : MethodName)) ∈ TT := TT_in (List.mem_append_right _ (List.mem_of_getElem? (i := 816) (by decide +kernel))) rfl
theorem t_817 : (Cond.instanceMethod ({ cls := "LayeredPageModel", name := "inked", desc := "(II)Z" } : MethodName)) ∈ TT := TT_in (List.mem_append_right _ (List.mem_of_getElem? (i := 817) (by decide +kernel))) rfl
theorem t_818 : (Cond.selects "LayeredPageModel" ({ cls := "LayeredPageModel", name := "inked", desc := "(II)Z" } : MethodName) ({ cls := "LayeredPageModel", name := "inked", desc := "(II)Z" } : MethodName)) ∈ TT := TT_in (List.mem_append_right _ (List.mem_of_getElem? (i := 818) (by decide +kernel))) rfl
set_option maxRecDepth 100000 in
theorem t_819 : (Cond.code ({ cls := "LayeredPageModel", name := "inked", desc := "(II)Z" } : MethodName) prog_12_method_40_code (7 : Nat) (Option.some FieldType.boolean)) ∈ TT := TT_in (List.mem_append_right _ (List.mem_of_getElem? (i := 819) (rfl))) rfl
theorem t_820 : (Cond.methodLink "LayeredPageLaw" (74 : Nat) ({ cls := "LayeredPageModel", name := "cell", desc := "(III)I" } : MethodName)) ∈ TT := TT_in (List.mem_append_right _ (List.mem_of_getElem? (i := 820) (by decide +kernel))) rfl
theorem t_821 : (Cond.instanceMethod ({ cls := "LayeredPageModel", name := "cell", desc := "(III)I" } : MethodName)) ∈ TT := TT_in (List.mem_append_right _ (List.mem_of_getElem? (i := 821) (by decide +kernel))) rfl
theorem t_822 : (Cond.selects "LayeredPageModel" ({ cls := "LayeredPageModel", name := "cell", desc := "(III)I" } : MethodName) ({ cls := "LayeredPageModel", name := "cell", desc := "(III)I" } : MethodName)) ∈ TT := TT_in (List.mem_append_right _ (List.mem_of_getElem? (i := 822) (by decide +kernel))) rfl
set_option maxRecDepth 100000 in
theorem t_823 : (Cond.code ({ cls := "LayeredPageModel", name := "cell", desc := "(III)I" } : MethodName) prog_12_method_42_code (5 : Nat) (Option.some FieldType.int)) ∈ TT := TT_in (List.mem_append_right _ (List.mem_of_getElem? (i := 823) (rfl))) rfl
theorem t_824 : (Cond.methodLink "LayeredPageModel" (201 : Nat) ({ cls := "LayeredPageModel", name := "noCell", desc := "(III)Z" } : MethodName)) ∈ TT := TT_in (List.mem_append_right _ (List.mem_of_getElem? (i := 824) (by decide +kernel))) rfl
theorem t_826 : (Cond.instanceMethod ({ cls := "LayeredPageModel", name := "noCell", desc := "(III)Z" } : MethodName)) ∈ TT := TT_in (List.mem_append_right _ (List.mem_of_getElem? (i := 826) (by decide +kernel))) rfl
set_option maxRecDepth 100000 in
theorem t_827 : (Cond.code ({ cls := "LayeredPageModel", name := "noCell", desc := "(III)Z" } : MethodName) prog_12_method_41_code (4 : Nat) (Option.some FieldType.boolean)) ∈ TT := TT_in (List.mem_append_right _ (List.mem_of_getElem? (i := 827) (rfl))) rfl
theorem t_828 : (Cond.methodLink "LayeredPageLaw" (66 : Nat) ({ cls := "LayeredPageModel", name := "pixel", desc := "(II)I" } : MethodName)) ∈ TT := TT_in (List.mem_append_right _ (List.mem_of_getElem? (i := 828) (by decide +kernel))) rfl
theorem t_829 : (Cond.instanceMethod ({ cls := "LayeredPageModel", name := "pixel", desc := "(II)I" } : MethodName)) ∈ TT := TT_in (List.mem_append_right _ (List.mem_of_getElem? (i := 829) (by decide +kernel))) rfl
theorem t_830 : (Cond.selects "LayeredPageModel" ({ cls := "LayeredPageModel", name := "pixel", desc := "(II)I" } : MethodName) ({ cls := "LayeredPageModel", name := "pixel", desc := "(II)I" } : MethodName)) ∈ TT := TT_in (List.mem_append_right _ (List.mem_of_getElem? (i := 830) (by decide +kernel))) rfl
set_option maxRecDepth 100000 in
theorem t_831 : (Cond.code ({ cls := "LayeredPageModel", name := "pixel", desc := "(II)I" } : MethodName) prog_12_method_43_code (3 : Nat) (Option.some FieldType.int)) ∈ TT := TT_in (List.mem_append_right _ (List.mem_of_getElem? (i := 831) (rfl))) rfl
theorem t_832 : (Cond.methodLink "LayeredPageModel" (205 : Nat) ({ cls := "LayeredPageModel", name := "inked", desc := "(II)Z" } : MethodName)) ∈ TT := TT_in (List.mem_append_right _ (List.mem_of_getElem? (i := 832) (by decide +kernel))) rfl
theorem t_833 : (Cond.methodLink "LayeredPageModel" (208 : Nat) ({ cls := "LayeredPageModel", name := "cell", desc := "(III)I" } : MethodName)) ∈ TT := TT_in (List.mem_append_right _ (List.mem_of_getElem? (i := 833) (by decide +kernel))) rfl
theorem t_834 : (Cond.methodLink "LayeredPageLaw" (78 : Nat) ({ cls := "LayeredPageModel", name := "coefficient", desc := "(III)I" } : MethodName)) ∈ TT := TT_in (List.mem_append_right _ (List.mem_of_getElem? (i := 834) (by decide +kernel))) rfl
theorem t_835 : (Cond.instanceMethod ({ cls := "LayeredPageModel", name := "coefficient", desc := "(III)I" } : MethodName)) ∈ TT := TT_in (List.mem_append_right _ (List.mem_of_getElem? (i := 835) (by decide +kernel))) rfl
theorem t_836 : (Cond.selects "LayeredPageModel" ({ cls := "LayeredPageModel", name := "coefficient", desc := "(III)I" } : MethodName) ({ cls := "LayeredPageModel", name := "coefficient", desc := "(III)I" } : MethodName)) ∈ TT := TT_in (List.mem_append_right _ (List.mem_of_getElem? (i := 836) (by decide +kernel))) rfl
set_option maxRecDepth 100000 in
theorem t_837 : (Cond.code ({ cls := "LayeredPageModel", name := "coefficient", desc := "(III)I" } : MethodName) prog_12_method_44_code (4 : Nat) (Option.some FieldType.int)) ∈ TT := TT_in (List.mem_append_right _ (List.mem_of_getElem? (i := 837) (rfl))) rfl
theorem t_838 : (Cond.methodLink "LayeredPageLaw" (82 : Nat) ({ cls := "LayeredPageModel", name := "shapes", desc := "()I" } : MethodName)) ∈ TT := TT_in (List.mem_append_right _ (List.mem_of_getElem? (i := 838) (by decide +kernel))) rfl
theorem t_839 : (Cond.instanceMethod ({ cls := "LayeredPageModel", name := "shapes", desc := "()I" } : MethodName)) ∈ TT := TT_in (List.mem_append_right _ (List.mem_of_getElem? (i := 839) (by decide +kernel))) rfl
theorem t_840 : (Cond.selects "LayeredPageModel" ({ cls := "LayeredPageModel", name := "shapes", desc := "()I" } : MethodName) ({ cls := "LayeredPageModel", name := "shapes", desc := "()I" } : MethodName)) ∈ TT := TT_in (List.mem_append_right _ (List.mem_of_getElem? (i := 840) (by decide +kernel))) rfl
set_option maxRecDepth 100000 in
theorem t_841 : (Cond.code ({ cls := "LayeredPageModel", name := "shapes", desc := "()I" } : MethodName) prog_12_method_45_code (1 : Nat) (Option.some FieldType.int)) ∈ TT := TT_in (List.mem_append_right _ (List.mem_of_getElem? (i := 841) (rfl))) rfl
theorem t_842 : (Cond.methodLink "LayeredPageLaw" (87 : Nat) ({ cls := "LayeredPageModel", name := "glyph", desc := "(I)J" } : MethodName)) ∈ TT := TT_in (List.mem_append_right _ (List.mem_of_getElem? (i := 842) (by decide +kernel))) rfl
theorem t_843 : (Cond.instanceMethod ({ cls := "LayeredPageModel", name := "glyph", desc := "(I)J" } : MethodName)) ∈ TT := TT_in (List.mem_append_right _ (List.mem_of_getElem? (i := 843) (by decide +kernel))) rfl
theorem t_844 : (Cond.selects "LayeredPageModel" ({ cls := "LayeredPageModel", name := "glyph", desc := "(I)J" } : MethodName) ({ cls := "LayeredPageModel", name := "glyph", desc := "(I)J" } : MethodName)) ∈ TT := TT_in (List.mem_append_right _ (List.mem_of_getElem? (i := 844) (by decide +kernel))) rfl
set_option maxRecDepth 100000 in
theorem t_845 : (Cond.code ({ cls := "LayeredPageModel", name := "glyph", desc := "(I)J" } : MethodName) prog_12_method_46_code (2 : Nat) (Option.some FieldType.long)) ∈ TT := TT_in (List.mem_append_right _ (List.mem_of_getElem? (i := 845) (rfl))) rfl
theorem t_846 : (Cond.methodLink "LayeredPageLaw" (91 : Nat) ({ cls := "LayeredPageModel", name := "placings", desc := "()I" } : MethodName)) ∈ TT := TT_in (List.mem_append_right _ (List.mem_of_getElem? (i := 846) (by decide +kernel))) rfl
theorem t_847 : (Cond.instanceMethod ({ cls := "LayeredPageModel", name := "placings", desc := "()I" } : MethodName)) ∈ TT := TT_in (List.mem_append_right _ (List.mem_of_getElem? (i := 847) (by decide +kernel))) rfl
theorem t_848 : (Cond.selects "LayeredPageModel" ({ cls := "LayeredPageModel", name := "placings", desc := "()I" } : MethodName) ({ cls := "LayeredPageModel", name := "placings", desc := "()I" } : MethodName)) ∈ TT := TT_in (List.mem_append_right _ (List.mem_of_getElem? (i := 848) (by decide +kernel))) rfl
set_option maxRecDepth 100000 in
theorem t_849 : (Cond.code ({ cls := "LayeredPageModel", name := "placings", desc := "()I" } : MethodName) prog_12_method_47_code (1 : Nat) (Option.some FieldType.int)) ∈ TT := TT_in (List.mem_append_right _ (List.mem_of_getElem? (i := 849) (rfl))) rfl
theorem t_850 : (Cond.constantLong "LayeredPageLaw" (13 : Nat) (4294967295 : Int64)) ∈ TT := TT_in (List.mem_append_right _ (List.mem_of_getElem? (i := 850) (by decide +kernel))) rfl
theorem t_851 : (Cond.sameMethod "LayeredPage$Coder" "LayeredPage$Coder" "tally" "(II)V") ∈ TT := TT_in (List.mem_append_right _ (List.mem_of_getElem? (i := 851) (by decide +kernel))) rfl
theorem t_852 : (Cond.selects "LayeredPage$CodeReader" ({ cls := "LayeredPage$CodeReader", name := "shift", desc := "()V" } : MethodName) ({ cls := "LayeredPage$CodeReader", name := "shift", desc := "()V" } : MethodName)) ∈ TT := TT_in (List.mem_append_right _ (List.mem_of_getElem? (i := 852) (by decide +kernel))) rfl
theorem m_tally : (Cond.privateMethod ({ cls := "LayeredPage$Coder", name := "tally", desc := "(II)V" } : MethodName)) ∈ lw_tbl := List.mem_append_right _ (List.mem_of_getElem? (i := 384) (by decide +kernel))
theorem p_0 : Cond.selects "LayeredPage$Layer" (⟨"LayeredPage$Layer", "indexOf", "(II)I"⟩ : MethodName) ⟨"LayeredPage$Layer", "indexOf", "(II)I"⟩ ∈ TT := TT_in (List.mem_append_left _ (List.mem_of_getElem? (i := 0) (by decide +kernel))) rfl
theorem p_1 : Cond.selects "LayeredPage$DocumentWriter" (⟨"LayeredPage$DocumentWriter", "writeShape", "(LLayeredPage$Page;ILLayeredPage$Octets;)V"⟩ : MethodName) ⟨"LayeredPage$DocumentWriter", "writeShape", "(LLayeredPage$Page;ILLayeredPage$Octets;)V"⟩ ∈ TT := TT_in (List.mem_append_left _ (List.mem_of_getElem? (i := 1) (by decide +kernel))) rfl
theorem p_2 : Cond.selects "LayeredPage$DocumentWriter" (⟨"LayeredPage$DocumentWriter", "writePlacings", "(LLayeredPage$Page;LLayeredPage$Octets;)V"⟩ : MethodName) ⟨"LayeredPage$DocumentWriter", "writePlacings", "(LLayeredPage$Page;LLayeredPage$Octets;)V"⟩ ∈ TT := TT_in (List.mem_append_left _ (List.mem_of_getElem? (i := 2) (by decide +kernel))) rfl
theorem p_3 : Cond.selects "LayeredPage$DocumentWriter" (⟨"LayeredPage$DocumentWriter", "writeLayer", "(ILLayeredPage$Layer;ILLayeredPage$Octets;)V"⟩ : MethodName) ⟨"LayeredPage$DocumentWriter", "writeLayer", "(ILLayeredPage$Layer;ILLayeredPage$Octets;)V"⟩ ∈ TT := TT_in (List.mem_append_left _ (List.mem_of_getElem? (i := 3) (by decide +kernel))) rfl
theorem p_4 : Cond.selects "LayeredPage$Layer" (⟨"LayeredPage$Layer", "liftLine", "(III)V"⟩ : MethodName) ⟨"LayeredPage$Layer", "liftLine", "(III)V"⟩ ∈ TT := TT_in (List.mem_append_left _ (List.mem_of_getElem? (i := 4) (by decide +kernel))) rfl
theorem p_5 : Cond.selects "LayeredPage$Layer" (⟨"LayeredPage$Layer", "codePlaneBit", "(IILLayeredPage$Coder;)V"⟩ : MethodName) ⟨"LayeredPage$Layer", "codePlaneBit", "(IILLayeredPage$Coder;)V"⟩ ∈ TT := TT_in (List.mem_append_left _ (List.mem_of_getElem? (i := 5) (by decide +kernel))) rfl
theorem p_6 : Cond.selects "LayeredPage$Layer" (⟨"LayeredPage$Layer", "begunNeighbours", "(I)I"⟩ : MethodName) ⟨"LayeredPage$Layer", "begunNeighbours", "(I)I"⟩ ∈ TT := TT_in (List.mem_append_left _ (List.mem_of_getElem? (i := 6) (by decide +kernel))) rfl
theorem p_7 : Cond.selects "LayeredPage$DocumentReader" (⟨"LayeredPage$DocumentReader", "readShape", "(LLayeredPage$Octets;IILLayeredPage$Page;)I"⟩ : MethodName) ⟨"LayeredPage$DocumentReader", "readShape", "(LLayeredPage$Octets;IILLayeredPage$Page;)I"⟩ ∈ TT := TT_in (List.mem_append_left _ (List.mem_of_getElem? (i := 7) (by decide +kernel))) rfl
theorem p_8 : Cond.selects "LayeredPage$DocumentReader" (⟨"LayeredPage$DocumentReader", "readPlacings", "(LLayeredPage$Octets;IILLayeredPage$Page;)I"⟩ : MethodName) ⟨"LayeredPage$DocumentReader", "readPlacings", "(LLayeredPage$Octets;IILLayeredPage$Page;)I"⟩ ∈ TT := TT_in (List.mem_append_left _ (List.mem_of_getElem? (i := 8) (by decide +kernel))) rfl
theorem p_9 : Cond.selects "LayeredPage$DocumentReader" (⟨"LayeredPage$DocumentReader", "readLayer", "(LLayeredPage$Octets;IILLayeredPage$Layer;)I"⟩ : MethodName) ⟨"LayeredPage$DocumentReader", "readLayer", "(LLayeredPage$Octets;IILLayeredPage$Layer;)I"⟩ ∈ TT := TT_in (List.mem_append_left _ (List.mem_of_getElem? (i := 9) (by decide +kernel))) rfl
theorem p_10 : Cond.selects "LayeredPage$Layer" (⟨"LayeredPage$Layer", "undoLine", "(III)V"⟩ : MethodName) ⟨"LayeredPage$Layer", "undoLine", "(III)V"⟩ ∈ TT := TT_in (List.mem_append_left _ (List.mem_of_getElem? (i := 10) (by decide +kernel))) rfl
theorem p_11 : Cond.selects "LayeredPage" (⟨"LayeredPage", "pictureLayer", "(I)LLayeredPage$Layer;"⟩ : MethodName) ⟨"LayeredPage", "pictureLayer", "(I)LLayeredPage$Layer;"⟩ ∈ TT := TT_in (List.mem_append_left _ (List.mem_of_getElem? (i := 11) (by decide +kernel))) rfl
theorem p_12 : Cond.selects "LayeredPageModel" (⟨"LayeredPageModel", "put", "(I)V"⟩ : MethodName) ⟨"LayeredPageModel", "put", "(I)V"⟩ ∈ TT := TT_in (List.mem_append_left _ (List.mem_of_getElem? (i := 12) (by decide +kernel))) rfl
theorem p_13 : Cond.selects "LayeredPageModel" (⟨"LayeredPageModel", "putShape", "(I)V"⟩ : MethodName) ⟨"LayeredPageModel", "putShape", "(I)V"⟩ ∈ TT := TT_in (List.mem_append_left _ (List.mem_of_getElem? (i := 13) (by decide +kernel))) rfl
theorem p_14 : Cond.selects "LayeredPageModel" (⟨"LayeredPageModel", "open", "(I)I"⟩ : MethodName) ⟨"LayeredPageModel", "open", "(I)I"⟩ ∈ TT := TT_in (List.mem_append_left _ (List.mem_of_getElem? (i := 14) (by decide +kernel))) rfl
theorem p_15 : Cond.selects "LayeredPageModel" (⟨"LayeredPageModel", "begin", "(Z)V"⟩ : MethodName) ⟨"LayeredPageModel", "begin", "(Z)V"⟩ ∈ TT := TT_in (List.mem_append_left _ (List.mem_of_getElem? (i := 15) (by decide +kernel))) rfl
theorem p_16 : Cond.selects "LayeredPageModel" (⟨"LayeredPageModel", "walk", "(JIIZJ)J"⟩ : MethodName) ⟨"LayeredPageModel", "walk", "(JIIZJ)J"⟩ ∈ TT := TT_in (List.mem_append_left _ (List.mem_of_getElem? (i := 16) (by decide +kernel))) rfl
theorem p_17 : Cond.selects "LayeredPageModel" (⟨"LayeredPageModel", "code", "(II)I"⟩ : MethodName) ⟨"LayeredPageModel", "code", "(II)I"⟩ ∈ TT := TT_in (List.mem_append_left _ (List.mem_of_getElem? (i := 17) (by decide +kernel))) rfl
theorem p_18 : Cond.selects "LayeredPageModel" (⟨"LayeredPageModel", "units", "()I"⟩ : MethodName) ⟨"LayeredPageModel", "units", "()I"⟩ ∈ TT := TT_in (List.mem_append_left _ (List.mem_of_getElem? (i := 18) (by decide +kernel))) rfl
theorem p_19 : Cond.selects "LayeredPageModel" (⟨"LayeredPageModel", "shift", "(II)V"⟩ : MethodName) ⟨"LayeredPageModel", "shift", "(II)V"⟩ ∈ TT := TT_in (List.mem_append_left _ (List.mem_of_getElem? (i := 19) (by decide +kernel))) rfl
theorem p_20 : Cond.selects "LayeredPageModel" (⟨"LayeredPageModel", "putCode", "()V"⟩ : MethodName) ⟨"LayeredPageModel", "putCode", "()V"⟩ ∈ TT := TT_in (List.mem_append_left _ (List.mem_of_getElem? (i := 20) (by decide +kernel))) rfl
theorem p_21 : Cond.selects "LayeredPageModel" (⟨"LayeredPageModel", "close", "(I)V"⟩ : MethodName) ⟨"LayeredPageModel", "close", "(I)V"⟩ ∈ TT := TT_in (List.mem_append_left _ (List.mem_of_getElem? (i := 21) (by decide +kernel))) rfl
theorem p_22 : Cond.selects "LayeredPageModel" (⟨"LayeredPageModel", "putLayer", "(II)V"⟩ : MethodName) ⟨"LayeredPageModel", "putLayer", "(II)V"⟩ ∈ TT := TT_in (List.mem_append_left _ (List.mem_of_getElem? (i := 22) (by decide +kernel))) rfl
theorem p_23 : Cond.selects "LayeredPageModel" (⟨"LayeredPageModel", "all", "(IZZ)V"⟩ : MethodName) ⟨"LayeredPageModel", "all", "(IZZ)V"⟩ ∈ TT := TT_in (List.mem_append_left _ (List.mem_of_getElem? (i := 23) (by decide +kernel))) rfl
theorem p_24 : Cond.selects "LayeredPageModel" (⟨"LayeredPageModel", "lift", "(I)V"⟩ : MethodName) ⟨"LayeredPageModel", "lift", "(I)V"⟩ ∈ TT := TT_in (List.mem_append_left _ (List.mem_of_getElem? (i := 24) (by decide +kernel))) rfl
theorem p_25 : Cond.selects "LayeredPageModel" (⟨"LayeredPageModel", "drop", "(I)V"⟩ : MethodName) ⟨"LayeredPageModel", "drop", "(I)V"⟩ ∈ TT := TT_in (List.mem_append_left _ (List.mem_of_getElem? (i := 25) (by decide +kernel))) rfl
theorem p_26 : Cond.selects "LayeredPageModel" (⟨"LayeredPageModel", "planes", "(II)V"⟩ : MethodName) ⟨"LayeredPageModel", "planes", "(II)V"⟩ ∈ TT := TT_in (List.mem_append_left _ (List.mem_of_getElem? (i := 26) (by decide +kernel))) rfl
theorem p_27 : Cond.selects "LayeredPageModel" (⟨"LayeredPageModel", "fault", "()I"⟩ : MethodName) ⟨"LayeredPageModel", "fault", "()I"⟩ ∈ TT := TT_in (List.mem_append_left _ (List.mem_of_getElem? (i := 27) (by decide +kernel))) rfl
theorem p_28 : Cond.selects "LayeredPageModel" (⟨"LayeredPageModel", "chunkFault", "(I)I"⟩ : MethodName) ⟨"LayeredPageModel", "chunkFault", "(I)I"⟩ ∈ TT := TT_in (List.mem_append_left _ (List.mem_of_getElem? (i := 28) (by decide +kernel))) rfl
theorem p_29 : Cond.selects "LayeredPageModel" (⟨"LayeredPageModel", "chunkLength", "(I)I"⟩ : MethodName) ⟨"LayeredPageModel", "chunkLength", "(I)I"⟩ ∈ TT := TT_in (List.mem_append_left _ (List.mem_of_getElem? (i := 29) (by decide +kernel))) rfl
theorem p_30 : Cond.selects "LayeredPageModel" (⟨"LayeredPageModel", "before", "(II)I"⟩ : MethodName) ⟨"LayeredPageModel", "before", "(II)I"⟩ ∈ TT := TT_in (List.mem_append_left _ (List.mem_of_getElem? (i := 30) (by decide +kernel))) rfl
theorem p_31 : Cond.selects "LayeredPageModel" (⟨"LayeredPageModel", "placingsBefore", "(I)I"⟩ : MethodName) ⟨"LayeredPageModel", "placingsBefore", "(I)I"⟩ ∈ TT := TT_in (List.mem_append_left _ (List.mem_of_getElem? (i := 31) (by decide +kernel))) rfl
theorem p_32 : Cond.selects "LayeredPageModel" (⟨"LayeredPageModel", "takeShape", "(I)V"⟩ : MethodName) ⟨"LayeredPageModel", "takeShape", "(I)V"⟩ ∈ TT := TT_in (List.mem_append_left _ (List.mem_of_getElem? (i := 32) (by decide +kernel))) rfl
theorem p_33 : Cond.selects "LayeredPageModel" (⟨"LayeredPageModel", "load", "(II)V"⟩ : MethodName) ⟨"LayeredPageModel", "load", "(II)V"⟩ ∈ TT := TT_in (List.mem_append_left _ (List.mem_of_getElem? (i := 33) (by decide +kernel))) rfl
theorem p_34 : Cond.selects "LayeredPageModel" (⟨"LayeredPageModel", "takePlacings", "(I)V"⟩ : MethodName) ⟨"LayeredPageModel", "takePlacings", "(I)V"⟩ ∈ TT := TT_in (List.mem_append_left _ (List.mem_of_getElem? (i := 34) (by decide +kernel))) rfl
theorem p_35 : Cond.selects "LayeredPageModel" (⟨"LayeredPageModel", "takeLayer", "(II)V"⟩ : MethodName) ⟨"LayeredPageModel", "takeLayer", "(II)V"⟩ ∈ TT := TT_in (List.mem_append_left _ (List.mem_of_getElem? (i := 35) (by decide +kernel))) rfl
theorem p_36 : Cond.selects "LayeredPageModel" (⟨"LayeredPageModel", "noCell", "(III)Z"⟩ : MethodName) ⟨"LayeredPageModel", "noCell", "(III)Z"⟩ ∈ TT := TT_in (List.mem_append_left _ (List.mem_of_getElem? (i := 36) (by decide +kernel))) rfl
theorem inCr : ∀ w ∈ u_ws RCr TCr 8, w ∈ TT := by
  intro w hw
  obtain ⟨k, hk, rfl⟩ := List.mem_map.mp hw
  have hk := List.mem_range.mp hk
  match k, hk with
  | 0, _ => exact t_107
  | 1, _ => exact t_109
  | 2, _ => exact t_111
  | 3, _ => exact t_113
  | 4, _ => exact t_115
  | 5, _ => exact t_117
  | 6, _ => exact t_118
  | 7, _ => exact t_119
  | k + 8, h => omega
theorem inCw : ∀ w ∈ u_ws RCw TCw 6, w ∈ TT := by
  intro w hw
  obtain ⟨k, hk, rfl⟩ := List.mem_map.mp hw
  have hk := List.mem_range.mp hk
  match k, hk with
  | 0, _ => exact t_73
  | 1, _ => exact t_75
  | 2, _ => exact t_77
  | 3, _ => exact t_79
  | 4, _ => exact t_81
  | 5, _ => exact t_83
  | k + 6, h => omega
theorem inDr : ∀ w ∈ u_ws RDr TDr 1, w ∈ TT := by
  intro w hw
  obtain ⟨k, hk, rfl⟩ := List.mem_map.mp hw
  have hk := List.mem_range.mp hk
  match k, hk with
  | 0, _ => exact t_122
  | k + 1, h => omega
theorem inDw : ∀ w ∈ u_ws RDw TDw 1, w ∈ TT := by
  intro w hw
  obtain ⟨k, hk, rfl⟩ := List.mem_map.mp hw
  have hk := List.mem_range.mp hk
  match k, hk with
  | 0, _ => exact t_87
  | k + 1, h => omega
theorem inLy : ∀ w ∈ u_ws RLy TLy 6, w ∈ TT := by
  intro w hw
  obtain ⟨k, hk, rfl⟩ := List.mem_map.mp hw
  have hk := List.mem_range.mp hk
  match k, hk with
  | 0, _ => exact t_147
  | 1, _ => exact t_149
  | 2, _ => exact t_151
  | 3, _ => exact t_153
  | 4, _ => exact t_155
  | 5, _ => exact t_157
  | k + 6, h => omega
theorem inOct : ∀ w ∈ u_ws ROct TOct 2, w ∈ TT := by
  intro w hw
  obtain ⟨k, hk, rfl⟩ := List.mem_map.mp hw
  have hk := List.mem_range.mp hk
  match k, hk with
  | 0, _ => exact t_36
  | 1, _ => exact t_38
  | k + 2, h => omega
theorem inPg : ∀ w ∈ u_ws RPg TPg 7, w ∈ TT := by
  intro w hw
  obtain ⟨k, hk, rfl⟩ := List.mem_map.mp hw
  have hk := List.mem_range.mp hk
  match k, hk with
  | 0, _ => exact t_209
  | 1, _ => exact t_211
  | 2, _ => exact t_213
  | 3, _ => exact t_215
  | 4, _ => exact t_217
  | 5, _ => exact t_219
  | 6, _ => exact t_221
  | k + 7, h => omega
theorem inSh : ∀ w ∈ u_ws RSh TSh 4, w ∈ TT := by
  intro w hw
  obtain ⟨k, hk, rfl⟩ := List.mem_map.mp hw
  have hk := List.mem_range.mp hk
  match k, hk with
  | 0, _ => exact t_177
  | 1, _ => exact t_179
  | 2, _ => exact t_181
  | 3, _ => exact t_183
  | k + 4, h => omega
theorem inLP : ∀ w ∈ u_ws RLP TLP 7, w ∈ TT := by
  intro w hw
  obtain ⟨k, hk, rfl⟩ := List.mem_map.mp hw
  have hk := List.mem_range.mp hk
  match k, hk with
  | 0, _ => exact t_231
  | 1, _ => exact t_233
  | 2, _ => exact t_235
  | 3, _ => exact t_237
  | 4, _ => exact t_239
  | 5, _ => exact t_241
  | 6, _ => exact t_243
  | k + 7, h => omega
theorem inMd : ∀ w ∈ u_ws RMd TMd 30, w ∈ TT := by
  intro w hw
  obtain ⟨k, hk, rfl⟩ := List.mem_map.mp hw
  have hk := List.mem_range.mp hk
  match k, hk with
  | 0, _ => exact t_602
  | 1, _ => exact t_604
  | 2, _ => exact t_606
  | 3, _ => exact t_608
  | 4, _ => exact t_610
  | 5, _ => exact t_612
  | 6, _ => exact t_614
  | 7, _ => exact t_616
  | 8, _ => exact t_618
  | 9, _ => exact t_620
  | 10, _ => exact t_622
  | 11, _ => exact t_624
  | 12, _ => exact t_626
  | 13, _ => exact t_628
  | 14, _ => exact t_630
  | 15, _ => exact t_632
  | 16, _ => exact t_634
  | 17, _ => exact t_636
  | 18, _ => exact t_638
  | 19, _ => exact t_640
  | 20, _ => exact t_642
  | 21, _ => exact t_644
  | 22, _ => exact t_646
  | 23, _ => exact t_648
  | 24, _ => exact t_650
  | 25, _ => exact t_652
  | 26, _ => exact t_654
  | 27, _ => exact t_656
  | 28, _ => exact t_658
  | 29, _ => exact t_660
  | k + 30, h => omega
theorem si_LP_init : Si y_LP_init b_LP_init 1 0 := ⟨t_19, t_18, t_1, by decide, by decide, by decide +kernel, rfl⟩
theorem si_Oct_init : Si y_Oct_init b_Oct_init 1 0 := ⟨t_27, t_26, t_2, by decide, by decide, by decide +kernel, rfl⟩
theorem si_Dw_init : Si y_Dw_init b_Dw_init 1 0 := ⟨t_46, t_45, t_3, by decide, by decide, by decide +kernel, rfl⟩
theorem si_Cw_init : Si y_Cw_init b_Cw_init 1 0 := ⟨t_52, t_51, t_5, by decide, by decide, by decide +kernel, rfl⟩
theorem si_Cd_init : Si y_Cd_init b_Cd_init 1 0 := ⟨t_55, t_54, t_4, by decide, by decide, by decide +kernel, rfl⟩
theorem ss_Ar_fill : Ss y_Ar_fill b_Ar_fill 4 none 2 := ⟨t_66, t_65, t_6, by decide, by decide, by decide +kernel⟩
theorem si_Dr_init : Si y_Dr_init b_Dr_init 1 0 := ⟨t_94, t_93, t_7, by decide, by decide, by decide +kernel, rfl⟩
theorem si_Cr_init : Si y_Cr_init b_Cr_init 1 0 := ⟨t_100, t_99, t_8, by decide, by decide, by decide +kernel, rfl⟩
theorem si_Pg_init : Si y_Pg_init b_Pg_init 2 0 := ⟨t_129, t_128, t_9, by decide, by decide, by decide +kernel, rfl⟩
theorem si_Ly_init : Si y_Ly_init b_Ly_init 2 1 := ⟨t_137, t_136, t_10, by decide, by decide, by decide +kernel, rfl⟩
theorem si_Sh_init : Si y_Sh_init b_Sh_init 1 0 := ⟨t_163, t_162, t_11, by decide, by decide, by decide +kernel, rfl⟩
theorem sv_LP_shape : Sv y_LP_shape b_LP_shape 7 (some .int) 4 := ⟨t_249, t_247, t_248, t_1, by decide, by decide, by decide +kernel⟩
theorem sv_Pg_hasShape : Sv y_Pg_hasShape b_Pg_hasShape 2 (some .boolean) 1 := ⟨t_253, t_251, t_252, t_9, by decide, by decide, by decide +kernel⟩
theorem ss_LP_isShapeSide : Ss y_LP_isShapeSide b_LP_isShapeSide 1 (some .boolean) 1 := ⟨t_256, t_255, t_1, by decide, by decide, by decide +kernel⟩
theorem ss_LP_shapeMask : Ss y_LP_shapeMask b_LP_shapeMask 7 (some .long) 2 := ⟨t_259, t_258, t_1, by decide, by decide, by decide +kernel⟩
theorem sv_Pg_addShape : Sv y_Pg_addShape b_Pg_addShape 7 (some .int) 4 := ⟨t_264, t_262, t_263, t_9, by decide, by decide, by decide +kernel⟩
theorem sv_LP_place : Sv y_LP_place b_LP_place 4 (some .int) 3 := ⟨t_268, t_266, t_267, t_1, by decide, by decide, by decide +kernel⟩
theorem ss_LP_isOnPage : Ss y_LP_isOnPage b_LP_isOnPage 2 (some .boolean) 2 := ⟨t_271, t_270, t_1, by decide, by decide, by decide +kernel⟩
theorem sv_Pg_addPlacing : Sv y_Pg_addPlacing b_Pg_addPlacing 3 (some .int) 2 := ⟨t_275, t_273, t_274, t_9, by decide, by decide, by decide +kernel⟩
theorem sv_LP_paint : Sv y_LP_paint b_LP_paint 7 (some .boolean) 3 := ⟨t_279, t_277, t_278, t_1, by decide, by decide, by decide +kernel⟩
theorem sv_Pg_layerOf : Sv y_Pg_layerOf b_Pg_layerOf 2 (some (.object "LayeredPage$Layer")) 1 := ⟨t_283, t_281, t_282, t_9, by decide, by decide, by decide +kernel⟩
theorem sv_Ly_hasCell : Sv y_Ly_hasCell b_Ly_hasCell 3 (some .boolean) 2 := ⟨t_287, t_285, t_286, t_10, by decide, by decide, by decide +kernel⟩
theorem sv_Ly_setRow : Sv y_Ly_setRow b_Ly_setRow 5 none 2 := ⟨t_292, t_290, t_291, t_10, by decide, by decide, by decide +kernel⟩
theorem sv_Ly_indexOf : Sv y_Ly_indexOf b_Ly_indexOf 3 (some .int) 2 := ⟨t_296, t_295, p_0, t_10, by decide, by decide, by decide +kernel⟩
theorem sv_LP_clear : Sv y_LP_clear b_LP_clear 1 none 0 := ⟨t_300, t_298, t_299, t_1, by decide, by decide, by decide +kernel⟩
theorem sv_Pg_makeEmpty : Sv y_Pg_makeEmpty b_Pg_makeEmpty 1 none 0 := ⟨t_304, t_302, t_303, t_9, by decide, by decide, by decide +kernel⟩
theorem sv_Ly_makeEmpty : Sv y_Ly_makeEmpty b_Ly_makeEmpty 1 none 0 := ⟨t_308, t_306, t_307, t_10, by decide, by decide, by decide +kernel⟩
theorem sv_LP_encode : Sv y_LP_encode b_LP_encode 2 (some .int) 1 := ⟨t_313, t_311, t_312, t_1, by decide, by decide, by decide +kernel⟩
theorem sv_Dw_write : Sv y_Dw_write b_Dw_write 5 none 3 := ⟨t_317, t_315, t_316, t_3, by decide, by decide, by decide +kernel⟩
theorem sv_Oct_keep : Sv y_Oct_keep b_Oct_keep 3 none 1 := ⟨t_321, t_319, t_320, t_2, by decide, by decide, by decide +kernel⟩
theorem sv_Oct_append : Sv y_Oct_append b_Oct_append 2 none 1 := ⟨t_325, t_323, t_324, t_2, by decide, by decide, by decide +kernel⟩
theorem sv_Oct_set : Sv y_Oct_set b_Oct_set 3 none 2 := ⟨t_329, t_327, t_328, t_2, by decide, by decide, by decide +kernel⟩
theorem sv_Dw_writeShape : Sv y_Dw_writeShape b_Dw_writeShape 6 none 3 := ⟨t_336, t_335, p_1, t_3, by decide, by decide, by decide +kernel⟩
theorem sv_Oct_openChunk : Sv y_Oct_openChunk b_Oct_openChunk 2 (some .int) 1 := ⟨t_340, t_338, t_339, t_2, by decide, by decide, by decide +kernel⟩
theorem sv_Cw_begin : Sv y_Cw_begin b_Cw_begin 3 none 2 := ⟨t_345, t_343, t_344, t_5, by decide, by decide, by decide +kernel⟩
theorem sv_Pg_codeShape : Sv y_Pg_codeShape b_Pg_codeShape 8 none 2 := ⟨t_353, t_351, t_352, t_9, by decide, by decide, by decide +kernel⟩
theorem sv_Sh_contextAlone : Sv y_Sh_contextAlone b_Sh_contextAlone 3 (some .int) 2 := ⟨t_358, t_356, t_357, t_11, by decide, by decide, by decide +kernel⟩
theorem sv_Sh_bitAt : Sv y_Sh_bitAt b_Sh_bitAt 3 (some .int) 2 := ⟨t_362, t_360, t_361, t_11, by decide, by decide, by decide +kernel⟩
theorem sv_Sh_contextWith : Sv y_Sh_contextWith b_Sh_contextWith 4 (some .int) 3 := ⟨t_366, t_364, t_365, t_11, by decide, by decide, by decide +kernel⟩
theorem sv_Cr_shift : Sv y_Cr_shift b_Cr_shift 1 none 0 := ⟨t_393, t_392, t_852, t_8, by decide, by decide, by decide +kernel⟩
theorem sv_Cw_size : Sv y_Cw_size b_Cw_size 1 (some .int) 0 := ⟨t_400, t_398, t_399, t_5, by decide, by decide, by decide +kernel⟩
theorem sv_Oct_take : Sv y_Oct_take b_Oct_take 2 none 1 := ⟨t_404, t_402, t_403, t_2, by decide, by decide, by decide +kernel⟩
theorem sv_Oct_closeChunk : Sv y_Oct_closeChunk b_Oct_closeChunk 3 none 1 := ⟨t_411, t_409, t_410, t_2, by decide, by decide, by decide +kernel⟩
theorem sv_Dw_writePlacings : Sv y_Dw_writePlacings b_Dw_writePlacings 5 none 2 := ⟨t_415, t_414, p_2, t_3, by decide, by decide, by decide +kernel⟩
theorem sv_Dw_writeLayer : Sv y_Dw_writeLayer b_Dw_writeLayer 6 none 4 := ⟨t_419, t_418, p_3, t_3, by decide, by decide, by decide +kernel⟩
theorem sv_Ly_liftCells : Sv y_Ly_liftCells b_Ly_liftCells 3 none 0 := ⟨t_423, t_421, t_422, t_10, by decide, by decide, by decide +kernel⟩
theorem sv_Ly_liftLine : Sv y_Ly_liftLine b_Ly_liftLine 9 none 3 := ⟨t_430, t_429, p_4, t_10, by decide, by decide, by decide +kernel⟩
theorem sv_Ly_codeCoefficients : Sv y_Ly_codeCoefficients b_Ly_codeCoefficients 5 none 2 := ⟨t_434, t_432, t_433, t_10, by decide, by decide, by decide +kernel⟩
theorem sv_Ly_codePlaneBit : Sv y_Ly_codePlaneBit b_Ly_codePlaneBit 7 none 3 := ⟨t_438, t_437, p_5, t_10, by decide, by decide, by decide +kernel⟩
theorem sv_Ly_begunNeighbours : Sv y_Ly_begunNeighbours b_Ly_begunNeighbours 4 (some .int) 1 := ⟨t_446, t_445, p_6, t_10, by decide, by decide, by decide +kernel⟩
theorem sv_LP_length : Sv y_LP_length b_LP_length 1 (some .int) 0 := ⟨t_450, t_448, t_449, t_1, by decide, by decide, by decide +kernel⟩
theorem sv_LP_octet : Sv y_LP_octet b_LP_octet 2 (some .int) 1 := ⟨t_454, t_452, t_453, t_1, by decide, by decide, by decide +kernel⟩
theorem sv_Oct_at : Sv y_Oct_at b_Oct_at 2 (some .int) 1 := ⟨t_458, t_456, t_457, t_2, by decide, by decide, by decide +kernel⟩
theorem sv_LP_alter : Sv y_LP_alter b_LP_alter 3 (some .boolean) 2 := ⟨t_462, t_460, t_461, t_1, by decide, by decide, by decide +kernel⟩
theorem sv_LP_cut : Sv y_LP_cut b_LP_cut 2 (some .boolean) 1 := ⟨t_467, t_465, t_466, t_1, by decide, by decide, by decide +kernel⟩
theorem sv_LP_decode : Sv y_LP_decode b_LP_decode 3 (some .int) 0 := ⟨t_472, t_470, t_471, t_1, by decide, by decide, by decide +kernel⟩
theorem sv_Dr_read : Sv y_Dr_read b_Dr_read 9 (some .int) 2 := ⟨t_476, t_474, t_475, t_7, by decide, by decide, by decide +kernel⟩
theorem sv_Oct_chunkSize : Sv y_Oct_chunkSize b_Oct_chunkSize 3 (some .int) 1 := ⟨t_482, t_480, t_481, t_2, by decide, by decide, by decide +kernel⟩
theorem sv_Dr_readShape : Sv y_Dr_readShape b_Dr_readShape 9 (some .int) 4 := ⟨t_487, t_486, p_7, t_7, by decide, by decide, by decide +kernel⟩
theorem sv_Cr_begin : Sv y_Cr_begin b_Cr_begin 5 none 3 := ⟨t_493, t_491, t_492, t_8, by decide, by decide, by decide +kernel⟩
theorem sv_Dr_readPlacings : Sv y_Dr_readPlacings b_Dr_readPlacings 6 (some .int) 4 := ⟨t_503, t_502, p_8, t_7, by decide, by decide, by decide +kernel⟩
theorem sv_Dr_readLayer : Sv y_Dr_readLayer b_Dr_readLayer 5 (some .int) 4 := ⟨t_509, t_508, p_9, t_7, by decide, by decide, by decide +kernel⟩
theorem sv_Ly_undoCoefficients : Sv y_Ly_undoCoefficients b_Ly_undoCoefficients 3 none 0 := ⟨t_514, t_512, t_513, t_10, by decide, by decide, by decide +kernel⟩
theorem sv_Ly_undoLine : Sv y_Ly_undoLine b_Ly_undoLine 8 none 3 := ⟨t_518, t_517, p_10, t_10, by decide, by decide, by decide +kernel⟩
theorem sv_LP_pixel : Sv y_LP_pixel b_LP_pixel 3 (some .int) 2 := ⟨t_524, t_522, t_523, t_1, by decide, by decide, by decide +kernel⟩
theorem sv_Pg_isInked : Sv y_Pg_isInked b_Pg_isInked 6 (some .boolean) 2 := ⟨t_528, t_526, t_527, t_9, by decide, by decide, by decide +kernel⟩
theorem sv_Ly_cellAt : Sv y_Ly_cellAt b_Ly_cellAt 3 (some .int) 2 := ⟨t_532, t_530, t_531, t_10, by decide, by decide, by decide +kernel⟩
theorem sv_LP_inked : Sv y_LP_inked b_LP_inked 3 (some .boolean) 2 := ⟨t_537, t_535, t_536, t_1, by decide, by decide, by decide +kernel⟩
theorem sv_LP_cell : Sv y_LP_cell b_LP_cell 5 (some .int) 3 := ⟨t_541, t_539, t_540, t_1, by decide, by decide, by decide +kernel⟩
theorem sv_LP_pictureLayer : Sv y_LP_pictureLayer b_LP_pictureLayer 2 (some (.object "LayeredPage$Layer")) 1 := ⟨t_545, t_544, p_11, t_1, by decide, by decide, by decide +kernel⟩
theorem sv_LP_coefficient : Sv y_LP_coefficient b_LP_coefficient 5 (some .int) 3 := ⟨t_549, t_547, t_548, t_1, by decide, by decide, by decide +kernel⟩
theorem sv_Ly_coefficientAt : Sv y_Ly_coefficientAt b_Ly_coefficientAt 3 (some .int) 2 := ⟨t_553, t_551, t_552, t_10, by decide, by decide, by decide +kernel⟩
theorem sv_LP_shapes : Sv y_LP_shapes b_LP_shapes 1 (some .int) 0 := ⟨t_557, t_555, t_556, t_1, by decide, by decide, by decide +kernel⟩
theorem sv_LP_glyph : Sv y_LP_glyph b_LP_glyph 2 (some .long) 1 := ⟨t_561, t_559, t_560, t_1, by decide, by decide, by decide +kernel⟩
theorem sv_LP_placings : Sv y_LP_placings b_LP_placings 1 (some .int) 0 := ⟨t_565, t_563, t_564, t_1, by decide, by decide, by decide +kernel⟩
theorem si_Md_init : Si y_Md_init b_Md_init 1 0 := ⟨t_570, t_569, t_12, by decide, by decide, by decide +kernel, rfl⟩
theorem sv_Md_shape : Sv y_Md_shape b_Md_shape 8 (some .int) 4 := ⟨t_668, t_666, t_667, t_12, by decide, by decide, by decide +kernel⟩
theorem ss_Md_outside : Ss y_Md_outside b_Md_outside 2 (some .boolean) 2 := ⟨t_671, t_670, t_12, by decide, by decide, by decide +kernel⟩
theorem ss_Md_at : Ss y_Md_at b_Md_at 4 (some .int) 3 := ⟨t_674, t_673, t_12, by decide, by decide, by decide +kernel⟩
theorem sv_Md_place : Sv y_Md_place b_Md_place 4 (some .int) 3 := ⟨t_678, t_676, t_677, t_12, by decide, by decide, by decide +kernel⟩
theorem sv_Md_paint : Sv y_Md_paint b_Md_paint 7 (some .boolean) 3 := ⟨t_682, t_680, t_681, t_12, by decide, by decide, by decide +kernel⟩
theorem ss_Md_side : Ss y_Md_side b_Md_side 1 (some .int) 1 := ⟨t_685, t_684, t_12, by decide, by decide, by decide +kernel⟩
theorem sv_Md_clear : Sv y_Md_clear b_Md_clear 2 none 0 := ⟨t_690, t_688, t_689, t_12, by decide, by decide, by decide +kernel⟩
theorem sv_Md_encode : Sv y_Md_encode b_Md_encode 4 (some .int) 1 := ⟨t_694, t_692, t_693, t_12, by decide, by decide, by decide +kernel⟩
theorem sv_Md_put : Sv y_Md_put b_Md_put 2 none 1 := ⟨t_698, t_697, p_12, t_12, by decide, by decide, by decide +kernel⟩
theorem sv_Md_putShape : Sv y_Md_putShape b_Md_putShape 5 none 1 := ⟨t_702, t_701, p_13, t_12, by decide, by decide, by decide +kernel⟩
theorem sv_Md_open : Sv y_Md_open b_Md_open 2 (some .int) 1 := ⟨t_706, t_705, p_14, t_12, by decide, by decide, by decide +kernel⟩
theorem sv_Md_begin : Sv y_Md_begin b_Md_begin 3 none 1 := ⟨t_710, t_709, p_15, t_12, by decide, by decide, by decide +kernel⟩
theorem sv_Md_walk : Sv y_Md_walk b_Md_walk 14 (some .long) 5 := ⟨t_715, t_714, p_16, t_12, by decide, by decide, by decide +kernel⟩
theorem sv_Md_code : Sv y_Md_code b_Md_code 6 (some .int) 2 := ⟨t_719, t_718, p_17, t_12, by decide, by decide, by decide +kernel⟩
theorem sv_Md_units : Sv y_Md_units b_Md_units 3 (some .int) 0 := ⟨t_723, t_722, p_18, t_12, by decide, by decide, by decide +kernel⟩
theorem sv_Md_shift : Sv y_Md_shift b_Md_shift 7 none 2 := ⟨t_727, t_726, p_19, t_12, by decide, by decide, by decide +kernel⟩
theorem sv_Md_putCode : Sv y_Md_putCode b_Md_putCode 5 none 0 := ⟨t_732, t_731, p_20, t_12, by decide, by decide, by decide +kernel⟩
theorem sv_Md_close : Sv y_Md_close b_Md_close 2 none 1 := ⟨t_736, t_735, p_21, t_12, by decide, by decide, by decide +kernel⟩
theorem sv_Md_putLayer : Sv y_Md_putLayer b_Md_putLayer 5 none 2 := ⟨t_740, t_739, p_22, t_12, by decide, by decide, by decide +kernel⟩
theorem sv_Md_all : Sv y_Md_all b_Md_all 6 none 3 := ⟨t_744, t_743, p_23, t_12, by decide, by decide, by decide +kernel⟩
theorem sv_Md_lift : Sv y_Md_lift b_Md_lift 5 none 1 := ⟨t_748, t_747, p_24, t_12, by decide, by decide, by decide +kernel⟩
theorem ss_Md_half : Ss y_Md_half b_Md_half 1 (some .int) 1 := ⟨t_751, t_750, t_12, by decide, by decide, by decide +kernel⟩
theorem sv_Md_drop : Sv y_Md_drop b_Md_drop 5 none 1 := ⟨t_755, t_754, p_25, t_12, by decide, by decide, by decide +kernel⟩
theorem sv_Md_planes : Sv y_Md_planes b_Md_planes 13 none 2 := ⟨t_759, t_758, p_26, t_12, by decide, by decide, by decide +kernel⟩
theorem sv_Md_length : Sv y_Md_length b_Md_length 1 (some .int) 0 := ⟨t_763, t_761, t_762, t_12, by decide, by decide, by decide +kernel⟩
theorem sv_Md_octet : Sv y_Md_octet b_Md_octet 2 (some .int) 1 := ⟨t_767, t_765, t_766, t_12, by decide, by decide, by decide +kernel⟩
theorem sv_Md_alter : Sv y_Md_alter b_Md_alter 3 (some .boolean) 2 := ⟨t_771, t_769, t_770, t_12, by decide, by decide, by decide +kernel⟩
theorem sv_Md_cut : Sv y_Md_cut b_Md_cut 2 (some .boolean) 1 := ⟨t_775, t_773, t_774, t_12, by decide, by decide, by decide +kernel⟩
theorem sv_Md_decode : Sv y_Md_decode b_Md_decode 3 (some .int) 0 := ⟨t_779, t_777, t_778, t_12, by decide, by decide, by decide +kernel⟩
theorem sv_Md_fault : Sv y_Md_fault b_Md_fault 3 (some .int) 0 := ⟨t_783, t_782, p_27, t_12, by decide, by decide, by decide +kernel⟩
theorem sv_Md_chunkFault : Sv y_Md_chunkFault b_Md_chunkFault 6 (some .int) 1 := ⟨t_787, t_786, p_28, t_12, by decide, by decide, by decide +kernel⟩
theorem sv_Md_chunkLength : Sv y_Md_chunkLength b_Md_chunkLength 2 (some .int) 1 := ⟨t_791, t_790, p_29, t_12, by decide, by decide, by decide +kernel⟩
theorem sv_Md_before : Sv y_Md_before b_Md_before 5 (some .int) 2 := ⟨t_795, t_794, p_30, t_12, by decide, by decide, by decide +kernel⟩
theorem sv_Md_placingsBefore : Sv y_Md_placingsBefore b_Md_placingsBefore 4 (some .int) 1 := ⟨t_799, t_798, p_31, t_12, by decide, by decide, by decide +kernel⟩
theorem sv_Md_takeShape : Sv y_Md_takeShape b_Md_takeShape 5 none 1 := ⟨t_803, t_802, p_32, t_12, by decide, by decide, by decide +kernel⟩
theorem sv_Md_load : Sv y_Md_load b_Md_load 4 none 2 := ⟨t_807, t_806, p_33, t_12, by decide, by decide, by decide +kernel⟩
theorem sv_Md_takePlacings : Sv y_Md_takePlacings b_Md_takePlacings 3 none 1 := ⟨t_811, t_810, p_34, t_12, by decide, by decide, by decide +kernel⟩
theorem sv_Md_takeLayer : Sv y_Md_takeLayer b_Md_takeLayer 7 none 2 := ⟨t_815, t_814, p_35, t_12, by decide, by decide, by decide +kernel⟩
theorem sv_Md_inked : Sv y_Md_inked b_Md_inked 7 (some .boolean) 2 := ⟨t_819, t_817, t_818, t_12, by decide, by decide, by decide +kernel⟩
theorem sv_Md_cell : Sv y_Md_cell b_Md_cell 5 (some .int) 3 := ⟨t_823, t_821, t_822, t_12, by decide, by decide, by decide +kernel⟩
theorem sv_Md_noCell : Sv y_Md_noCell b_Md_noCell 4 (some .boolean) 3 := ⟨t_827, t_826, p_36, t_12, by decide, by decide, by decide +kernel⟩
theorem sv_Md_pixel : Sv y_Md_pixel b_Md_pixel 3 (some .int) 2 := ⟨t_831, t_829, t_830, t_12, by decide, by decide, by decide +kernel⟩
theorem sv_Md_coefficient : Sv y_Md_coefficient b_Md_coefficient 4 (some .int) 3 := ⟨t_837, t_835, t_836, t_12, by decide, by decide, by decide +kernel⟩
theorem sv_Md_shapes : Sv y_Md_shapes b_Md_shapes 1 (some .int) 0 := ⟨t_841, t_839, t_840, t_12, by decide, by decide, by decide +kernel⟩
theorem sv_Md_glyph : Sv y_Md_glyph b_Md_glyph 2 (some .long) 1 := ⟨t_845, t_843, t_844, t_12, by decide, by decide, by decide +kernel⟩
theorem sv_Md_placings : Sv y_Md_placings b_Md_placings 1 (some .int) 0 := ⟨t_849, t_847, t_848, t_12, by decide, by decide, by decide +kernel⟩
theorem su_Cr_Cd_restart : Su (⟨"LayeredPage$Coder", "restart", "()V"⟩ : MethodName) y_Cd_restart "LayeredPage$CodeReader" "LayeredPage$Coder" b_Cd_restart 1 none 0 := ⟨t_63, t_60, fun _ _ h => h _ t_61, t_59, t_4, by decide, by decide, by decide +kernel⟩
theorem su_Cw_Cd_restart : Su (⟨"LayeredPage$Coder", "restart", "()V"⟩ : MethodName) y_Cd_restart "LayeredPage$CodeWriter" "LayeredPage$Coder" b_Cd_restart 1 none 0 := ⟨t_63, t_60, fun _ _ h => h _ t_62, t_59, t_4, by decide, by decide, by decide +kernel⟩
theorem su_Cr_Cd_code : Su (⟨"LayeredPage$Coder", "code", "(II)I"⟩ : MethodName) y_Cd_code "LayeredPage$CodeReader" "LayeredPage$Coder" b_Cd_code 6 (some .int) 2 := ⟨t_373, t_370, fun _ _ h => h _ t_371, t_369, t_4, by decide, by decide, by decide +kernel⟩
theorem su_Cw_Cd_code : Su (⟨"LayeredPage$Coder", "code", "(II)I"⟩ : MethodName) y_Cd_code "LayeredPage$CodeWriter" "LayeredPage$Coder" b_Cd_code 6 (some .int) 2 := ⟨t_373, t_370, fun _ _ h => h _ t_372, t_369, t_4, by decide, by decide, by decide +kernel⟩
theorem su_Cr_Cd_choose : Su (⟨"LayeredPage$Coder", "choose", "(II)I"⟩ : MethodName) y_Cr_choose "LayeredPage$CodeReader" "LayeredPage$Coder" b_Cr_choose 3 (some .int) 2 := ⟨t_379, t_376, fun _ _ h => h _ t_377, t_378, t_8, by decide, by decide, by decide +kernel⟩
theorem su_Cw_Cd_choose : Su (⟨"LayeredPage$Coder", "choose", "(II)I"⟩ : MethodName) y_Cw_choose "LayeredPage$CodeWriter" "LayeredPage$Coder" b_Cw_choose 6 (some .int) 2 := ⟨t_382, t_376, fun _ _ h => h _ t_380, t_381, t_5, by decide, by decide, by decide +kernel⟩
theorem su_Cr_Cd_shift : Su (⟨"LayeredPage$Coder", "shift", "()V"⟩ : MethodName) y_Cr_shift "LayeredPage$CodeReader" "LayeredPage$Coder" b_Cr_shift 1 none 0 := ⟨t_393, t_390, fun _ _ h => h _ t_391, t_392, t_8, by decide, by decide, by decide +kernel⟩
theorem su_Cw_Cd_shift : Su (⟨"LayeredPage$Coder", "shift", "()V"⟩ : MethodName) y_Cw_shift "LayeredPage$CodeWriter" "LayeredPage$Coder" b_Cw_shift 1 none 0 := ⟨t_396, t_390, fun _ _ h => h _ t_394, t_395, t_5, by decide, by decide, by decide +kernel⟩
theorem su_Cw_Cw_restart : Su (⟨"LayeredPage$CodeWriter", "restart", "()V"⟩ : MethodName) y_Cd_restart "LayeredPage$CodeWriter" "LayeredPage$Coder" b_Cd_restart 1 none 0 := ⟨t_63, t_347, fun _ _ h => sel_up (h _ t_62) (h _ t_347) (h _ t_60), t_59, t_4, by decide, by decide, by decide +kernel⟩
theorem su_Cw_Cd_tally : Su (⟨"LayeredPage$Coder", "tally", "(II)V"⟩ : MethodName) y_Cd_tally "LayeredPage$CodeWriter" "LayeredPage$Coder" b_Cd_tally 3 none 2 := ⟨t_386, t_851, fun _ _ h => h _ (List.mem_append_left _ (by unfold exW y_Cd_tally; simp)), t_385, t_4, by decide, by decide, by decide +kernel⟩
theorem su_Cr_Cr_restart : Su (⟨"LayeredPage$CodeReader", "restart", "()V"⟩ : MethodName) y_Cd_restart "LayeredPage$CodeReader" "LayeredPage$Coder" b_Cd_restart 1 none 0 := ⟨t_63, t_495, fun _ _ h => sel_up (h _ t_61) (h _ t_495) (h _ t_60), t_59, t_4, by decide, by decide, by decide +kernel⟩
theorem su_Cr_Cd_tally : Su (⟨"LayeredPage$Coder", "tally", "(II)V"⟩ : MethodName) y_Cd_tally "LayeredPage$CodeReader" "LayeredPage$Coder" b_Cd_tally 3 none 2 := ⟨t_386, t_851, fun _ _ h => h _ (List.mem_append_left _ (by unfold exW y_Cd_tally; simp)), t_385, t_4, by decide, by decide, by decide +kernel⟩
