set_option maxRecDepth 20000 in
theorem mk4_0 : (Jvm.Cond.methodLink "CardTerminalLaw" (51 : Nat) ({ cls := "CardTerminalModel", name := "insertCard", desc := "()I" } : Jvm.MethodName)) ∈ x_G := x_g4 (List.mem_of_getElem? (i := 0) rfl) rfl
set_option maxRecDepth 20000 in
theorem mk4_1 : (Jvm.Cond.instanceMethod ({ cls := "CardTerminalModel", name := "insertCard", desc := "()I" } : Jvm.MethodName)) ∈ x_G := x_g4 (List.mem_of_getElem? (i := 1) rfl) rfl
set_option maxRecDepth 20000 in
theorem mk4_2 : (Jvm.Cond.selects "CardTerminalModel" ({ cls := "CardTerminalModel", name := "insertCard", desc := "()I" } : Jvm.MethodName) ({ cls := "CardTerminalModel", name := "insertCard", desc := "()I" } : Jvm.MethodName)) ∈ x_G := x_g4 (List.mem_of_getElem? (i := 2) rfl) rfl
set_option maxRecDepth 20000 in
theorem mk4_3 : (Jvm.Cond.code ({ cls := "CardTerminalModel", name := "insertCard", desc := "()I" } : Jvm.MethodName) prog_10_method_15_code (5 : Nat) (Option.some Jvm.ClassFile.FieldType.int)) ∈ x_G := x_g4 (List.mem_of_getElem? (i := 3) rfl) rfl
set_option maxRecDepth 20000 in
theorem mk4_4 : (Jvm.Cond.methodLink "CardTerminalModel" (108 : Nat) ({ cls := "CardTerminalModel", name := "nameOf", desc := "(I)I" } : Jvm.MethodName)) ∈ x_G := x_g4 (List.mem_of_getElem? (i := 4) rfl) rfl
set_option maxRecDepth 20000 in
theorem mk4_6 : (Jvm.Cond.instanceMethod ({ cls := "CardTerminalModel", name := "nameOf", desc := "(I)I" } : Jvm.MethodName)) ∈ x_G := x_g4 (List.mem_of_getElem? (i := 6) rfl) rfl
set_option maxRecDepth 20000 in
theorem mk4_7 : (Jvm.Cond.code ({ cls := "CardTerminalModel", name := "nameOf", desc := "(I)I" } : Jvm.MethodName) prog_10_method_13_code (6 : Nat) (Option.some Jvm.ClassFile.FieldType.int)) ∈ x_G := x_g4 (List.mem_of_getElem? (i := 7) rfl) rfl
set_option maxRecDepth 20000 in
theorem mk4_8 : (Jvm.Cond.methodLink "CardTerminalModel" (114 : Nat) ({ cls := "CardTerminalModel", name := "priorityByte", desc := "(I)I" } : Jvm.MethodName)) ∈ x_G := x_g4 (List.mem_of_getElem? (i := 8) rfl) rfl
set_option maxRecDepth 20000 in
theorem mk4_10 : (Jvm.Cond.instanceMethod ({ cls := "CardTerminalModel", name := "priorityByte", desc := "(I)I" } : Jvm.MethodName)) ∈ x_G := x_g4 (List.mem_of_getElem? (i := 10) rfl) rfl
set_option maxRecDepth 20000 in
theorem mk4_11 : (Jvm.Cond.code ({ cls := "CardTerminalModel", name := "priorityByte", desc := "(I)I" } : Jvm.MethodName) prog_10_method_14_code (3 : Nat) (Option.some Jvm.ClassFile.FieldType.int)) ∈ x_G := x_g4 (List.mem_of_getElem? (i := 11) rfl) rfl
set_option maxRecDepth 20000 in
theorem mk4_12 : (Jvm.Cond.methodLink "CardTerminalLaw" (55 : Nat) ({ cls := "CardTerminalModel", name := "priorityOf", desc := "(I)I" } : Jvm.MethodName)) ∈ x_G := x_g4 (List.mem_of_getElem? (i := 12) rfl) rfl
set_option maxRecDepth 20000 in
theorem mk4_13 : (Jvm.Cond.instanceMethod ({ cls := "CardTerminalModel", name := "priorityOf", desc := "(I)I" } : Jvm.MethodName)) ∈ x_G := x_g4 (List.mem_of_getElem? (i := 13) rfl) rfl
set_option maxRecDepth 20000 in
theorem mk4_14 : (Jvm.Cond.selects "CardTerminalModel" ({ cls := "CardTerminalModel", name := "priorityOf", desc := "(I)I" } : Jvm.MethodName) ({ cls := "CardTerminalModel", name := "priorityOf", desc := "(I)I" } : Jvm.MethodName)) ∈ x_G := x_g4 (List.mem_of_getElem? (i := 14) rfl) rfl
set_option maxRecDepth 20000 in
theorem mk4_15 : (Jvm.Cond.code ({ cls := "CardTerminalModel", name := "priorityOf", desc := "(I)I" } : Jvm.MethodName) prog_10_method_17_code (2 : Nat) (Option.some Jvm.ClassFile.FieldType.int)) ∈ x_G := x_g4 (List.mem_of_getElem? (i := 15) rfl) rfl
set_option maxRecDepth 20000 in
theorem mk4_16 : (Jvm.Cond.methodLink "CardTerminalModel" (120 : Nat) ({ cls := "CardTerminalModel", name := "isApplication", desc := "(I)Z" } : Jvm.MethodName)) ∈ x_G := x_g4 (List.mem_of_getElem? (i := 16) rfl) rfl
set_option maxRecDepth 20000 in
theorem mk4_18 : (Jvm.Cond.instanceMethod ({ cls := "CardTerminalModel", name := "isApplication", desc := "(I)Z" } : Jvm.MethodName)) ∈ x_G := x_g4 (List.mem_of_getElem? (i := 18) rfl) rfl
set_option maxRecDepth 20000 in
theorem mk4_19 : (Jvm.Cond.code ({ cls := "CardTerminalModel", name := "isApplication", desc := "(I)Z" } : Jvm.MethodName) prog_10_method_16_code (2 : Nat) (Option.some Jvm.ClassFile.FieldType.boolean)) ∈ x_G := x_g4 (List.mem_of_getElem? (i := 19) rfl) rfl
set_option maxRecDepth 20000 in
theorem mk4_20 : (Jvm.Cond.methodLink "CardTerminalLaw" (59 : Nat) ({ cls := "CardTerminalModel", name := "setIssuerCode", desc := "(II)I" } : Jvm.MethodName)) ∈ x_G := x_g4 (List.mem_of_getElem? (i := 20) rfl) rfl
set_option maxRecDepth 20000 in
theorem mk4_21 : (Jvm.Cond.instanceMethod ({ cls := "CardTerminalModel", name := "setIssuerCode", desc := "(II)I" } : Jvm.MethodName)) ∈ x_G := x_g4 (List.mem_of_getElem? (i := 21) rfl) rfl
set_option maxRecDepth 20000 in
theorem mk4_22 : (Jvm.Cond.selects "CardTerminalModel" ({ cls := "CardTerminalModel", name := "setIssuerCode", desc := "(II)I" } : Jvm.MethodName) ({ cls := "CardTerminalModel", name := "setIssuerCode", desc := "(II)I" } : Jvm.MethodName)) ∈ x_G := x_g4 (List.mem_of_getElem? (i := 22) rfl) rfl
set_option maxRecDepth 20000 in
theorem mk4_23 : (Jvm.Cond.code ({ cls := "CardTerminalModel", name := "setIssuerCode", desc := "(II)I" } : Jvm.MethodName) prog_10_method_18_code (4 : Nat) (Option.some Jvm.ClassFile.FieldType.int)) ∈ x_G := x_g4 (List.mem_of_getElem? (i := 23) rfl) rfl
set_option maxRecDepth 20000 in
theorem mk4_24 : (Jvm.Cond.methodLink "CardTerminalLaw" (64 : Nat) ({ cls := "CardTerminalModel", name := "addIdentifier", desc := "(Z)I" } : Jvm.MethodName)) ∈ x_G := x_g4 (List.mem_of_getElem? (i := 24) rfl) rfl
set_option maxRecDepth 20000 in
theorem mk4_25 : (Jvm.Cond.instanceMethod ({ cls := "CardTerminalModel", name := "addIdentifier", desc := "(Z)I" } : Jvm.MethodName)) ∈ x_G := x_g4 (List.mem_of_getElem? (i := 25) rfl) rfl
set_option maxRecDepth 20000 in
theorem mk4_26 : (Jvm.Cond.selects "CardTerminalModel" ({ cls := "CardTerminalModel", name := "addIdentifier", desc := "(Z)I" } : Jvm.MethodName) ({ cls := "CardTerminalModel", name := "addIdentifier", desc := "(Z)I" } : Jvm.MethodName)) ∈ x_G := x_g4 (List.mem_of_getElem? (i := 26) rfl) rfl
set_option maxRecDepth 20000 in
theorem mk4_27 : (Jvm.Cond.code ({ cls := "CardTerminalModel", name := "addIdentifier", desc := "(Z)I" } : Jvm.MethodName) prog_10_method_19_code (3 : Nat) (Option.some Jvm.ClassFile.FieldType.int)) ∈ x_G := x_g4 (List.mem_of_getElem? (i := 27) rfl) rfl
set_option maxRecDepth 20000 in
theorem mk4_28 : (Jvm.Cond.methodLink "CardTerminalLaw" (68 : Nat) ({ cls := "CardTerminalModel", name := "removeIdentifier", desc := "(I)I" } : Jvm.MethodName)) ∈ x_G := x_g4 (List.mem_of_getElem? (i := 28) rfl) rfl
set_option maxRecDepth 20000 in
theorem mk4_29 : (Jvm.Cond.instanceMethod ({ cls := "CardTerminalModel", name := "removeIdentifier", desc := "(I)I" } : Jvm.MethodName)) ∈ x_G := x_g4 (List.mem_of_getElem? (i := 29) rfl) rfl
set_option maxRecDepth 20000 in
theorem mk4_30 : (Jvm.Cond.selects "CardTerminalModel" ({ cls := "CardTerminalModel", name := "removeIdentifier", desc := "(I)I" } : Jvm.MethodName) ({ cls := "CardTerminalModel", name := "removeIdentifier", desc := "(I)I" } : Jvm.MethodName)) ∈ x_G := x_g4 (List.mem_of_getElem? (i := 30) rfl) rfl
set_option maxRecDepth 20000 in
theorem mk4_31 : (Jvm.Cond.code ({ cls := "CardTerminalModel", name := "removeIdentifier", desc := "(I)I" } : Jvm.MethodName) prog_10_method_20_code (4 : Nat) (Option.some Jvm.ClassFile.FieldType.int)) ∈ x_G := x_g4 (List.mem_of_getElem? (i := 31) rfl) rfl
set_option maxRecDepth 20000 in
theorem mk4_32 : (Jvm.Cond.methodLink "CardTerminalLaw" (72 : Nat) ({ cls := "CardTerminalModel", name := "setTerminalCode", desc := "(II)I" } : Jvm.MethodName)) ∈ x_G := x_g4 (List.mem_of_getElem? (i := 32) rfl) rfl
set_option maxRecDepth 20000 in
theorem mk4_33 : (Jvm.Cond.instanceMethod ({ cls := "CardTerminalModel", name := "setTerminalCode", desc := "(II)I" } : Jvm.MethodName)) ∈ x_G := x_g4 (List.mem_of_getElem? (i := 33) rfl) rfl
set_option maxRecDepth 20000 in
theorem mk4_34 : (Jvm.Cond.selects "CardTerminalModel" ({ cls := "CardTerminalModel", name := "setTerminalCode", desc := "(II)I" } : Jvm.MethodName) ({ cls := "CardTerminalModel", name := "setTerminalCode", desc := "(II)I" } : Jvm.MethodName)) ∈ x_G := x_g4 (List.mem_of_getElem? (i := 34) rfl) rfl
set_option maxRecDepth 20000 in
theorem mk4_35 : (Jvm.Cond.code ({ cls := "CardTerminalModel", name := "setTerminalCode", desc := "(II)I" } : Jvm.MethodName) prog_10_method_21_code (4 : Nat) (Option.some Jvm.ClassFile.FieldType.int)) ∈ x_G := x_g4 (List.mem_of_getElem? (i := 35) rfl) rfl
set_option maxRecDepth 20000 in
theorem mk4_36 : (Jvm.Cond.methodLink "CardTerminalLaw" (76 : Nat) ({ cls := "CardTerminalModel", name := "setFloorLimit", desc := "(I)I" } : Jvm.MethodName)) ∈ x_G := x_g4 (List.mem_of_getElem? (i := 36) rfl) rfl
set_option maxRecDepth 20000 in
theorem mk4_37 : (Jvm.Cond.instanceMethod ({ cls := "CardTerminalModel", name := "setFloorLimit", desc := "(I)I" } : Jvm.MethodName)) ∈ x_G := x_g4 (List.mem_of_getElem? (i := 37) rfl) rfl
set_option maxRecDepth 20000 in
theorem mk4_38 : (Jvm.Cond.selects "CardTerminalModel" ({ cls := "CardTerminalModel", name := "setFloorLimit", desc := "(I)I" } : Jvm.MethodName) ({ cls := "CardTerminalModel", name := "setFloorLimit", desc := "(I)I" } : Jvm.MethodName)) ∈ x_G := x_g4 (List.mem_of_getElem? (i := 38) rfl) rfl
set_option maxRecDepth 20000 in
theorem mk4_39 : (Jvm.Cond.code ({ cls := "CardTerminalModel", name := "setFloorLimit", desc := "(I)I" } : Jvm.MethodName) prog_10_method_22_code (3 : Nat) (Option.some Jvm.ClassFile.FieldType.int)) ∈ x_G := x_g4 (List.mem_of_getElem? (i := 39) rfl) rfl
set_option maxRecDepth 20000 in
theorem mk4_40 : (Jvm.Cond.constant "CardTerminalModel" (127 : Nat) (99999 : Int32)) ∈ x_G := x_g4 (List.mem_of_getElem? (i := 40) rfl) rfl
set_option maxRecDepth 20000 in
theorem mk4_41 : (Jvm.Cond.methodLink "CardTerminalLaw" (80 : Nat) ({ cls := "CardTerminalModel", name := "setOfflineLimits", desc := "(II)I" } : Jvm.MethodName)) ∈ x_G := x_g4 (List.mem_of_getElem? (i := 41) rfl) rfl
set_option maxRecDepth 20000 in
theorem mk4_42 : (Jvm.Cond.instanceMethod ({ cls := "CardTerminalModel", name := "setOfflineLimits", desc := "(II)I" } : Jvm.MethodName)) ∈ x_G := x_g4 (List.mem_of_getElem? (i := 42) rfl) rfl
set_option maxRecDepth 20000 in
theorem mk4_43 : (Jvm.Cond.selects "CardTerminalModel" ({ cls := "CardTerminalModel", name := "setOfflineLimits", desc := "(II)I" } : Jvm.MethodName) ({ cls := "CardTerminalModel", name := "setOfflineLimits", desc := "(II)I" } : Jvm.MethodName)) ∈ x_G := x_g4 (List.mem_of_getElem? (i := 43) rfl) rfl
set_option maxRecDepth 20000 in
theorem mk4_44 : (Jvm.Cond.code ({ cls := "CardTerminalModel", name := "setOfflineLimits", desc := "(II)I" } : Jvm.MethodName) prog_10_method_23_code (4 : Nat) (Option.some Jvm.ClassFile.FieldType.int)) ∈ x_G := x_g4 (List.mem_of_getElem? (i := 44) rfl) rfl
set_option maxRecDepth 20000 in
theorem mk4_45 : (Jvm.Cond.methodLink "CardTerminalLaw" (84 : Nat) ({ cls := "CardTerminalModel", name := "setRandomTarget", desc := "(I)I" } : Jvm.MethodName)) ∈ x_G := x_g4 (List.mem_of_getElem? (i := 45) rfl) rfl
set_option maxRecDepth 20000 in
theorem mk4_46 : (Jvm.Cond.instanceMethod ({ cls := "CardTerminalModel", name := "setRandomTarget", desc := "(I)I" } : Jvm.MethodName)) ∈ x_G := x_g4 (List.mem_of_getElem? (i := 46) rfl) rfl
set_option maxRecDepth 20000 in
theorem mk4_47 : (Jvm.Cond.selects "CardTerminalModel" ({ cls := "CardTerminalModel", name := "setRandomTarget", desc := "(I)I" } : Jvm.MethodName) ({ cls := "CardTerminalModel", name := "setRandomTarget", desc := "(I)I" } : Jvm.MethodName)) ∈ x_G := x_g4 (List.mem_of_getElem? (i := 47) rfl) rfl
set_option maxRecDepth 20000 in
theorem mk4_48 : (Jvm.Cond.code ({ cls := "CardTerminalModel", name := "setRandomTarget", desc := "(I)I" } : Jvm.MethodName) prog_10_method_24_code (3 : Nat) (Option.some Jvm.ClassFile.FieldType.int)) ∈ x_G := x_g4 (List.mem_of_getElem? (i := 48) rfl) rfl
set_option maxRecDepth 20000 in
theorem mk4_49 : (Jvm.Cond.methodLink "CardTerminalLaw" (88 : Nat) ({ cls := "CardTerminalModel", name := "setOnline", desc := "(Z)I" } : Jvm.MethodName)) ∈ x_G := x_g4 (List.mem_of_getElem? (i := 49) rfl) rfl
set_option maxRecDepth 20000 in
theorem mk4_50 : (Jvm.Cond.instanceMethod ({ cls := "CardTerminalModel", name := "setOnline", desc := "(Z)I" } : Jvm.MethodName)) ∈ x_G := x_g4 (List.mem_of_getElem? (i := 50) rfl) rfl
set_option maxRecDepth 20000 in
theorem mk4_51 : (Jvm.Cond.selects "CardTerminalModel" ({ cls := "CardTerminalModel", name := "setOnline", desc := "(Z)I" } : Jvm.MethodName) ({ cls := "CardTerminalModel", name := "setOnline", desc := "(Z)I" } : Jvm.MethodName)) ∈ x_G := x_g4 (List.mem_of_getElem? (i := 51) rfl) rfl
set_option maxRecDepth 20000 in
theorem mk4_52 : (Jvm.Cond.code ({ cls := "CardTerminalModel", name := "setOnline", desc := "(Z)I" } : Jvm.MethodName) prog_10_method_25_code (3 : Nat) (Option.some Jvm.ClassFile.FieldType.int)) ∈ x_G := x_g4 (List.mem_of_getElem? (i := 52) rfl) rfl
set_option maxRecDepth 20000 in
theorem mk4_53 : (Jvm.Cond.methodLink "CardTerminalLaw" (92 : Nat) ({ cls := "CardTerminalModel", name := "candidateCount", desc := "()I" } : Jvm.MethodName)) ∈ x_G := x_g4 (List.mem_of_getElem? (i := 53) rfl) rfl
set_option maxRecDepth 20000 in
theorem mk4_54 : (Jvm.Cond.instanceMethod ({ cls := "CardTerminalModel", name := "candidateCount", desc := "()I" } : Jvm.MethodName)) ∈ x_G := x_g4 (List.mem_of_getElem? (i := 54) rfl) rfl
set_option maxRecDepth 20000 in
theorem mk4_55 : (Jvm.Cond.selects "CardTerminalModel" ({ cls := "CardTerminalModel", name := "candidateCount", desc := "()I" } : Jvm.MethodName) ({ cls := "CardTerminalModel", name := "candidateCount", desc := "()I" } : Jvm.MethodName)) ∈ x_G := x_g4 (List.mem_of_getElem? (i := 55) rfl) rfl
set_option maxRecDepth 20000 in
theorem mk4_56 : (Jvm.Cond.code ({ cls := "CardTerminalModel", name := "candidateCount", desc := "()I" } : Jvm.MethodName) prog_10_method_28_code (1 : Nat) (Option.some Jvm.ClassFile.FieldType.int)) ∈ x_G := x_g4 (List.mem_of_getElem? (i := 56) rfl) rfl
set_option maxRecDepth 20000 in
theorem mk4_57 : (Jvm.Cond.methodLink "CardTerminalModel" (137 : Nat) ({ cls := "CardTerminalModel", name := "lists", desc := "()V" } : Jvm.MethodName)) ∈ x_G := x_g4 (List.mem_of_getElem? (i := 57) rfl) rfl
set_option maxRecDepth 20000 in
theorem mk4_59 : (Jvm.Cond.instanceMethod ({ cls := "CardTerminalModel", name := "lists", desc := "()V" } : Jvm.MethodName)) ∈ x_G := x_g4 (List.mem_of_getElem? (i := 59) rfl) rfl
set_option maxRecDepth 20000 in
theorem mk4_60 : (Jvm.Cond.code ({ cls := "CardTerminalModel", name := "lists", desc := "()V" } : Jvm.MethodName) prog_10_method_27_code (3 : Nat) (Option.none : Option Jvm.ClassFile.FieldType)) ∈ x_G := x_g4 (List.mem_of_getElem? (i := 60) rfl) rfl
set_option maxRecDepth 20000 in
theorem mk4_61 : (Jvm.Cond.methodLink "CardTerminalModel" (134 : Nat) ({ cls := "CardTerminalModel", name := "isSupported", desc := "(I)Z" } : Jvm.MethodName)) ∈ x_G := x_g4 (List.mem_of_getElem? (i := 61) rfl) rfl
set_option maxRecDepth 20000 in
theorem mk4_63 : (Jvm.Cond.instanceMethod ({ cls := "CardTerminalModel", name := "isSupported", desc := "(I)Z" } : Jvm.MethodName)) ∈ x_G := x_g4 (List.mem_of_getElem? (i := 63) rfl) rfl
set_option maxRecDepth 20000 in
theorem mk4_64 : (Jvm.Cond.code ({ cls := "CardTerminalModel", name := "isSupported", desc := "(I)Z" } : Jvm.MethodName) prog_10_method_26_code (5 : Nat) (Option.some Jvm.ClassFile.FieldType.boolean)) ∈ x_G := x_g4 (List.mem_of_getElem? (i := 64) rfl) rfl
set_option maxRecDepth 20000 in
theorem mk4_65 : (Jvm.Cond.methodLink "CardTerminalLaw" (96 : Nat) ({ cls := "CardTerminalModel", name := "candidateAt", desc := "(I)I" } : Jvm.MethodName)) ∈ x_G := x_g4 (List.mem_of_getElem? (i := 65) rfl) rfl
set_option maxRecDepth 20000 in
theorem mk4_66 : (Jvm.Cond.instanceMethod ({ cls := "CardTerminalModel", name := "candidateAt", desc := "(I)I" } : Jvm.MethodName)) ∈ x_G := x_g4 (List.mem_of_getElem? (i := 66) rfl) rfl
set_option maxRecDepth 20000 in
theorem mk4_67 : (Jvm.Cond.selects "CardTerminalModel" ({ cls := "CardTerminalModel", name := "candidateAt", desc := "(I)I" } : Jvm.MethodName) ({ cls := "CardTerminalModel", name := "candidateAt", desc := "(I)I" } : Jvm.MethodName)) ∈ x_G := x_g4 (List.mem_of_getElem? (i := 67) rfl) rfl
set_option maxRecDepth 20000 in
theorem mk4_68 : (Jvm.Cond.code ({ cls := "CardTerminalModel", name := "candidateAt", desc := "(I)I" } : Jvm.MethodName) prog_10_method_29_code (2 : Nat) (Option.some Jvm.ClassFile.FieldType.int)) ∈ x_G := x_g4 (List.mem_of_getElem? (i := 68) rfl) rfl
set_option maxRecDepth 20000 in
theorem mk4_69 : (Jvm.Cond.methodLink "CardTerminalLaw" (101 : Nat) ({ cls := "CardTerminalModel", name := "select", desc := "(IZ)I" } : Jvm.MethodName)) ∈ x_G := x_g4 (List.mem_of_getElem? (i := 69) rfl) rfl
set_option maxRecDepth 20000 in
theorem mk4_70 : (Jvm.Cond.instanceMethod ({ cls := "CardTerminalModel", name := "select", desc := "(IZ)I" } : Jvm.MethodName)) ∈ x_G := x_g4 (List.mem_of_getElem? (i := 70) rfl) rfl
set_option maxRecDepth 20000 in
theorem mk4_71 : (Jvm.Cond.selects "CardTerminalModel" ({ cls := "CardTerminalModel", name := "select", desc := "(IZ)I" } : Jvm.MethodName) ({ cls := "CardTerminalModel", name := "select", desc := "(IZ)I" } : Jvm.MethodName)) ∈ x_G := x_g4 (List.mem_of_getElem? (i := 71) rfl) rfl
set_option maxRecDepth 20000 in
theorem mk4_72 : (Jvm.Cond.code ({ cls := "CardTerminalModel", name := "select", desc := "(IZ)I" } : Jvm.MethodName) prog_10_method_30_code (4 : Nat) (Option.some Jvm.ClassFile.FieldType.int)) ∈ x_G := x_g4 (List.mem_of_getElem? (i := 72) rfl) rfl
set_option maxRecDepth 20000 in
theorem mk4_73 : (Jvm.Cond.methodLink "CardTerminalLaw" (105 : Nat) ({ cls := "CardTerminalModel", name := "start", desc := "(II)I" } : Jvm.MethodName)) ∈ x_G := x_g4 (List.mem_of_getElem? (i := 73) rfl) rfl
set_option maxRecDepth 20000 in
theorem mk4_74 : (Jvm.Cond.instanceMethod ({ cls := "CardTerminalModel", name := "start", desc := "(II)I" } : Jvm.MethodName)) ∈ x_G := x_g4 (List.mem_of_getElem? (i := 74) rfl) rfl
set_option maxRecDepth 20000 in
theorem mk4_75 : (Jvm.Cond.selects "CardTerminalModel" ({ cls := "CardTerminalModel", name := "start", desc := "(II)I" } : Jvm.MethodName) ({ cls := "CardTerminalModel", name := "start", desc := "(II)I" } : Jvm.MethodName)) ∈ x_G := x_g4 (List.mem_of_getElem? (i := 75) rfl) rfl
set_option maxRecDepth 20000 in
theorem mk4_76 : (Jvm.Cond.code ({ cls := "CardTerminalModel", name := "start", desc := "(II)I" } : Jvm.MethodName) prog_10_method_33_code (3 : Nat) (Option.some Jvm.ClassFile.FieldType.int)) ∈ x_G := x_g4 (List.mem_of_getElem? (i := 76) rfl) rfl
set_option maxRecDepth 20000 in
theorem mk4_77 : (Jvm.Cond.methodLink "CardTerminalModel" (146 : Nat) ({ cls := "CardTerminalModel", name := "ends", desc := "(I)I" } : Jvm.MethodName)) ∈ x_G := x_g4 (List.mem_of_getElem? (i := 77) rfl) rfl
set_option maxRecDepth 20000 in
theorem mk4_79 : (Jvm.Cond.instanceMethod ({ cls := "CardTerminalModel", name := "ends", desc := "(I)I" } : Jvm.MethodName)) ∈ x_G := x_g4 (List.mem_of_getElem? (i := 79) rfl) rfl
set_option maxRecDepth 20000 in
theorem mk4_80 : (Jvm.Cond.code ({ cls := "CardTerminalModel", name := "ends", desc := "(I)I" } : Jvm.MethodName) prog_10_method_31_code (2 : Nat) (Option.some Jvm.ClassFile.FieldType.int)) ∈ x_G := x_g4 (List.mem_of_getElem? (i := 80) rfl) rfl
set_option maxRecDepth 20000 in
theorem mk4_81 : (Jvm.Cond.methodLink "CardTerminalModel" (154 : Nat) ({ cls := "CardTerminalModel", name := "byDefault", desc := "()I" } : Jvm.MethodName)) ∈ x_G := x_g4 (List.mem_of_getElem? (i := 81) rfl) rfl
set_option maxRecDepth 20000 in
theorem mk4_83 : (Jvm.Cond.instanceMethod ({ cls := "CardTerminalModel", name := "byDefault", desc := "()I" } : Jvm.MethodName)) ∈ x_G := x_g4 (List.mem_of_getElem? (i := 83) rfl) rfl
set_option maxRecDepth 20000 in
theorem mk4_84 : (Jvm.Cond.code ({ cls := "CardTerminalModel", name := "byDefault", desc := "()I" } : Jvm.MethodName) prog_10_method_32_code (1 : Nat) (Option.some Jvm.ClassFile.FieldType.int)) ∈ x_G := x_g4 (List.mem_of_getElem? (i := 84) rfl) rfl
set_option maxRecDepth 20000 in
theorem mk4_85 : (Jvm.Cond.methodLink "CardTerminalLaw" (109 : Nat) ({ cls := "CardTerminalModel", name := "answer", desc := "(I)I" } : Jvm.MethodName)) ∈ x_G := x_g4 (List.mem_of_getElem? (i := 85) rfl) rfl
set_option maxRecDepth 20000 in
theorem mk4_86 : (Jvm.Cond.instanceMethod ({ cls := "CardTerminalModel", name := "answer", desc := "(I)I" } : Jvm.MethodName)) ∈ x_G := x_g4 (List.mem_of_getElem? (i := 86) rfl) rfl
set_option maxRecDepth 20000 in
theorem mk4_87 : (Jvm.Cond.selects "CardTerminalModel" ({ cls := "CardTerminalModel", name := "answer", desc := "(I)I" } : Jvm.MethodName) ({ cls := "CardTerminalModel", name := "answer", desc := "(I)I" } : Jvm.MethodName)) ∈ x_G := x_g4 (List.mem_of_getElem? (i := 87) rfl) rfl
set_option maxRecDepth 20000 in
theorem mk4_88 : (Jvm.Cond.code ({ cls := "CardTerminalModel", name := "answer", desc := "(I)I" } : Jvm.MethodName) prog_10_method_34_code (2 : Nat) (Option.some Jvm.ClassFile.FieldType.int)) ∈ x_G := x_g4 (List.mem_of_getElem? (i := 88) rfl) rfl
set_option maxRecDepth 20000 in
theorem mk4_89 : (Jvm.Cond.methodLink "CardTerminalLaw" (113 : Nat) ({ cls := "CardTerminalModel", name := "sendReversal", desc := "(Z)I" } : Jvm.MethodName)) ∈ x_G := x_g4 (List.mem_of_getElem? (i := 89) rfl) rfl
set_option maxRecDepth 20000 in
theorem mk4_90 : (Jvm.Cond.instanceMethod ({ cls := "CardTerminalModel", name := "sendReversal", desc := "(Z)I" } : Jvm.MethodName)) ∈ x_G := x_g4 (List.mem_of_getElem? (i := 90) rfl) rfl
set_option maxRecDepth 20000 in
theorem mk4_91 : (Jvm.Cond.selects "CardTerminalModel" ({ cls := "CardTerminalModel", name := "sendReversal", desc := "(Z)I" } : Jvm.MethodName) ({ cls := "CardTerminalModel", name := "sendReversal", desc := "(Z)I" } : Jvm.MethodName)) ∈ x_G := x_g4 (List.mem_of_getElem? (i := 91) rfl) rfl
set_option maxRecDepth 20000 in
theorem mk4_92 : (Jvm.Cond.code ({ cls := "CardTerminalModel", name := "sendReversal", desc := "(Z)I" } : Jvm.MethodName) prog_10_method_35_code (4 : Nat) (Option.some Jvm.ClassFile.FieldType.int)) ∈ x_G := x_g4 (List.mem_of_getElem? (i := 92) rfl) rfl
set_option maxRecDepth 20000 in
theorem mk4_93 : (Jvm.Cond.methodLink "CardTerminalLaw" (117 : Nat) ({ cls := "CardTerminalModel", name := "reversalCount", desc := "()I" } : Jvm.MethodName)) ∈ x_G := x_g4 (List.mem_of_getElem? (i := 93) rfl) rfl
set_option maxRecDepth 20000 in
theorem mk4_94 : (Jvm.Cond.instanceMethod ({ cls := "CardTerminalModel", name := "reversalCount", desc := "()I" } : Jvm.MethodName)) ∈ x_G := x_g4 (List.mem_of_getElem? (i := 94) rfl) rfl
set_option maxRecDepth 20000 in
theorem mk4_95 : (Jvm.Cond.selects "CardTerminalModel" ({ cls := "CardTerminalModel", name := "reversalCount", desc := "()I" } : Jvm.MethodName) ({ cls := "CardTerminalModel", name := "reversalCount", desc := "()I" } : Jvm.MethodName)) ∈ x_G := x_g4 (List.mem_of_getElem? (i := 95) rfl) rfl
set_option maxRecDepth 20000 in
theorem mk4_96 : (Jvm.Cond.code ({ cls := "CardTerminalModel", name := "reversalCount", desc := "()I" } : Jvm.MethodName) prog_10_method_36_code (1 : Nat) (Option.some Jvm.ClassFile.FieldType.int)) ∈ x_G := x_g4 (List.mem_of_getElem? (i := 96) rfl) rfl
set_option maxRecDepth 20000 in
theorem mk4_97 : (Jvm.Cond.methodLink "CardTerminalLaw" (121 : Nat) ({ cls := "CardTerminalModel", name := "verificationResults", desc := "()I" } : Jvm.MethodName)) ∈ x_G := x_g4 (List.mem_of_getElem? (i := 97) rfl) rfl
set_option maxRecDepth 20000 in
theorem mk4_98 : (Jvm.Cond.instanceMethod ({ cls := "CardTerminalModel", name := "verificationResults", desc := "()I" } : Jvm.MethodName)) ∈ x_G := x_g4 (List.mem_of_getElem? (i := 98) rfl) rfl
set_option maxRecDepth 20000 in
theorem mk4_99 : (Jvm.Cond.selects "CardTerminalModel" ({ cls := "CardTerminalModel", name := "verificationResults", desc := "()I" } : Jvm.MethodName) ({ cls := "CardTerminalModel", name := "verificationResults", desc := "()I" } : Jvm.MethodName)) ∈ x_G := x_g4 (List.mem_of_getElem? (i := 99) rfl) rfl
set_option maxRecDepth 20000 in
theorem mk4_100 : (Jvm.Cond.code ({ cls := "CardTerminalModel", name := "verificationResults", desc := "()I" } : Jvm.MethodName) prog_10_method_37_code (1 : Nat) (Option.some Jvm.ClassFile.FieldType.int)) ∈ x_G := x_g4 (List.mem_of_getElem? (i := 100) rfl) rfl
set_option maxRecDepth 20000 in
theorem mk4_101 : (Jvm.Cond.methodLink "CardTerminalLaw" (125 : Nat) ({ cls := "CardTerminalModel", name := "outcomeCount", desc := "(I)I" } : Jvm.MethodName)) ∈ x_G := x_g4 (List.mem_of_getElem? (i := 101) rfl) rfl
set_option maxRecDepth 20000 in
theorem mk4_102 : (Jvm.Cond.instanceMethod ({ cls := "CardTerminalModel", name := "outcomeCount", desc := "(I)I" } : Jvm.MethodName)) ∈ x_G := x_g4 (List.mem_of_getElem? (i := 102) rfl) rfl
set_option maxRecDepth 20000 in
theorem mk4_103 : (Jvm.Cond.selects "CardTerminalModel" ({ cls := "CardTerminalModel", name := "outcomeCount", desc := "(I)I" } : Jvm.MethodName) ({ cls := "CardTerminalModel", name := "outcomeCount", desc := "(I)I" } : Jvm.MethodName)) ∈ x_G := x_g4 (List.mem_of_getElem? (i := 103) rfl) rfl
set_option maxRecDepth 20000 in
theorem mk4_104 : (Jvm.Cond.code ({ cls := "CardTerminalModel", name := "outcomeCount", desc := "(I)I" } : Jvm.MethodName) prog_10_method_38_code (2 : Nat) (Option.some Jvm.ClassFile.FieldType.int)) ∈ x_G := x_g4 (List.mem_of_getElem? (i := 104) rfl) rfl
set_option maxRecDepth 20000 in
theorem mk4_105 : (Jvm.Cond.methodLink "CardTerminalLaw" (129 : Nat) ({ cls := "CardTerminalModel", name := "outcomeAmount", desc := "(I)I" } : Jvm.MethodName)) ∈ x_G := x_g4 (List.mem_of_getElem? (i := 105) rfl) rfl
set_option maxRecDepth 20000 in
theorem mk4_106 : (Jvm.Cond.instanceMethod ({ cls := "CardTerminalModel", name := "outcomeAmount", desc := "(I)I" } : Jvm.MethodName)) ∈ x_G := x_g4 (List.mem_of_getElem? (i := 106) rfl) rfl
set_option maxRecDepth 20000 in
theorem mk4_107 : (Jvm.Cond.selects "CardTerminalModel" ({ cls := "CardTerminalModel", name := "outcomeAmount", desc := "(I)I" } : Jvm.MethodName) ({ cls := "CardTerminalModel", name := "outcomeAmount", desc := "(I)I" } : Jvm.MethodName)) ∈ x_G := x_g4 (List.mem_of_getElem? (i := 107) rfl) rfl
set_option maxRecDepth 20000 in
theorem mk4_108 : (Jvm.Cond.code ({ cls := "CardTerminalModel", name := "outcomeAmount", desc := "(I)I" } : Jvm.MethodName) prog_10_method_39_code (2 : Nat) (Option.some Jvm.ClassFile.FieldType.int)) ∈ x_G := x_g4 (List.mem_of_getElem? (i := 108) rfl) rfl
set_option maxRecDepth 20000 in
theorem mk4_109 : (Jvm.Cond.methodLink "CardTerminalLaw" (133 : Nat) ({ cls := "CardTerminalModel", name := "offlineCounter", desc := "()I" } : Jvm.MethodName)) ∈ x_G := x_g4 (List.mem_of_getElem? (i := 109) rfl) rfl
set_option maxRecDepth 20000 in
theorem mk4_110 : (Jvm.Cond.instanceMethod ({ cls := "CardTerminalModel", name := "offlineCounter", desc := "()I" } : Jvm.MethodName)) ∈ x_G := x_g4 (List.mem_of_getElem? (i := 110) rfl) rfl
set_option maxRecDepth 20000 in
theorem mk4_111 : (Jvm.Cond.selects "CardTerminalModel" ({ cls := "CardTerminalModel", name := "offlineCounter", desc := "()I" } : Jvm.MethodName) ({ cls := "CardTerminalModel", name := "offlineCounter", desc := "()I" } : Jvm.MethodName)) ∈ x_G := x_g4 (List.mem_of_getElem? (i := 111) rfl) rfl
set_option maxRecDepth 20000 in
theorem mk4_112 : (Jvm.Cond.code ({ cls := "CardTerminalModel", name := "offlineCounter", desc := "()I" } : Jvm.MethodName) prog_10_method_40_code (1 : Nat) (Option.some Jvm.ClassFile.FieldType.int)) ∈ x_G := x_g4 (List.mem_of_getElem? (i := 112) rfl) rfl
set_option maxRecDepth 20000 in
theorem inG_X0 : ∀ w ∈ u_ws RX0 TX0 2, w ∈ x_G := show ∀ w ∈ ([u_lay RX0 TX0 0, u_lay RX0 TX0 1] : List Cond), w ∈ x_G from (List.forall_mem_cons.mpr ⟨mk1_32, (List.forall_mem_cons.mpr ⟨mk1_34, (fun _ h => absurd h List.not_mem_nil)⟩)⟩)
set_option maxRecDepth 20000 in
theorem inG_X1 : ∀ w ∈ u_ws RX1 TX1 6, w ∈ x_G := show ∀ w ∈ ([u_lay RX1 TX1 0, u_lay RX1 TX1 1, u_lay RX1 TX1 2, u_lay RX1 TX1 3, u_lay RX1 TX1 4, u_lay RX1 TX1 5] : List Cond), w ∈ x_G from (List.forall_mem_cons.mpr ⟨mk1_114, (List.forall_mem_cons.mpr ⟨mk1_116, (List.forall_mem_cons.mpr ⟨mk1_118, (List.forall_mem_cons.mpr ⟨mk1_120, (List.forall_mem_cons.mpr ⟨mk1_122, (List.forall_mem_cons.mpr ⟨mk1_124, (fun _ h => absurd h List.not_mem_nil)⟩)⟩)⟩)⟩)⟩)⟩)
set_option maxRecDepth 20000 in
theorem inG_X2 : ∀ w ∈ u_ws RX2 TX2 8, w ∈ x_G := show ∀ w ∈ ([u_lay RX2 TX2 0, u_lay RX2 TX2 1, u_lay RX2 TX2 2, u_lay RX2 TX2 3, u_lay RX2 TX2 4, u_lay RX2 TX2 5, u_lay RX2 TX2 6, u_lay RX2 TX2 7] : List Cond), w ∈ x_G from (List.forall_mem_cons.mpr ⟨mk1_60, (List.forall_mem_cons.mpr ⟨mk1_62, (List.forall_mem_cons.mpr ⟨mk1_64, (List.forall_mem_cons.mpr ⟨mk1_66, (List.forall_mem_cons.mpr ⟨mk1_68, (List.forall_mem_cons.mpr ⟨mk1_70, (List.forall_mem_cons.mpr ⟨mk1_72, (List.forall_mem_cons.mpr ⟨mk1_74, (fun _ h => absurd h List.not_mem_nil)⟩)⟩)⟩)⟩)⟩)⟩)⟩)⟩)
set_option maxRecDepth 20000 in
theorem inG_X3 : ∀ w ∈ u_ws RX3 TX3 3, w ∈ x_G := show ∀ w ∈ ([u_lay RX3 TX3 0, u_lay RX3 TX3 1, u_lay RX3 TX3 2] : List Cond), w ∈ x_G from (List.forall_mem_cons.mpr ⟨mk1_96, (List.forall_mem_cons.mpr ⟨mk1_98, (List.forall_mem_cons.mpr ⟨mk1_100, (fun _ h => absurd h List.not_mem_nil)⟩)⟩)⟩)
set_option maxRecDepth 20000 in
theorem inG_X4 : ∀ w ∈ u_ws RX4 TX4 2, w ∈ x_G := show ∀ w ∈ ([u_lay RX4 TX4 0, u_lay RX4 TX4 1] : List Cond), w ∈ x_G from (List.forall_mem_cons.mpr ⟨mk1_202, (List.forall_mem_cons.mpr ⟨mk1_204, (fun _ h => absurd h List.not_mem_nil)⟩)⟩)
set_option maxRecDepth 20000 in
theorem inG_X5 : ∀ w ∈ u_ws RX5 TX5 8, w ∈ x_G := show ∀ w ∈ ([u_lay RX5 TX5 0, u_lay RX5 TX5 1, u_lay RX5 TX5 2, u_lay RX5 TX5 3, u_lay RX5 TX5 4, u_lay RX5 TX5 5, u_lay RX5 TX5 6, u_lay RX5 TX5 7] : List Cond), w ∈ x_G from (List.forall_mem_cons.mpr ⟨mk1_150, (List.forall_mem_cons.mpr ⟨mk1_152, (List.forall_mem_cons.mpr ⟨mk1_154, (List.forall_mem_cons.mpr ⟨mk1_156, (List.forall_mem_cons.mpr ⟨mk1_158, (List.forall_mem_cons.mpr ⟨mk1_160, (List.forall_mem_cons.mpr ⟨mk1_162, (List.forall_mem_cons.mpr ⟨mk1_164, (fun _ h => absurd h List.not_mem_nil)⟩)⟩)⟩)⟩)⟩)⟩)⟩)⟩)
set_option maxRecDepth 20000 in
theorem inG_X6 : ∀ w ∈ u_ws RX6 TX6 5, w ∈ x_G := show ∀ w ∈ ([u_lay RX6 TX6 0, u_lay RX6 TX6 1, u_lay RX6 TX6 2, u_lay RX6 TX6 3, u_lay RX6 TX6 4] : List Cond), w ∈ x_G from (List.forall_mem_cons.mpr ⟨mk1_182, (List.forall_mem_cons.mpr ⟨mk1_184, (List.forall_mem_cons.mpr ⟨mk1_186, (List.forall_mem_cons.mpr ⟨mk1_188, (List.forall_mem_cons.mpr ⟨mk1_190, (fun _ h => absurd h List.not_mem_nil)⟩)⟩)⟩)⟩)⟩)
set_option maxRecDepth 20000 in
theorem inG_X7 : ∀ w ∈ u_ws RX7 TX7 6, w ∈ x_G := show ∀ w ∈ ([u_lay RX7 TX7 0, u_lay RX7 TX7 1, u_lay RX7 TX7 2, u_lay RX7 TX7 3, u_lay RX7 TX7 4, u_lay RX7 TX7 5] : List Cond), w ∈ x_G from (List.forall_mem_cons.mpr ⟨mk1_213, (List.forall_mem_cons.mpr ⟨mk1_215, (List.forall_mem_cons.mpr ⟨mk1_217, (List.forall_mem_cons.mpr ⟨mk1_219, (List.forall_mem_cons.mpr ⟨mk1_221, (List.forall_mem_cons.mpr ⟨mk1_223, (fun _ h => absurd h List.not_mem_nil)⟩)⟩)⟩)⟩)⟩)⟩)
set_option maxRecDepth 20000 in
theorem inG_X8 : ∀ w ∈ u_ws RX8 TX8 37, w ∈ x_G := show ∀ w ∈ ([u_lay RX8 TX8 0, u_lay RX8 TX8 1, u_lay RX8 TX8 2, u_lay RX8 TX8 3, u_lay RX8 TX8 4, u_lay RX8 TX8 5, u_lay RX8 TX8 6, u_lay RX8 TX8 7, u_lay RX8 TX8 8, u_lay RX8 TX8 9, u_lay RX8 TX8 10, u_lay RX8 TX8 11, u_lay RX8 TX8 12, u_lay RX8 TX8 13, u_lay RX8 TX8 14, u_lay RX8 TX8 15, u_lay RX8 TX8 16, u_lay RX8 TX8 17, u_lay RX8 TX8 18, u_lay RX8 TX8 19, u_lay RX8 TX8 20, u_lay RX8 TX8 21, u_lay RX8 TX8 22, u_lay RX8 TX8 23, u_lay RX8 TX8 24, u_lay RX8 TX8 25, u_lay RX8 TX8 26, u_lay RX8 TX8 27, u_lay RX8 TX8 28, u_lay RX8 TX8 29, u_lay RX8 TX8 30, u_lay RX8 TX8 31, u_lay RX8 TX8 32, u_lay RX8 TX8 33, u_lay RX8 TX8 34, u_lay RX8 TX8 35, u_lay RX8 TX8 36] : List Cond), w ∈ x_G from (List.forall_mem_cons.mpr ⟨mk3_122, (List.forall_mem_cons.mpr ⟨mk3_124, (List.forall_mem_cons.mpr ⟨mk3_126, (List.forall_mem_cons.mpr ⟨mk3_128, (List.forall_mem_cons.mpr ⟨mk3_130, (List.forall_mem_cons.mpr ⟨mk3_132, (List.forall_mem_cons.mpr ⟨mk3_134, (List.forall_mem_cons.mpr ⟨mk3_136, (List.forall_mem_cons.mpr ⟨mk3_138, (List.forall_mem_cons.mpr ⟨mk3_140, (List.forall_mem_cons.mpr ⟨mk3_142, (List.forall_mem_cons.mpr ⟨mk3_144, (List.forall_mem_cons.mpr ⟨mk3_146, (List.forall_mem_cons.mpr ⟨mk3_148, (List.forall_mem_cons.mpr ⟨mk3_150, (List.forall_mem_cons.mpr ⟨mk3_152, (List.forall_mem_cons.mpr ⟨mk3_154, (List.forall_mem_cons.mpr ⟨mk3_156, (List.forall_mem_cons.mpr ⟨mk3_158, (List.forall_mem_cons.mpr ⟨mk3_160, (List.forall_mem_cons.mpr ⟨mk3_162, (List.forall_mem_cons.mpr ⟨mk3_164, (List.forall_mem_cons.mpr ⟨mk3_166, (List.forall_mem_cons.mpr ⟨mk3_168, (List.forall_mem_cons.mpr ⟨mk3_170, (List.forall_mem_cons.mpr ⟨mk3_172, (List.forall_mem_cons.mpr ⟨mk3_174, (List.forall_mem_cons.mpr ⟨mk3_176, (List.forall_mem_cons.mpr ⟨mk3_178, (List.forall_mem_cons.mpr ⟨mk3_180, (List.forall_mem_cons.mpr ⟨mk3_182, (List.forall_mem_cons.mpr ⟨mk3_184, (List.forall_mem_cons.mpr ⟨mk3_186, (List.forall_mem_cons.mpr ⟨mk3_188, (List.forall_mem_cons.mpr ⟨mk3_190, (List.forall_mem_cons.mpr ⟨mk3_192, (List.forall_mem_cons.mpr ⟨mk3_194, (fun _ h => absurd h List.not_mem_nil)⟩)⟩)⟩)⟩)⟩)⟩)⟩)⟩)⟩)⟩)⟩)⟩)⟩)⟩)⟩)⟩)⟩)⟩)⟩)⟩)⟩)⟩)⟩)⟩)⟩)⟩)⟩)⟩)⟩)⟩)⟩)⟩)⟩)⟩)⟩)⟩)⟩)
set_option maxRecDepth 20000 in
def x_KV (C : String) (y : MethodName) (b : ByteArray) (mL : Nat) (ret : Option FieldType) (n : Nat) : Prop := Cond.instanceMethod y ∈ x_G ∧ Cond.selects C y y ∈ x_G ∧ Cond.initialized C ∈ x_G ∧ Cond.code y b mL ret ∈ x_G ∧ (y.cls = C ∧ y.cls ≠ "java/lang/invoke/MethodHandle" ∧ y.cls ≠ "java/lang/invoke/VarHandle" ∧ (parseMethodDescriptor y.desc).map (fun d => d.parameters.length) = some n)
set_option maxRecDepth 20000 in
def x_KS (C : String) (y : MethodName) (b : ByteArray) (mL : Nat) (ret : Option FieldType) (n : Nat) : Prop := Cond.static y ∈ x_G ∧ Cond.initialized C ∈ x_G ∧ Cond.code y b mL ret ∈ x_G ∧ (y.cls = C ∧ y.cls ≠ "java/lang/invoke/MethodHandle" ∧ y.cls ≠ "java/lang/invoke/VarHandle" ∧ (parseMethodDescriptor y.desc).map (fun d => d.parameters.length) = some n)
set_option maxRecDepth 20000 in
abbrev zX0_init : List Cond := .code yX0_init cX0_init 1 none :: x_G
set_option maxRecDepth 20000 in
theorem kwX0_add : x_KV RX0 yX0_add cX0_add 2 none 1 := ⟨mk1_231, mk1_232, mk1_2, mk1_233, by decide +kernel⟩
set_option maxRecDepth 20000 in
abbrev zX0_add : List Cond := .code yX0_add cX0_add 2 none :: x_G
set_option maxRecDepth 20000 in
abbrev zX1_init : List Cond := .code yX1_init cX1_init 1 none :: x_G
set_option maxRecDepth 20000 in
theorem kwX1_renew : x_KV RX1 yX1_renew cX1_renew 2 none 0 := ⟨mk2_88, mk2_89, mk1_4, mk2_90, by decide +kernel⟩
set_option maxRecDepth 20000 in
abbrev zX1_renew : List Cond := .code yX1_renew cX1_renew 2 none :: x_G
set_option maxRecDepth 20000 in
theorem kwX1_readApplications : x_KV RX1 yX1_readApplications cX1_readApplications 5 none 2 := ⟨mk2_93, mk2_94, mk1_4, mk2_95, by decide +kernel⟩
set_option maxRecDepth 20000 in
abbrev zX1_readApplications : List Cond := .code yX1_readApplications cX1_readApplications 5 none :: x_G
set_option maxRecDepth 20000 in
theorem kwX1_indicatorIn : x_KV RX1 yX1_indicatorIn cX1_indicatorIn 5 (some .int) 3 := ⟨mk2_99, mkp_7, mk1_4, mk2_100, by decide +kernel⟩
set_option maxRecDepth 20000 in
abbrev zX1_indicatorIn : List Cond := .code yX1_indicatorIn cX1_indicatorIn 5 (some .int) :: x_G
set_option maxRecDepth 20000 in
theorem kwX1_hasApplication : x_KV RX1 yX1_hasApplication cX1_hasApplication 2 (some .boolean) 1 := ⟨mk2_117, mk2_118, mk1_4, mk2_119, by decide +kernel⟩
set_option maxRecDepth 20000 in
abbrev zX1_hasApplication : List Cond := .code yX1_hasApplication cX1_hasApplication 2 (some .boolean) :: x_G
set_option maxRecDepth 20000 in
theorem kwX1_priority : x_KV RX1 yX1_priority cX1_priority 2 (some .int) 1 := ⟨mk2_121, mk2_122, mk1_4, mk2_123, by decide +kernel⟩
set_option maxRecDepth 20000 in
abbrev zX1_priority : List Cond := .code yX1_priority cX1_priority 2 (some .int) :: x_G
set_option maxRecDepth 20000 in
theorem kwX1_needsConfirmation : x_KV RX1 yX1_needsConfirmation cX1_needsConfirmation 2 (some .boolean) 1 := ⟨mk2_226, mk2_227, mk1_4, mk2_228, by decide +kernel⟩
set_option maxRecDepth 20000 in
abbrev zX1_needsConfirmation : List Cond := .code yX1_needsConfirmation cX1_needsConfirmation 2 (some .boolean) :: x_G
set_option maxRecDepth 20000 in
theorem kwX1_comesBefore : x_KV RX1 yX1_comesBefore cX1_comesBefore 5 (some .boolean) 2 := ⟨mk2_213, mk2_214, mk1_4, mk2_215, by decide +kernel⟩
set_option maxRecDepth 20000 in
abbrev zX1_comesBefore : List Cond := .code yX1_comesBefore cX1_comesBefore 5 (some .boolean) :: x_G
set_option maxRecDepth 20000 in
theorem kwX1_rank : x_KV RX1 yX1_rank cX1_rank 3 (some .int) 1 := ⟨mk2_218, mkp_12, mk1_4, mk2_219, by decide +kernel⟩
set_option maxRecDepth 20000 in
abbrev zX1_rank : List Cond := .code yX1_rank cX1_rank 3 (some .int) :: x_G
set_option maxRecDepth 20000 in
theorem kwX1_countOffline : x_KV RX1 yX1_countOffline cX1_countOffline 1 none 0 := ⟨mk3_23, mk3_24, mk1_4, mk3_25, by decide +kernel⟩
set_option maxRecDepth 20000 in
abbrev zX1_countOffline : List Cond := .code yX1_countOffline cX1_countOffline 1 none :: x_G
set_option maxRecDepth 20000 in
theorem kwX1_passOnline : x_KV RX1 yX1_passOnline cX1_passOnline 1 none 0 := ⟨mk3_31, mk3_32, mk1_4, mk3_33, by decide +kernel⟩
set_option maxRecDepth 20000 in
abbrev zX1_passOnline : List Cond := .code yX1_passOnline cX1_passOnline 1 none :: x_G
set_option maxRecDepth 20000 in
abbrev zX2_init : List Cond := .code yX2_init cX2_init 1 none :: x_G
set_option maxRecDepth 20000 in
theorem kwX2_isBroken : x_KV RX2 yX2_isBroken cX2_isBroken 1 (some .boolean) 0 := ⟨mk2_34, mk2_35, mk1_3, mk2_36, by decide +kernel⟩
set_option maxRecDepth 20000 in
abbrev zX2_isBroken : List Cond := .code yX2_isBroken cX2_isBroken 1 (some .boolean) :: x_G
set_option maxRecDepth 20000 in
theorem kwX2_read : x_KV RX2 yX2_read cX2_read 6 none 1 := ⟨mk2_6, mk2_7, mk1_3, mk2_8, by decide +kernel⟩
set_option maxRecDepth 20000 in
abbrev zX2_read : List Cond := .code yX2_read cX2_read 6 none :: x_G
set_option maxRecDepth 20000 in
theorem kwX2_stillOpen : x_KV RX2 yX2_stillOpen cX2_stillOpen 4 (some .int) 1 := ⟨mk2_11, mkp_0, mk1_3, mk2_12, by decide +kernel⟩
set_option maxRecDepth 20000 in
abbrev zX2_stillOpen : List Cond := .code yX2_stillOpen cX2_stillOpen 4 (some .int) :: x_G
set_option maxRecDepth 20000 in
theorem kwX2_valueEnd : x_KV RX2 yX2_valueEnd cX2_valueEnd 2 (some .int) 1 := ⟨mk2_15, mkp_1, mk1_3, mk2_16, by decide +kernel⟩
set_option maxRecDepth 20000 in
abbrev zX2_valueEnd : List Cond := .code yX2_valueEnd cX2_valueEnd 2 (some .int) :: x_G
set_option maxRecDepth 20000 in
theorem kwX2_readTag : x_KV RX2 yX2_readTag cX2_readTag 5 (some .boolean) 2 := ⟨mk2_22, mkp_2, mk1_3, mk2_23, by decide +kernel⟩
set_option maxRecDepth 20000 in
abbrev zX2_readTag : List Cond := .code yX2_readTag cX2_readTag 5 (some .boolean) :: x_G
set_option maxRecDepth 20000 in
theorem kwX2_readLength : x_KV RX2 yX2_readLength cX2_readLength 5 (some .boolean) 2 := ⟨mk2_31, mkp_4, mk1_3, mk2_32, by decide +kernel⟩
set_option maxRecDepth 20000 in
abbrev zX2_readLength : List Cond := .code yX2_readLength cX2_readLength 5 (some .boolean) :: x_G
set_option maxRecDepth 20000 in
theorem kwX2_breakAt : x_KV RX2 yX2_breakAt cX2_breakAt 2 (some .boolean) 1 := ⟨mk2_26, mkp_3, mk1_3, mk2_27, by decide +kernel⟩
set_option maxRecDepth 20000 in
abbrev zX2_breakAt : List Cond := .code yX2_breakAt cX2_breakAt 2 (some .boolean) :: x_G
set_option maxRecDepth 20000 in
theorem kwX2_firstWithTag : x_KV RX2 yX2_firstWithTag cX2_firstWithTag 4 (some .int) 2 := ⟨mk2_63, mk2_64, mk1_3, mk2_65, by decide +kernel⟩
set_option maxRecDepth 20000 in
abbrev zX2_firstWithTag : List Cond := .code yX2_firstWithTag cX2_firstWithTag 4 (some .int) :: x_G
set_option maxRecDepth 20000 in
theorem kwX2_applicationCount : x_KV RX2 yX2_applicationCount cX2_applicationCount 3 (some .int) 0 := ⟨mk2_76, mk2_77, mk1_3, mk2_78, by decide +kernel⟩
set_option maxRecDepth 20000 in
abbrev zX2_applicationCount : List Cond := .code yX2_applicationCount cX2_applicationCount 3 (some .int) :: x_G
set_option maxRecDepth 20000 in
theorem kwX2_identifierIn : x_KV RX2 yX2_identifierIn cX2_identifierIn 4 (some .int) 1 := ⟨mk2_80, mk2_81, mk1_3, mk2_82, by decide +kernel⟩
set_option maxRecDepth 20000 in
abbrev zX2_identifierIn : List Cond := .code yX2_identifierIn cX2_identifierIn 4 (some .int) :: x_G
set_option maxRecDepth 20000 in
theorem kwX2_priorityIn : x_KV RX2 yX2_priorityIn cX2_priorityIn 2 (some .int) 1 := ⟨mk2_102, mk2_103, mk1_3, mk2_104, by decide +kernel⟩
set_option maxRecDepth 20000 in
abbrev zX2_priorityIn : List Cond := .code yX2_priorityIn cX2_priorityIn 2 (some .int) :: x_G
set_option maxRecDepth 20000 in
theorem kwX2_childFrom : x_KV RX2 yX2_childFrom cX2_childFrom 8 (some .int) 5 := ⟨mk2_85, mkp_6, mk1_3, mk2_86, by decide +kernel⟩
set_option maxRecDepth 20000 in
abbrev zX2_childFrom : List Cond := .code yX2_childFrom cX2_childFrom 8 (some .int) :: x_G
set_option maxRecDepth 20000 in
abbrev zX3_init : List Cond := .code yX3_init cX3_init 1 none :: x_G
set_option maxRecDepth 20000 in
theorem kwX3_add : x_KV RX3 yX3_add cX3_add 5 none 3 := ⟨mk2_107, mk2_108, mk1_5, mk2_109, by decide +kernel⟩
set_option maxRecDepth 20000 in
abbrev zX3_add : List Cond := .code yX3_add cX3_add 5 none :: x_G
set_option maxRecDepth 20000 in
theorem kwX3_drop : x_KV RX3 yX3_drop cX3_drop 3 none 1 := ⟨mk2_152, mk2_153, mk1_5, mk2_154, by decide +kernel⟩
set_option maxRecDepth 20000 in
abbrev zX3_drop : List Cond := .code yX3_drop cX3_drop 3 none :: x_G
set_option maxRecDepth 20000 in
theorem kwX3_copyDown : x_KV RX3 yX3_copyDown cX3_copyDown 3 none 1 := ⟨mk2_157, mkp_8, mk1_5, mk2_158, by decide +kernel⟩
set_option maxRecDepth 20000 in
abbrev zX3_copyDown : List Cond := .code yX3_copyDown cX3_copyDown 3 none :: x_G
set_option maxRecDepth 20000 in
theorem kwX3_valueAt : x_KV RX3 yX3_valueAt cX3_valueAt 3 (some .int) 2 := ⟨mk2_160, mk2_161, mk1_5, mk2_162, by decide +kernel⟩
set_option maxRecDepth 20000 in
abbrev zX3_valueAt : List Cond := .code yX3_valueAt cX3_valueAt 3 (some .int) :: x_G
set_option maxRecDepth 20000 in
theorem kwX3_beginsWith : x_KV RX3 yX3_beginsWith cX3_beginsWith 6 (some .boolean) 3 := ⟨mk2_197, mk2_198, mk1_5, mk2_199, by decide +kernel⟩
set_option maxRecDepth 20000 in
abbrev zX3_beginsWith : List Cond := .code yX3_beginsWith cX3_beginsWith 6 (some .boolean) :: x_G
set_option maxRecDepth 20000 in
abbrev zX4_init : List Cond := .code yX4_init cX4_init 1 none :: x_G
set_option maxRecDepth 20000 in
theorem kwX4_add : x_KV RX4 yX4_add cX4_add 2 none 1 := ⟨mk3_35, mk3_36, mk1_8, mk3_37, by decide +kernel⟩
set_option maxRecDepth 20000 in
abbrev zX4_add : List Cond := .code yX4_add cX4_add 2 none :: x_G
set_option maxRecDepth 20000 in
theorem kwX4_first : x_KV RX4 yX4_first cX4_first 1 (some .int) 0 := ⟨mk3_48, mk3_49, mk1_8, mk3_50, by decide +kernel⟩
set_option maxRecDepth 20000 in
abbrev zX4_first : List Cond := .code yX4_first cX4_first 1 (some .int) :: x_G
set_option maxRecDepth 20000 in
theorem kwX4_dropFirst : x_KV RX4 yX4_dropFirst cX4_dropFirst 2 none 0 := ⟨mk3_53, mk3_54, mk1_8, mk3_55, by decide +kernel⟩
set_option maxRecDepth 20000 in
abbrev zX4_dropFirst : List Cond := .code yX4_dropFirst cX4_dropFirst 2 none :: x_G
set_option maxRecDepth 20000 in
abbrev zX5_init : List Cond := .code yX5_init cX5_init 1 none :: x_G
set_option maxRecDepth 20000 in
theorem kwX5_support : x_KV RX5 yX5_support cX5_support 3 none 2 := ⟨mk2_137, mk2_138, mk1_6, mk2_139, by decide +kernel⟩
set_option maxRecDepth 20000 in
abbrev zX5_support : List Cond := .code yX5_support cX5_support 3 none :: x_G
set_option maxRecDepth 20000 in
theorem kwX5_dropSupport : x_KV RX5 yX5_dropSupport cX5_dropSupport 3 none 1 := ⟨mk2_147, mk2_148, mk1_6, mk2_149, by decide +kernel⟩
set_option maxRecDepth 20000 in
abbrev zX5_dropSupport : List Cond := .code yX5_dropSupport cX5_dropSupport 3 none :: x_G
set_option maxRecDepth 20000 in
theorem kwX5_supports : x_KV RX5 yX5_supports cX5_supports 4 (some .boolean) 2 := ⟨mk2_193, mk2_194, mk1_6, mk2_195, by decide +kernel⟩
set_option maxRecDepth 20000 in
abbrev zX5_supports : List Cond := .code yX5_supports cX5_supports 4 (some .boolean) :: x_G
set_option maxRecDepth 20000 in
theorem kwX5_sameLength : x_KV RX5 yX5_sameLength cX5_sameLength 4 (some .boolean) 3 := ⟨mk2_202, mkp_10, mk1_6, mk2_203, by decide +kernel⟩
set_option maxRecDepth 20000 in
abbrev zX5_sameLength : List Cond := .code yX5_sameLength cX5_sameLength 4 (some .boolean) :: x_G
set_option maxRecDepth 20000 in
abbrev zX6_init : List Cond := .code yX6_init cX6_init 1 none :: x_G
set_option maxRecDepth 20000 in
theorem kwX6_isPending : x_KV RX6 yX6_isPending cX6_isPending 1 (some .boolean) 0 := ⟨mk2_71, mk2_72, mk1_7, mk2_73, by decide +kernel⟩
set_option maxRecDepth 20000 in
abbrev zX6_isPending : List Cond := .code yX6_isPending cX6_isPending 1 (some .boolean) :: x_G
set_option maxRecDepth 20000 in
theorem kwX6_open : x_KV RX6 yX6_open cX6_open 4 none 3 := ⟨mk3_10, mk3_11, mk1_7, mk3_12, by decide +kernel⟩
set_option maxRecDepth 20000 in
abbrev zX6_open : List Cond := .code yX6_open cX6_open 4 none :: x_G
set_option maxRecDepth 20000 in
theorem kwX6_settle : x_KV RX6 yX6_settle cX6_settle 2 none 1 := ⟨mk3_40, mk3_41, mk1_7, mk3_42, by decide +kernel⟩
set_option maxRecDepth 20000 in
abbrev zX6_settle : List Cond := .code yX6_settle cX6_settle 2 none :: x_G
set_option maxRecDepth 20000 in
theorem kwX6_book : x_KV RX6 yX6_book cX6_book 4 none 3 := ⟨mk3_15, mkp_17, mk1_7, mk3_16, by decide +kernel⟩
set_option maxRecDepth 20000 in
abbrev zX6_book : List Cond := .code yX6_book cX6_book 4 none :: x_G
set_option maxRecDepth 20000 in
abbrev zX7_init : List Cond := .code yX7_init cX7_init 1 none :: x_G
set_option maxRecDepth 20000 in
theorem kwX7_appendByte : x_KV RX7 yX7_appendByte cX7_appendByte 2 (some .int) 1 := ⟨mk1_227, mk1_228, mk1_1, mk1_229, by decide +kernel⟩
set_option maxRecDepth 20000 in
abbrev zX7_appendByte : List Cond := .code yX7_appendByte cX7_appendByte 2 (some .int) :: x_G
set_option maxRecDepth 20000 in
theorem kwX7_clearBytes : x_KV RX7 yX7_clearBytes cX7_clearBytes 2 (some .int) 0 := ⟨mk1_238, mk1_239, mk1_1, mk2_0, by decide +kernel⟩
set_option maxRecDepth 20000 in
abbrev zX7_clearBytes : List Cond := .code yX7_clearBytes cX7_clearBytes 2 (some .int) :: x_G
set_option maxRecDepth 20000 in
theorem kwX7_errorOffset : x_KV RX7 yX7_errorOffset cX7_errorOffset 1 (some .int) 0 := ⟨mk2_2, mk2_3, mk1_1, mk2_4, by decide +kernel⟩
set_option maxRecDepth 20000 in
abbrev zX7_errorOffset : List Cond := .code yX7_errorOffset cX7_errorOffset 1 (some .int) :: x_G
set_option maxRecDepth 20000 in
theorem kwX7_objectCount : x_KV RX7 yX7_objectCount cX7_objectCount 1 (some .int) 0 := ⟨mk2_38, mk2_39, mk1_1, mk2_40, by decide +kernel⟩
set_option maxRecDepth 20000 in
abbrev zX7_objectCount : List Cond := .code yX7_objectCount cX7_objectCount 1 (some .int) :: x_G
set_option maxRecDepth 20000 in
theorem kwX7_objectTag : x_KV RX7 yX7_objectTag cX7_objectTag 3 (some .int) 1 := ⟨mk2_42, mk2_43, mk1_1, mk2_44, by decide +kernel⟩
set_option maxRecDepth 20000 in
abbrev zX7_objectTag : List Cond := .code yX7_objectTag cX7_objectTag 3 (some .int) :: x_G
set_option maxRecDepth 20000 in
theorem kwX7_objectDepth : x_KV RX7 yX7_objectDepth cX7_objectDepth 3 (some .int) 1 := ⟨mk2_51, mk2_52, mk1_1, mk2_53, by decide +kernel⟩
set_option maxRecDepth 20000 in
abbrev zX7_objectDepth : List Cond := .code yX7_objectDepth cX7_objectDepth 3 (some .int) :: x_G
set_option maxRecDepth 20000 in
theorem kwX7_objectLength : x_KV RX7 yX7_objectLength cX7_objectLength 3 (some .int) 1 := ⟨mk2_55, mk2_56, mk1_1, mk2_57, by decide +kernel⟩
set_option maxRecDepth 20000 in
abbrev zX7_objectLength : List Cond := .code yX7_objectLength cX7_objectLength 3 (some .int) :: x_G
set_option maxRecDepth 20000 in
theorem kwX7_findObject : x_KV RX7 yX7_findObject cX7_findObject 4 (some .int) 2 := ⟨mk2_59, mk2_60, mk1_1, mk2_61, by decide +kernel⟩
set_option maxRecDepth 20000 in
abbrev zX7_findObject : List Cond := .code yX7_findObject cX7_findObject 4 (some .int) :: x_G
set_option maxRecDepth 20000 in
theorem kwX7_objectError : x_KV RX7 yX7_objectError cX7_objectError 2 (some .int) 1 := ⟨mk2_47, mkp_5, mk1_1, mk2_48, by decide +kernel⟩
set_option maxRecDepth 20000 in
abbrev zX7_objectError : List Cond := .code yX7_objectError cX7_objectError 2 (some .int) :: x_G
set_option maxRecDepth 20000 in
theorem kwX7_insertCard : x_KV RX7 yX7_insertCard cX7_insertCard 1 (some .int) 0 := ⟨mk2_67, mk2_68, mk1_1, mk2_69, by decide +kernel⟩
set_option maxRecDepth 20000 in
abbrev zX7_insertCard : List Cond := .code yX7_insertCard cX7_insertCard 1 (some .int) :: x_G
set_option maxRecDepth 20000 in
theorem kwX7_priorityOf : x_KV RX7 yX7_priorityOf cX7_priorityOf 2 (some .int) 1 := ⟨mk2_113, mk2_114, mk1_1, mk2_115, by decide +kernel⟩
set_option maxRecDepth 20000 in
abbrev zX7_priorityOf : List Cond := .code yX7_priorityOf cX7_priorityOf 2 (some .int) :: x_G
set_option maxRecDepth 20000 in
theorem kwX7_setIssuerCode : x_KV RX7 yX7_setIssuerCode cX7_setIssuerCode 3 (some .int) 2 := ⟨mk2_125, mk2_126, mk1_1, mk2_127, by decide +kernel⟩
set_option maxRecDepth 20000 in
abbrev zX7_setIssuerCode : List Cond := .code yX7_setIssuerCode cX7_setIssuerCode 3 (some .int) :: x_G
set_option maxRecDepth 20000 in
theorem kwX7_addIdentifier : x_KV RX7 yX7_addIdentifier cX7_addIdentifier 2 (some .int) 1 := ⟨mk2_133, mk2_134, mk1_1, mk2_135, by decide +kernel⟩
set_option maxRecDepth 20000 in
abbrev zX7_addIdentifier : List Cond := .code yX7_addIdentifier cX7_addIdentifier 2 (some .int) :: x_G
set_option maxRecDepth 20000 in
theorem kwX7_removeIdentifier : x_KV RX7 yX7_removeIdentifier cX7_removeIdentifier 2 (some .int) 1 := ⟨mk2_143, mk2_144, mk1_1, mk2_145, by decide +kernel⟩
set_option maxRecDepth 20000 in
abbrev zX7_removeIdentifier : List Cond := .code yX7_removeIdentifier cX7_removeIdentifier 2 (some .int) :: x_G
set_option maxRecDepth 20000 in
theorem kwX7_setTerminalCode : x_KV RX7 yX7_setTerminalCode cX7_setTerminalCode 3 (some .int) 2 := ⟨mk2_164, mk2_165, mk1_1, mk2_166, by decide +kernel⟩
set_option maxRecDepth 20000 in
abbrev zX7_setTerminalCode : List Cond := .code yX7_setTerminalCode cX7_setTerminalCode 3 (some .int) :: x_G
set_option maxRecDepth 20000 in
theorem kwX7_setFloorLimit : x_KV RX7 yX7_setFloorLimit cX7_setFloorLimit 3 (some .int) 1 := ⟨mk2_168, mk2_169, mk1_1, mk2_170, by decide +kernel⟩
set_option maxRecDepth 20000 in
abbrev zX7_setFloorLimit : List Cond := .code yX7_setFloorLimit cX7_setFloorLimit 3 (some .int) :: x_G
set_option maxRecDepth 20000 in
theorem kwX7_setOfflineLimits : x_KV RX7 yX7_setOfflineLimits cX7_setOfflineLimits 4 (some .int) 2 := ⟨mk2_173, mk2_174, mk1_1, mk2_175, by decide +kernel⟩
set_option maxRecDepth 20000 in
abbrev zX7_setOfflineLimits : List Cond := .code yX7_setOfflineLimits cX7_setOfflineLimits 4 (some .int) :: x_G
set_option maxRecDepth 20000 in
theorem kwX7_setRandomTarget : x_KV RX7 yX7_setRandomTarget cX7_setRandomTarget 3 (some .int) 1 := ⟨mk2_177, mk2_178, mk1_1, mk2_179, by decide +kernel⟩
set_option maxRecDepth 20000 in
abbrev zX7_setRandomTarget : List Cond := .code yX7_setRandomTarget cX7_setRandomTarget 3 (some .int) :: x_G
set_option maxRecDepth 20000 in
theorem kwX7_setOnline : x_KV RX7 yX7_setOnline cX7_setOnline 3 (some .int) 1 := ⟨mk2_181, mk2_182, mk1_1, mk2_183, by decide +kernel⟩
set_option maxRecDepth 20000 in
abbrev zX7_setOnline : List Cond := .code yX7_setOnline cX7_setOnline 3 (some .int) :: x_G
set_option maxRecDepth 20000 in
theorem kwX7_replaceCode : x_KS RX7 yX7_replaceCode cX7_replaceCode 4 (some .int) 3 := ⟨mk2_129, mk1_1, mk2_130, by decide +kernel⟩
set_option maxRecDepth 20000 in
abbrev zX7_replaceCode : List Cond := .code yX7_replaceCode cX7_replaceCode 4 (some .int) :: x_G
set_option maxRecDepth 20000 in
theorem kwX7_candidateCount : x_KV RX7 yX7_candidateCount cX7_candidateCount 3 (some .int) 0 := ⟨mk2_185, mk2_186, mk1_1, mk2_187, by decide +kernel⟩
set_option maxRecDepth 20000 in
abbrev zX7_candidateCount : List Cond := .code yX7_candidateCount cX7_candidateCount 3 (some .int) :: x_G
set_option maxRecDepth 20000 in
theorem kwX7_candidateAt : x_KV RX7 yX7_candidateAt cX7_candidateAt 3 (some .int) 1 := ⟨mk2_205, mk2_206, mk1_1, mk2_207, by decide +kernel⟩
set_option maxRecDepth 20000 in
abbrev zX7_candidateAt : List Cond := .code yX7_candidateAt cX7_candidateAt 3 (some .int) :: x_G
set_option maxRecDepth 20000 in
theorem kwX7_select : x_KV RX7 yX7_select cX7_select 3 (some .int) 2 := ⟨mk2_222, mk2_223, mk1_1, mk2_224, by decide +kernel⟩
set_option maxRecDepth 20000 in
abbrev zX7_select : List Cond := .code yX7_select cX7_select 3 (some .int) :: x_G
set_option maxRecDepth 20000 in
theorem kwX7_isCandidate : x_KV RX7 yX7_isCandidate cX7_isCandidate 2 (some .boolean) 1 := ⟨mk2_190, mkp_9, mk1_1, mk2_191, by decide +kernel⟩
set_option maxRecDepth 20000 in
abbrev zX7_isCandidate : List Cond := .code yX7_isCandidate cX7_isCandidate 2 (some .boolean) :: x_G
set_option maxRecDepth 20000 in
theorem kwX7_candidatesBefore : x_KV RX7 yX7_candidatesBefore cX7_candidatesBefore 4 (some .int) 1 := ⟨mk2_210, mkp_11, mk1_1, mk2_211, by decide +kernel⟩
set_option maxRecDepth 20000 in
abbrev zX7_candidatesBefore : List Cond := .code yX7_candidatesBefore cX7_candidatesBefore 4 (some .int) :: x_G
set_option maxRecDepth 20000 in
theorem kwX7_start : x_KV RX7 yX7_start cX7_start 5 (some .int) 2 := ⟨mk2_230, mk2_231, mk1_1, mk2_232, by decide +kernel⟩
set_option maxRecDepth 20000 in
abbrev zX7_start : List Cond := .code yX7_start cX7_start 5 (some .int) :: x_G
set_option maxRecDepth 20000 in
theorem kwX7_answer : x_KV RX7 yX7_answer cX7_answer 3 (some .int) 1 := ⟨mk3_27, mk3_28, mk1_1, mk3_29, by decide +kernel⟩
set_option maxRecDepth 20000 in
abbrev zX7_answer : List Cond := .code yX7_answer cX7_answer 3 (some .int) :: x_G
set_option maxRecDepth 20000 in
theorem kwX7_sendReversal : x_KV RX7 yX7_sendReversal cX7_sendReversal 3 (some .int) 1 := ⟨mk3_44, mk3_45, mk1_1, mk3_46, by decide +kernel⟩
set_option maxRecDepth 20000 in
abbrev zX7_sendReversal : List Cond := .code yX7_sendReversal cX7_sendReversal 3 (some .int) :: x_G
set_option maxRecDepth 20000 in
theorem kwX7_reversalCount : x_KV RX7 yX7_reversalCount cX7_reversalCount 1 (some .int) 0 := ⟨mk3_57, mk3_58, mk1_1, mk3_59, by decide +kernel⟩
set_option maxRecDepth 20000 in
abbrev zX7_reversalCount : List Cond := .code yX7_reversalCount cX7_reversalCount 1 (some .int) :: x_G
set_option maxRecDepth 20000 in
theorem kwX7_verificationResults : x_KV RX7 yX7_verificationResults cX7_verificationResults 1 (some .int) 0 := ⟨mk3_61, mk3_62, mk1_1, mk3_63, by decide +kernel⟩
set_option maxRecDepth 20000 in
abbrev zX7_verificationResults : List Cond := .code yX7_verificationResults cX7_verificationResults 1 (some .int) :: x_G
set_option maxRecDepth 20000 in
theorem kwX7_outcomeCount : x_KV RX7 yX7_outcomeCount cX7_outcomeCount 2 (some .int) 1 := ⟨mk3_65, mk3_66, mk1_1, mk3_67, by decide +kernel⟩
set_option maxRecDepth 20000 in
abbrev zX7_outcomeCount : List Cond := .code yX7_outcomeCount cX7_outcomeCount 2 (some .int) :: x_G
set_option maxRecDepth 20000 in
theorem kwX7_outcomeAmount : x_KV RX7 yX7_outcomeAmount cX7_outcomeAmount 2 (some .int) 1 := ⟨mk3_72, mk3_73, mk1_1, mk3_74, by decide +kernel⟩
set_option maxRecDepth 20000 in
abbrev zX7_outcomeAmount : List Cond := .code yX7_outcomeAmount cX7_outcomeAmount 2 (some .int) :: x_G
set_option maxRecDepth 20000 in
theorem kwX7_offlineCounter : x_KV RX7 yX7_offlineCounter cX7_offlineCounter 1 (some .int) 0 := ⟨mk3_76, mk3_77, mk1_1, mk3_78, by decide +kernel⟩
set_option maxRecDepth 20000 in
abbrev zX7_offlineCounter : List Cond := .code yX7_offlineCounter cX7_offlineCounter 1 (some .int) :: x_G
set_option maxRecDepth 20000 in
theorem kwX7_isOutcome : x_KS RX7 yX7_isOutcome cX7_isOutcome 1 (some .boolean) 1 := ⟨mk3_69, mk1_1, mk3_70, by decide +kernel⟩
set_option maxRecDepth 20000 in
abbrev zX7_isOutcome : List Cond := .code yX7_isOutcome cX7_isOutcome 1 (some .boolean) :: x_G
set_option maxRecDepth 20000 in
theorem kwX7_verify : x_KV RX7 yX7_verify cX7_verify 4 (some .int) 2 := ⟨mk2_235, mkp_13, mk1_1, mk2_236, by decide +kernel⟩
set_option maxRecDepth 20000 in
abbrev zX7_verify : List Cond := .code yX7_verify cX7_verify 4 (some .int) :: x_G
set_option maxRecDepth 20000 in
theorem kwX7_decide : x_KV RX7 yX7_decide cX7_decide 2 (some .int) 1 := ⟨mk2_239, mkp_14, mk1_1, mk3_0, by decide +kernel⟩
set_option maxRecDepth 20000 in
abbrev zX7_decide : List Cond := .code yX7_decide cX7_decide 2 (some .int) :: x_G
set_option maxRecDepth 20000 in
theorem kwX7_decideWithoutHost : x_KV RX7 yX7_decideWithoutHost cX7_decideWithoutHost 2 (some .int) 1 := ⟨mk3_7, mkp_16, mk1_1, mk3_8, by decide +kernel⟩
set_option maxRecDepth 20000 in
abbrev zX7_decideWithoutHost : List Cond := .code yX7_decideWithoutHost cX7_decideWithoutHost 2 (some .int) :: x_G
set_option maxRecDepth 20000 in
theorem kwX7_isHitBy : x_KV RX7 yX7_isHitBy cX7_isHitBy 4 (some .boolean) 2 := ⟨mk3_3, mkp_15, mk1_1, mk3_4, by decide +kernel⟩
set_option maxRecDepth 20000 in
abbrev zX7_isHitBy : List Cond := .code yX7_isHitBy cX7_isHitBy 4 (some .boolean) :: x_G
set_option maxRecDepth 20000 in
theorem kwX7_countIfOffline : x_KV RX7 yX7_countIfOffline cX7_countIfOffline 2 none 1 := ⟨mk3_20, mkp_18, mk1_1, mk3_21, by decide +kernel⟩
set_option maxRecDepth 20000 in
abbrev zX7_countIfOffline : List Cond := .code yX7_countIfOffline cX7_countIfOffline 2 none :: x_G
set_option maxRecDepth 20000 in
theorem kwX7_at : x_KS RX7 yX7_at cX7_at 2 (some .int) 2 := ⟨mk2_18, mk1_1, mk2_19, by decide +kernel⟩
set_option maxRecDepth 20000 in
abbrev zX7_at : List Cond := .code yX7_at cX7_at 2 (some .int) :: x_G
set_option maxRecDepth 20000 in
theorem kwX7_put : x_KS RX7 yX7_put cX7_put 3 none 3 := ⟨mk1_235, mk1_1, mk1_236, by decide +kernel⟩
set_option maxRecDepth 20000 in
abbrev zX7_put : List Cond := .code yX7_put cX7_put 3 none :: x_G
set_option maxRecDepth 20000 in
abbrev zX8_init : List Cond := .code yX8_init cX8_init 1 none :: x_G
set_option maxRecDepth 20000 in
theorem kwX8_in : x_KS RX8 yX8_in cX8_in 3 (some .boolean) 3 := ⟨mk3_202, mk1_9, mk3_203, by decide +kernel⟩
set_option maxRecDepth 20000 in
abbrev zX8_in : List Cond := .code yX8_in cX8_in 3 (some .boolean) :: x_G
set_option maxRecDepth 20000 in
theorem kwX8_appendByte : x_KV RX8 yX8_appendByte cX8_appendByte 2 (some .int) 1 := ⟨mk3_198, mk3_199, mk1_9, mk3_200, by decide +kernel⟩
set_option maxRecDepth 20000 in
abbrev zX8_appendByte : List Cond := .code yX8_appendByte cX8_appendByte 2 (some .int) :: x_G
set_option maxRecDepth 20000 in
theorem kwX8_clearBytes : x_KV RX8 yX8_clearBytes cX8_clearBytes 2 (some .int) 0 := ⟨mk3_205, mk3_206, mk1_9, mk3_207, by decide +kernel⟩
set_option maxRecDepth 20000 in
abbrev zX8_clearBytes : List Cond := .code yX8_clearBytes cX8_clearBytes 2 (some .int) :: x_G
set_option maxRecDepth 20000 in
theorem kwX8_reads : x_KV RX8 yX8_reads cX8_reads 9 (some .int) 0 := ⟨mk3_214, mkp_19, mk1_9, mk3_215, by decide +kernel⟩
set_option maxRecDepth 20000 in
abbrev zX8_reads : List Cond := .code yX8_reads cX8_reads 9 (some .int) :: x_G
set_option maxRecDepth 20000 in
theorem kwX8_errorOffset : x_KV RX8 yX8_errorOffset cX8_errorOffset 1 (some .int) 0 := ⟨mk3_209, mk3_210, mk1_9, mk3_211, by decide +kernel⟩
set_option maxRecDepth 20000 in
abbrev zX8_errorOffset : List Cond := .code yX8_errorOffset cX8_errorOffset 1 (some .int) :: x_G
set_option maxRecDepth 20000 in
theorem kwX8_objectCount : x_KV RX8 yX8_objectCount cX8_objectCount 1 (some .int) 0 := ⟨mk3_217, mk3_218, mk1_9, mk3_219, by decide +kernel⟩
set_option maxRecDepth 20000 in
abbrev zX8_objectCount : List Cond := .code yX8_objectCount cX8_objectCount 1 (some .int) :: x_G
set_option maxRecDepth 20000 in
theorem kwX8_errorOf : x_KV RX8 yX8_errorOf cX8_errorOf 2 (some .int) 1 := ⟨mk3_226, mkp_20, mk1_9, mk3_227, by decide +kernel⟩
set_option maxRecDepth 20000 in
abbrev zX8_errorOf : List Cond := .code yX8_errorOf cX8_errorOf 2 (some .int) :: x_G
set_option maxRecDepth 20000 in
theorem kwX8_objectTag : x_KV RX8 yX8_objectTag cX8_objectTag 3 (some .int) 1 := ⟨mk3_221, mk3_222, mk1_9, mk3_223, by decide +kernel⟩
set_option maxRecDepth 20000 in
abbrev zX8_objectTag : List Cond := .code yX8_objectTag cX8_objectTag 3 (some .int) :: x_G
set_option maxRecDepth 20000 in
theorem kwX8_objectDepth : x_KV RX8 yX8_objectDepth cX8_objectDepth 3 (some .int) 1 := ⟨mk3_229, mk3_230, mk1_9, mk3_231, by decide +kernel⟩
set_option maxRecDepth 20000 in
abbrev zX8_objectDepth : List Cond := .code yX8_objectDepth cX8_objectDepth 3 (some .int) :: x_G
set_option maxRecDepth 20000 in
theorem kwX8_objectLength : x_KV RX8 yX8_objectLength cX8_objectLength 3 (some .int) 1 := ⟨mk3_233, mk3_234, mk1_9, mk3_235, by decide +kernel⟩
set_option maxRecDepth 20000 in
abbrev zX8_objectLength : List Cond := .code yX8_objectLength cX8_objectLength 3 (some .int) :: x_G
set_option maxRecDepth 20000 in
theorem kwX8_findObject : x_KV RX8 yX8_findObject cX8_findObject 4 (some .int) 2 := ⟨mk3_237, mk3_238, mk1_9, mk3_239, by decide +kernel⟩
set_option maxRecDepth 20000 in
abbrev zX8_findObject : List Cond := .code yX8_findObject cX8_findObject 4 (some .int) :: x_G
set_option maxRecDepth 20000 in
theorem kwX8_nameOf : x_KV RX8 yX8_nameOf cX8_nameOf 6 (some .int) 1 := ⟨mk4_6, mkp_21, mk1_9, mk4_7, by decide +kernel⟩
set_option maxRecDepth 20000 in
abbrev zX8_nameOf : List Cond := .code yX8_nameOf cX8_nameOf 6 (some .int) :: x_G
set_option maxRecDepth 20000 in
theorem kwX8_priorityByte : x_KV RX8 yX8_priorityByte cX8_priorityByte 3 (some .int) 1 := ⟨mk4_10, mkp_22, mk1_9, mk4_11, by decide +kernel⟩
set_option maxRecDepth 20000 in
abbrev zX8_priorityByte : List Cond := .code yX8_priorityByte cX8_priorityByte 3 (some .int) :: x_G
set_option maxRecDepth 20000 in
theorem kwX8_insertCard : x_KV RX8 yX8_insertCard cX8_insertCard 5 (some .int) 0 := ⟨mk4_1, mk4_2, mk1_9, mk4_3, by decide +kernel⟩
set_option maxRecDepth 20000 in
abbrev zX8_insertCard : List Cond := .code yX8_insertCard cX8_insertCard 5 (some .int) :: x_G
set_option maxRecDepth 20000 in
theorem kwX8_isApplication : x_KV RX8 yX8_isApplication cX8_isApplication 2 (some .boolean) 1 := ⟨mk4_18, mkp_23, mk1_9, mk4_19, by decide +kernel⟩
set_option maxRecDepth 20000 in
abbrev zX8_isApplication : List Cond := .code yX8_isApplication cX8_isApplication 2 (some .boolean) :: x_G
set_option maxRecDepth 20000 in
theorem kwX8_priorityOf : x_KV RX8 yX8_priorityOf cX8_priorityOf 2 (some .int) 1 := ⟨mk4_13, mk4_14, mk1_9, mk4_15, by decide +kernel⟩
set_option maxRecDepth 20000 in
abbrev zX8_priorityOf : List Cond := .code yX8_priorityOf cX8_priorityOf 2 (some .int) :: x_G
set_option maxRecDepth 20000 in
theorem kwX8_setIssuerCode : x_KV RX8 yX8_setIssuerCode cX8_setIssuerCode 4 (some .int) 2 := ⟨mk4_21, mk4_22, mk1_9, mk4_23, by decide +kernel⟩
set_option maxRecDepth 20000 in
abbrev zX8_setIssuerCode : List Cond := .code yX8_setIssuerCode cX8_setIssuerCode 4 (some .int) :: x_G
set_option maxRecDepth 20000 in
theorem kwX8_addIdentifier : x_KV RX8 yX8_addIdentifier cX8_addIdentifier 3 (some .int) 1 := ⟨mk4_25, mk4_26, mk1_9, mk4_27, by decide +kernel⟩
set_option maxRecDepth 20000 in
abbrev zX8_addIdentifier : List Cond := .code yX8_addIdentifier cX8_addIdentifier 3 (some .int) :: x_G
set_option maxRecDepth 20000 in
theorem kwX8_removeIdentifier : x_KV RX8 yX8_removeIdentifier cX8_removeIdentifier 4 (some .int) 1 := ⟨mk4_29, mk4_30, mk1_9, mk4_31, by decide +kernel⟩
set_option maxRecDepth 20000 in
abbrev zX8_removeIdentifier : List Cond := .code yX8_removeIdentifier cX8_removeIdentifier 4 (some .int) :: x_G
set_option maxRecDepth 20000 in
theorem kwX8_setTerminalCode : x_KV RX8 yX8_setTerminalCode cX8_setTerminalCode 4 (some .int) 2 := ⟨mk4_33, mk4_34, mk1_9, mk4_35, by decide +kernel⟩
set_option maxRecDepth 20000 in
abbrev zX8_setTerminalCode : List Cond := .code yX8_setTerminalCode cX8_setTerminalCode 4 (some .int) :: x_G
set_option maxRecDepth 20000 in
theorem kwX8_setFloorLimit : x_KV RX8 yX8_setFloorLimit cX8_setFloorLimit 3 (some .int) 1 := ⟨mk4_37, mk4_38, mk1_9, mk4_39, by decide +kernel⟩
set_option maxRecDepth 20000 in
abbrev zX8_setFloorLimit : List Cond := .code yX8_setFloorLimit cX8_setFloorLimit 3 (some .int) :: x_G
set_option maxRecDepth 20000 in
theorem kwX8_setOfflineLimits : x_KV RX8 yX8_setOfflineLimits cX8_setOfflineLimits 4 (some .int) 2 := ⟨mk4_42, mk4_43, mk1_9, mk4_44, by decide +kernel⟩
set_option maxRecDepth 20000 in
abbrev zX8_setOfflineLimits : List Cond := .code yX8_setOfflineLimits cX8_setOfflineLimits 4 (some .int) :: x_G
set_option maxRecDepth 20000 in
theorem kwX8_setRandomTarget : x_KV RX8 yX8_setRandomTarget cX8_setRandomTarget 3 (some .int) 1 := ⟨mk4_46, mk4_47, mk1_9, mk4_48, by decide +kernel⟩
set_option maxRecDepth 20000 in
abbrev zX8_setRandomTarget : List Cond := .code yX8_setRandomTarget cX8_setRandomTarget 3 (some .int) :: x_G
set_option maxRecDepth 20000 in
theorem kwX8_setOnline : x_KV RX8 yX8_setOnline cX8_setOnline 3 (some .int) 1 := ⟨mk4_50, mk4_51, mk1_9, mk4_52, by decide +kernel⟩
set_option maxRecDepth 20000 in
abbrev zX8_setOnline : List Cond := .code yX8_setOnline cX8_setOnline 3 (some .int) :: x_G
set_option maxRecDepth 20000 in
theorem kwX8_isSupported : x_KV RX8 yX8_isSupported cX8_isSupported 5 (some .boolean) 1 := ⟨mk4_63, mkp_25, mk1_9, mk4_64, by decide +kernel⟩
set_option maxRecDepth 20000 in
abbrev zX8_isSupported : List Cond := .code yX8_isSupported cX8_isSupported 5 (some .boolean) :: x_G
set_option maxRecDepth 20000 in
theorem kwX8_lists : x_KV RX8 yX8_lists cX8_lists 3 none 0 := ⟨mk4_59, mkp_24, mk1_9, mk4_60, by decide +kernel⟩
set_option maxRecDepth 20000 in
abbrev zX8_lists : List Cond := .code yX8_lists cX8_lists 3 none :: x_G
set_option maxRecDepth 20000 in
theorem kwX8_candidateCount : x_KV RX8 yX8_candidateCount cX8_candidateCount 1 (some .int) 0 := ⟨mk4_54, mk4_55, mk1_9, mk4_56, by decide +kernel⟩
set_option maxRecDepth 20000 in
abbrev zX8_candidateCount : List Cond := .code yX8_candidateCount cX8_candidateCount 1 (some .int) :: x_G
set_option maxRecDepth 20000 in
theorem kwX8_candidateAt : x_KV RX8 yX8_candidateAt cX8_candidateAt 2 (some .int) 1 := ⟨mk4_66, mk4_67, mk1_9, mk4_68, by decide +kernel⟩
set_option maxRecDepth 20000 in
abbrev zX8_candidateAt : List Cond := .code yX8_candidateAt cX8_candidateAt 2 (some .int) :: x_G
set_option maxRecDepth 20000 in
theorem kwX8_select : x_KV RX8 yX8_select cX8_select 4 (some .int) 2 := ⟨mk4_70, mk4_71, mk1_9, mk4_72, by decide +kernel⟩
set_option maxRecDepth 20000 in
abbrev zX8_select : List Cond := .code yX8_select cX8_select 4 (some .int) :: x_G
set_option maxRecDepth 20000 in
theorem kwX8_ends : x_KV RX8 yX8_ends cX8_ends 2 (some .int) 1 := ⟨mk4_79, mkp_26, mk1_9, mk4_80, by decide +kernel⟩
set_option maxRecDepth 20000 in
abbrev zX8_ends : List Cond := .code yX8_ends cX8_ends 2 (some .int) :: x_G
set_option maxRecDepth 20000 in
theorem kwX8_byDefault : x_KV RX8 yX8_byDefault cX8_byDefault 1 (some .int) 0 := ⟨mk4_83, mkp_27, mk1_9, mk4_84, by decide +kernel⟩
set_option maxRecDepth 20000 in
abbrev zX8_byDefault : List Cond := .code yX8_byDefault cX8_byDefault 1 (some .int) :: x_G
set_option maxRecDepth 20000 in
theorem kwX8_start : x_KV RX8 yX8_start cX8_start 3 (some .int) 2 := ⟨mk4_74, mk4_75, mk1_9, mk4_76, by decide +kernel⟩
set_option maxRecDepth 20000 in
abbrev zX8_start : List Cond := .code yX8_start cX8_start 3 (some .int) :: x_G
set_option maxRecDepth 20000 in
theorem kwX8_answer : x_KV RX8 yX8_answer cX8_answer 2 (some .int) 1 := ⟨mk4_86, mk4_87, mk1_9, mk4_88, by decide +kernel⟩
set_option maxRecDepth 20000 in
abbrev zX8_answer : List Cond := .code yX8_answer cX8_answer 2 (some .int) :: x_G
set_option maxRecDepth 20000 in
theorem kwX8_sendReversal : x_KV RX8 yX8_sendReversal cX8_sendReversal 4 (some .int) 1 := ⟨mk4_90, mk4_91, mk1_9, mk4_92, by decide +kernel⟩
set_option maxRecDepth 20000 in
abbrev zX8_sendReversal : List Cond := .code yX8_sendReversal cX8_sendReversal 4 (some .int) :: x_G
set_option maxRecDepth 20000 in
theorem kwX8_reversalCount : x_KV RX8 yX8_reversalCount cX8_reversalCount 1 (some .int) 0 := ⟨mk4_94, mk4_95, mk1_9, mk4_96, by decide +kernel⟩
set_option maxRecDepth 20000 in
abbrev zX8_reversalCount : List Cond := .code yX8_reversalCount cX8_reversalCount 1 (some .int) :: x_G
set_option maxRecDepth 20000 in
theorem kwX8_verificationResults : x_KV RX8 yX8_verificationResults cX8_verificationResults 1 (some .int) 0 := ⟨mk4_98, mk4_99, mk1_9, mk4_100, by decide +kernel⟩
set_option maxRecDepth 20000 in
abbrev zX8_verificationResults : List Cond := .code yX8_verificationResults cX8_verificationResults 1 (some .int) :: x_G
set_option maxRecDepth 20000 in
theorem kwX8_outcomeCount : x_KV RX8 yX8_outcomeCount cX8_outcomeCount 2 (some .int) 1 := ⟨mk4_102, mk4_103, mk1_9, mk4_104, by decide +kernel⟩
set_option maxRecDepth 20000 in
abbrev zX8_outcomeCount : List Cond := .code yX8_outcomeCount cX8_outcomeCount 2 (some .int) :: x_G
set_option maxRecDepth 20000 in
theorem kwX8_outcomeAmount : x_KV RX8 yX8_outcomeAmount cX8_outcomeAmount 2 (some .int) 1 := ⟨mk4_106, mk4_107, mk1_9, mk4_108, by decide +kernel⟩
set_option maxRecDepth 20000 in
abbrev zX8_outcomeAmount : List Cond := .code yX8_outcomeAmount cX8_outcomeAmount 2 (some .int) :: x_G
set_option maxRecDepth 20000 in
theorem kwX8_offlineCounter : x_KV RX8 yX8_offlineCounter cX8_offlineCounter 1 (some .int) 0 := ⟨mk4_110, mk4_111, mk1_9, mk4_112, by decide +kernel⟩
set_option maxRecDepth 20000 in
abbrev zX8_offlineCounter : List Cond := .code yX8_offlineCounter cX8_offlineCounter 1 (some .int) :: x_G
