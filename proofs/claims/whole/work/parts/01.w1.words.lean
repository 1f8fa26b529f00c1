set_option maxRecDepth 20000 in
theorem mk2_0 : (Jvm.Cond.code ({ cls := "CardTerminal", name := "clearBytes", desc := "()I" } : Jvm.MethodName) prog_1_method_3_code (2 : Nat) (Option.some Jvm.ClassFile.FieldType.int)) ∈ x_G := x_g2 (List.mem_of_getElem? (i := 0) rfl) rfl
set_option maxRecDepth 20000 in
theorem mk2_1 : (Jvm.Cond.methodLink "CardTerminalLaw" (23 : Nat) ({ cls := "CardTerminal", name := "errorOffset", desc := "()I" } : Jvm.MethodName)) ∈ x_G := x_g2 (List.mem_of_getElem? (i := 1) rfl) rfl
set_option maxRecDepth 20000 in
theorem mk2_2 : (Jvm.Cond.instanceMethod ({ cls := "CardTerminal", name := "errorOffset", desc := "()I" } : Jvm.MethodName)) ∈ x_G := x_g2 (List.mem_of_getElem? (i := 2) rfl) rfl
set_option maxRecDepth 20000 in
theorem mk2_3 : (Jvm.Cond.selects "CardTerminal" ({ cls := "CardTerminal", name := "errorOffset", desc := "()I" } : Jvm.MethodName) ({ cls := "CardTerminal", name := "errorOffset", desc := "()I" } : Jvm.MethodName)) ∈ x_G := x_g2 (List.mem_of_getElem? (i := 3) rfl) rfl
set_option maxRecDepth 20000 in
theorem mk2_4 : (Jvm.Cond.code ({ cls := "CardTerminal", name := "errorOffset", desc := "()I" } : Jvm.MethodName) prog_1_method_4_code (1 : Nat) (Option.some Jvm.ClassFile.FieldType.int)) ∈ x_G := x_g2 (List.mem_of_getElem? (i := 4) rfl) rfl
set_option maxRecDepth 20000 in
theorem mk2_5 : (Jvm.Cond.methodLink "CardTerminal" (59 : Nat) ({ cls := "CardTerminal$DataObjects", name := "read", desc := "(LCardTerminal$Bytes;)V" } : Jvm.MethodName)) ∈ x_G := x_g2 (List.mem_of_getElem? (i := 5) rfl) rfl
set_option maxRecDepth 20000 in
theorem mk2_6 : (Jvm.Cond.instanceMethod ({ cls := "CardTerminal$DataObjects", name := "read", desc := "(LCardTerminal$Bytes;)V" } : Jvm.MethodName)) ∈ x_G := x_g2 (List.mem_of_getElem? (i := 6) rfl) rfl
set_option maxRecDepth 20000 in
theorem mk2_7 : (Jvm.Cond.selects "CardTerminal$DataObjects" ({ cls := "CardTerminal$DataObjects", name := "read", desc := "(LCardTerminal$Bytes;)V" } : Jvm.MethodName) ({ cls := "CardTerminal$DataObjects", name := "read", desc := "(LCardTerminal$Bytes;)V" } : Jvm.MethodName)) ∈ x_G := x_g2 (List.mem_of_getElem? (i := 7) rfl) rfl
set_option maxRecDepth 20000 in
theorem mk2_8 : (Jvm.Cond.code ({ cls := "CardTerminal$DataObjects", name := "read", desc := "(LCardTerminal$Bytes;)V" } : Jvm.MethodName) prog_4_method_3_code (6 : Nat) (Option.none : Option Jvm.ClassFile.FieldType)) ∈ x_G := x_g2 (List.mem_of_getElem? (i := 8) rfl) rfl
set_option maxRecDepth 20000 in
theorem mk2_9 : (Jvm.Cond.methodLink "CardTerminal$DataObjects" (37 : Nat) ({ cls := "CardTerminal$DataObjects", name := "stillOpen", desc := "(I)I" } : Jvm.MethodName)) ∈ x_G := x_g2 (List.mem_of_getElem? (i := 9) rfl) rfl
set_option maxRecDepth 20000 in
theorem mk2_11 : (Jvm.Cond.instanceMethod ({ cls := "CardTerminal$DataObjects", name := "stillOpen", desc := "(I)I" } : Jvm.MethodName)) ∈ x_G := x_g2 (List.mem_of_getElem? (i := 11) rfl) rfl
set_option maxRecDepth 20000 in
theorem mk2_12 : (Jvm.Cond.code ({ cls := "CardTerminal$DataObjects", name := "stillOpen", desc := "(I)I" } : Jvm.MethodName) prog_4_method_4_code (4 : Nat) (Option.some Jvm.ClassFile.FieldType.int)) ∈ x_G := x_g2 (List.mem_of_getElem? (i := 12) rfl) rfl
set_option maxRecDepth 20000 in
theorem mk2_13 : (Jvm.Cond.methodLink "CardTerminal$DataObjects" (46 : Nat) ({ cls := "CardTerminal$DataObjects", name := "valueEnd", desc := "(I)I" } : Jvm.MethodName)) ∈ x_G := x_g2 (List.mem_of_getElem? (i := 13) rfl) rfl
set_option maxRecDepth 20000 in
theorem mk2_15 : (Jvm.Cond.instanceMethod ({ cls := "CardTerminal$DataObjects", name := "valueEnd", desc := "(I)I" } : Jvm.MethodName)) ∈ x_G := x_g2 (List.mem_of_getElem? (i := 15) rfl) rfl
set_option maxRecDepth 20000 in
theorem mk2_16 : (Jvm.Cond.code ({ cls := "CardTerminal$DataObjects", name := "valueEnd", desc := "(I)I" } : Jvm.MethodName) prog_4_method_5_code (2 : Nat) (Option.some Jvm.ClassFile.FieldType.int)) ∈ x_G := x_g2 (List.mem_of_getElem? (i := 16) rfl) rfl
set_option maxRecDepth 20000 in
theorem mk2_18 : (Jvm.Cond.static ({ cls := "CardTerminal", name := "at", desc := "([II)I" } : Jvm.MethodName)) ∈ x_G := x_g2 (List.mem_of_getElem? (i := 18) rfl) rfl
set_option maxRecDepth 20000 in
theorem mk2_19 : (Jvm.Cond.code ({ cls := "CardTerminal", name := "at", desc := "([II)I" } : Jvm.MethodName) prog_1_method_41_code (2 : Nat) (Option.some Jvm.ClassFile.FieldType.int)) ∈ x_G := x_g2 (List.mem_of_getElem? (i := 19) rfl) rfl
set_option maxRecDepth 20000 in
theorem mk2_20 : (Jvm.Cond.methodLink "CardTerminal$DataObjects" (56 : Nat) ({ cls := "CardTerminal$DataObjects", name := "readTag", desc := "(LCardTerminal$Bytes;I)Z" } : Jvm.MethodName)) ∈ x_G := x_g2 (List.mem_of_getElem? (i := 20) rfl) rfl
set_option maxRecDepth 20000 in
theorem mk2_22 : (Jvm.Cond.instanceMethod ({ cls := "CardTerminal$DataObjects", name := "readTag", desc := "(LCardTerminal$Bytes;I)Z" } : Jvm.MethodName)) ∈ x_G := x_g2 (List.mem_of_getElem? (i := 22) rfl) rfl
set_option maxRecDepth 20000 in
theorem mk2_23 : (Jvm.Cond.code ({ cls := "CardTerminal$DataObjects", name := "readTag", desc := "(LCardTerminal$Bytes;I)Z" } : Jvm.MethodName) prog_4_method_6_code (5 : Nat) (Option.some Jvm.ClassFile.FieldType.boolean)) ∈ x_G := x_g2 (List.mem_of_getElem? (i := 23) rfl) rfl
set_option maxRecDepth 20000 in
theorem mk2_24 : (Jvm.Cond.methodLink "CardTerminal$DataObjects" (67 : Nat) ({ cls := "CardTerminal$DataObjects", name := "breakAt", desc := "(I)Z" } : Jvm.MethodName)) ∈ x_G := x_g2 (List.mem_of_getElem? (i := 24) rfl) rfl
set_option maxRecDepth 20000 in
theorem mk2_26 : (Jvm.Cond.instanceMethod ({ cls := "CardTerminal$DataObjects", name := "breakAt", desc := "(I)Z" } : Jvm.MethodName)) ∈ x_G := x_g2 (List.mem_of_getElem? (i := 26) rfl) rfl
set_option maxRecDepth 20000 in
theorem mk2_27 : (Jvm.Cond.code ({ cls := "CardTerminal$DataObjects", name := "breakAt", desc := "(I)Z" } : Jvm.MethodName) prog_4_method_8_code (2 : Nat) (Option.some Jvm.ClassFile.FieldType.boolean)) ∈ x_G := x_g2 (List.mem_of_getElem? (i := 27) rfl) rfl
set_option maxRecDepth 20000 in
theorem mk2_29 : (Jvm.Cond.methodLink "CardTerminal$DataObjects" (60 : Nat) ({ cls := "CardTerminal$DataObjects", name := "readLength", desc := "(LCardTerminal$Bytes;I)Z" } : Jvm.MethodName)) ∈ x_G := x_g2 (List.mem_of_getElem? (i := 29) rfl) rfl
set_option maxRecDepth 20000 in
theorem mk2_31 : (Jvm.Cond.instanceMethod ({ cls := "CardTerminal$DataObjects", name := "readLength", desc := "(LCardTerminal$Bytes;I)Z" } : Jvm.MethodName)) ∈ x_G := x_g2 (List.mem_of_getElem? (i := 31) rfl) rfl
set_option maxRecDepth 20000 in
theorem mk2_32 : (Jvm.Cond.code ({ cls := "CardTerminal$DataObjects", name := "readLength", desc := "(LCardTerminal$Bytes;I)Z" } : Jvm.MethodName) prog_4_method_7_code (5 : Nat) (Option.some Jvm.ClassFile.FieldType.boolean)) ∈ x_G := x_g2 (List.mem_of_getElem? (i := 32) rfl) rfl
set_option maxRecDepth 20000 in
theorem mk2_33 : (Jvm.Cond.methodLink "CardTerminal" (63 : Nat) ({ cls := "CardTerminal$DataObjects", name := "isBroken", desc := "()Z" } : Jvm.MethodName)) ∈ x_G := x_g2 (List.mem_of_getElem? (i := 33) rfl) rfl
set_option maxRecDepth 20000 in
theorem mk2_34 : (Jvm.Cond.instanceMethod ({ cls := "CardTerminal$DataObjects", name := "isBroken", desc := "()Z" } : Jvm.MethodName)) ∈ x_G := x_g2 (List.mem_of_getElem? (i := 34) rfl) rfl
set_option maxRecDepth 20000 in
theorem mk2_35 : (Jvm.Cond.selects "CardTerminal$DataObjects" ({ cls := "CardTerminal$DataObjects", name := "isBroken", desc := "()Z" } : Jvm.MethodName) ({ cls := "CardTerminal$DataObjects", name := "isBroken", desc := "()Z" } : Jvm.MethodName)) ∈ x_G := x_g2 (List.mem_of_getElem? (i := 35) rfl) rfl
set_option maxRecDepth 20000 in
theorem mk2_36 : (Jvm.Cond.code ({ cls := "CardTerminal$DataObjects", name := "isBroken", desc := "()Z" } : Jvm.MethodName) prog_4_method_2_code (1 : Nat) (Option.some Jvm.ClassFile.FieldType.boolean)) ∈ x_G := x_g2 (List.mem_of_getElem? (i := 36) rfl) rfl
set_option maxRecDepth 20000 in
theorem mk2_37 : (Jvm.Cond.methodLink "CardTerminalLaw" (27 : Nat) ({ cls := "CardTerminal", name := "objectCount", desc := "()I" } : Jvm.MethodName)) ∈ x_G := x_g2 (List.mem_of_getElem? (i := 37) rfl) rfl
set_option maxRecDepth 20000 in
theorem mk2_38 : (Jvm.Cond.instanceMethod ({ cls := "CardTerminal", name := "objectCount", desc := "()I" } : Jvm.MethodName)) ∈ x_G := x_g2 (List.mem_of_getElem? (i := 38) rfl) rfl
set_option maxRecDepth 20000 in
theorem mk2_39 : (Jvm.Cond.selects "CardTerminal" ({ cls := "CardTerminal", name := "objectCount", desc := "()I" } : Jvm.MethodName) ({ cls := "CardTerminal", name := "objectCount", desc := "()I" } : Jvm.MethodName)) ∈ x_G := x_g2 (List.mem_of_getElem? (i := 39) rfl) rfl
set_option maxRecDepth 20000 in
theorem mk2_40 : (Jvm.Cond.code ({ cls := "CardTerminal", name := "objectCount", desc := "()I" } : Jvm.MethodName) prog_1_method_5_code (1 : Nat) (Option.some Jvm.ClassFile.FieldType.int)) ∈ x_G := x_g2 (List.mem_of_getElem? (i := 40) rfl) rfl
set_option maxRecDepth 20000 in
theorem mk2_41 : (Jvm.Cond.methodLink "CardTerminalLaw" (31 : Nat) ({ cls := "CardTerminal", name := "objectTag", desc := "(I)I" } : Jvm.MethodName)) ∈ x_G := x_g2 (List.mem_of_getElem? (i := 41) rfl) rfl
set_option maxRecDepth 20000 in
theorem mk2_42 : (Jvm.Cond.instanceMethod ({ cls := "CardTerminal", name := "objectTag", desc := "(I)I" } : Jvm.MethodName)) ∈ x_G := x_g2 (List.mem_of_getElem? (i := 42) rfl) rfl
set_option maxRecDepth 20000 in
theorem mk2_43 : (Jvm.Cond.selects "CardTerminal" ({ cls := "CardTerminal", name := "objectTag", desc := "(I)I" } : Jvm.MethodName) ({ cls := "CardTerminal", name := "objectTag", desc := "(I)I" } : Jvm.MethodName)) ∈ x_G := x_g2 (List.mem_of_getElem? (i := 43) rfl) rfl
set_option maxRecDepth 20000 in
theorem mk2_44 : (Jvm.Cond.code ({ cls := "CardTerminal", name := "objectTag", desc := "(I)I" } : Jvm.MethodName) prog_1_method_6_code (3 : Nat) (Option.some Jvm.ClassFile.FieldType.int)) ∈ x_G := x_g2 (List.mem_of_getElem? (i := 44) rfl) rfl
set_option maxRecDepth 20000 in
theorem mk2_45 : (Jvm.Cond.methodLink "CardTerminal" (73 : Nat) ({ cls := "CardTerminal", name := "objectError", desc := "(I)I" } : Jvm.MethodName)) ∈ x_G := x_g2 (List.mem_of_getElem? (i := 45) rfl) rfl
set_option maxRecDepth 20000 in
theorem mk2_47 : (Jvm.Cond.instanceMethod ({ cls := "CardTerminal", name := "objectError", desc := "(I)I" } : Jvm.MethodName)) ∈ x_G := x_g2 (List.mem_of_getElem? (i := 47) rfl) rfl
set_option maxRecDepth 20000 in
theorem mk2_48 : (Jvm.Cond.code ({ cls := "CardTerminal", name := "objectError", desc := "(I)I" } : Jvm.MethodName) prog_1_method_10_code (2 : Nat) (Option.some Jvm.ClassFile.FieldType.int)) ∈ x_G := x_g2 (List.mem_of_getElem? (i := 48) rfl) rfl
set_option maxRecDepth 20000 in
theorem mk2_49 : (Jvm.Cond.methodLink "CardTerminal" (81 : Nat) ({ cls := "CardTerminal", name := "at", desc := "([II)I" } : Jvm.MethodName)) ∈ x_G := x_g2 (List.mem_of_getElem? (i := 49) rfl) rfl
set_option maxRecDepth 20000 in
theorem mk2_50 : (Jvm.Cond.methodLink "CardTerminalLaw" (35 : Nat) ({ cls := "CardTerminal", name := "objectDepth", desc := "(I)I" } : Jvm.MethodName)) ∈ x_G := x_g2 (List.mem_of_getElem? (i := 50) rfl) rfl
set_option maxRecDepth 20000 in
theorem mk2_51 : (Jvm.Cond.instanceMethod ({ cls := "CardTerminal", name := "objectDepth", desc := "(I)I" } : Jvm.MethodName)) ∈ x_G := x_g2 (List.mem_of_getElem? (i := 51) rfl) rfl
set_option maxRecDepth 20000 in
theorem mk2_52 : (Jvm.Cond.selects "CardTerminal" ({ cls := "CardTerminal", name := "objectDepth", desc := "(I)I" } : Jvm.MethodName) ({ cls := "CardTerminal", name := "objectDepth", desc := "(I)I" } : Jvm.MethodName)) ∈ x_G := x_g2 (List.mem_of_getElem? (i := 52) rfl) rfl
set_option maxRecDepth 20000 in
theorem mk2_53 : (Jvm.Cond.code ({ cls := "CardTerminal", name := "objectDepth", desc := "(I)I" } : Jvm.MethodName) prog_1_method_7_code (3 : Nat) (Option.some Jvm.ClassFile.FieldType.int)) ∈ x_G := x_g2 (List.mem_of_getElem? (i := 53) rfl) rfl
set_option maxRecDepth 20000 in
theorem mk2_54 : (Jvm.Cond.methodLink "CardTerminalLaw" (39 : Nat) ({ cls := "CardTerminal", name := "objectLength", desc := "(I)I" } : Jvm.MethodName)) ∈ x_G := x_g2 (List.mem_of_getElem? (i := 54) rfl) rfl
set_option maxRecDepth 20000 in
theorem mk2_55 : (Jvm.Cond.instanceMethod ({ cls := "CardTerminal", name := "objectLength", desc := "(I)I" } : Jvm.MethodName)) ∈ x_G := x_g2 (List.mem_of_getElem? (i := 55) rfl) rfl
set_option maxRecDepth 20000 in
theorem mk2_56 : (Jvm.Cond.selects "CardTerminal" ({ cls := "CardTerminal", name := "objectLength", desc := "(I)I" } : Jvm.MethodName) ({ cls := "CardTerminal", name := "objectLength", desc := "(I)I" } : Jvm.MethodName)) ∈ x_G := x_g2 (List.mem_of_getElem? (i := 56) rfl) rfl
set_option maxRecDepth 20000 in
theorem mk2_57 : (Jvm.Cond.code ({ cls := "CardTerminal", name := "objectLength", desc := "(I)I" } : Jvm.MethodName) prog_1_method_8_code (3 : Nat) (Option.some Jvm.ClassFile.FieldType.int)) ∈ x_G := x_g2 (List.mem_of_getElem? (i := 57) rfl) rfl
set_option maxRecDepth 20000 in
theorem mk2_58 : (Jvm.Cond.methodLink "CardTerminalLaw" (43 : Nat) ({ cls := "CardTerminal", name := "findObject", desc := "(II)I" } : Jvm.MethodName)) ∈ x_G := x_g2 (List.mem_of_getElem? (i := 58) rfl) rfl
set_option maxRecDepth 20000 in
theorem mk2_59 : (Jvm.Cond.instanceMethod ({ cls := "CardTerminal", name := "findObject", desc := "(II)I" } : Jvm.MethodName)) ∈ x_G := x_g2 (List.mem_of_getElem? (i := 59) rfl) rfl
set_option maxRecDepth 20000 in
theorem mk2_60 : (Jvm.Cond.selects "CardTerminal" ({ cls := "CardTerminal", name := "findObject", desc := "(II)I" } : Jvm.MethodName) ({ cls := "CardTerminal", name := "findObject", desc := "(II)I" } : Jvm.MethodName)) ∈ x_G := x_g2 (List.mem_of_getElem? (i := 60) rfl) rfl
set_option maxRecDepth 20000 in
theorem mk2_61 : (Jvm.Cond.code ({ cls := "CardTerminal", name := "findObject", desc := "(II)I" } : Jvm.MethodName) prog_1_method_9_code (4 : Nat) (Option.some Jvm.ClassFile.FieldType.int)) ∈ x_G := x_g2 (List.mem_of_getElem? (i := 61) rfl) rfl
set_option maxRecDepth 20000 in
theorem mk2_62 : (Jvm.Cond.methodLink "CardTerminal" (91 : Nat) ({ cls := "CardTerminal$DataObjects", name := "firstWithTag", desc := "(II)I" } : Jvm.MethodName)) ∈ x_G := x_g2 (List.mem_of_getElem? (i := 62) rfl) rfl
set_option maxRecDepth 20000 in
theorem mk2_63 : (Jvm.Cond.instanceMethod ({ cls := "CardTerminal$DataObjects", name := "firstWithTag", desc := "(II)I" } : Jvm.MethodName)) ∈ x_G := x_g2 (List.mem_of_getElem? (i := 63) rfl) rfl
set_option maxRecDepth 20000 in
theorem mk2_64 : (Jvm.Cond.selects "CardTerminal$DataObjects" ({ cls := "CardTerminal$DataObjects", name := "firstWithTag", desc := "(II)I" } : Jvm.MethodName) ({ cls := "CardTerminal$DataObjects", name := "firstWithTag", desc := "(II)I" } : Jvm.MethodName)) ∈ x_G := x_g2 (List.mem_of_getElem? (i := 64) rfl) rfl
set_option maxRecDepth 20000 in
theorem mk2_65 : (Jvm.Cond.code ({ cls := "CardTerminal$DataObjects", name := "firstWithTag", desc := "(II)I" } : Jvm.MethodName) prog_4_method_9_code (4 : Nat) (Option.some Jvm.ClassFile.FieldType.int)) ∈ x_G := x_g2 (List.mem_of_getElem? (i := 65) rfl) rfl
set_option maxRecDepth 20000 in
theorem mk2_66 : (Jvm.Cond.methodLink "CardTerminalLaw" (48 : Nat) ({ cls := "CardTerminal", name := "insertCard", desc := "()I" } : Jvm.MethodName)) ∈ x_G := x_g2 (List.mem_of_getElem? (i := 66) rfl) rfl
set_option maxRecDepth 20000 in
theorem mk2_67 : (Jvm.Cond.instanceMethod ({ cls := "CardTerminal", name := "insertCard", desc := "()I" } : Jvm.MethodName)) ∈ x_G := x_g2 (List.mem_of_getElem? (i := 67) rfl) rfl
set_option maxRecDepth 20000 in
theorem mk2_68 : (Jvm.Cond.selects "CardTerminal" ({ cls := "CardTerminal", name := "insertCard", desc := "()I" } : Jvm.MethodName) ({ cls := "CardTerminal", name := "insertCard", desc := "()I" } : Jvm.MethodName)) ∈ x_G := x_g2 (List.mem_of_getElem? (i := 68) rfl) rfl
set_option maxRecDepth 20000 in
theorem mk2_69 : (Jvm.Cond.code ({ cls := "CardTerminal", name := "insertCard", desc := "()I" } : Jvm.MethodName) prog_1_method_11_code (1 : Nat) (Option.some Jvm.ClassFile.FieldType.int)) ∈ x_G := x_g2 (List.mem_of_getElem? (i := 69) rfl) rfl
set_option maxRecDepth 20000 in
theorem mk2_70 : (Jvm.Cond.methodLink "CardTerminal" (95 : Nat) ({ cls := "CardTerminal$Transactions", name := "isPending", desc := "()Z" } : Jvm.MethodName)) ∈ x_G := x_g2 (List.mem_of_getElem? (i := 70) rfl) rfl
set_option maxRecDepth 20000 in
theorem mk2_71 : (Jvm.Cond.instanceMethod ({ cls := "CardTerminal$Transactions", name := "isPending", desc := "()Z" } : Jvm.MethodName)) ∈ x_G := x_g2 (List.mem_of_getElem? (i := 71) rfl) rfl
set_option maxRecDepth 20000 in
theorem mk2_72 : (Jvm.Cond.selects "CardTerminal$Transactions" ({ cls := "CardTerminal$Transactions", name := "isPending", desc := "()Z" } : Jvm.MethodName) ({ cls := "CardTerminal$Transactions", name := "isPending", desc := "()Z" } : Jvm.MethodName)) ∈ x_G := x_g2 (List.mem_of_getElem? (i := 72) rfl) rfl
set_option maxRecDepth 20000 in
theorem mk2_73 : (Jvm.Cond.code ({ cls := "CardTerminal$Transactions", name := "isPending", desc := "()Z" } : Jvm.MethodName) prog_8_method_2_code (1 : Nat) (Option.some Jvm.ClassFile.FieldType.boolean)) ∈ x_G := x_g2 (List.mem_of_getElem? (i := 73) rfl) rfl
set_option maxRecDepth 20000 in
theorem mk2_75 : (Jvm.Cond.methodLink "CardTerminal" (98 : Nat) ({ cls := "CardTerminal$DataObjects", name := "applicationCount", desc := "()I" } : Jvm.MethodName)) ∈ x_G := x_g2 (List.mem_of_getElem? (i := 75) rfl) rfl
set_option maxRecDepth 20000 in
theorem mk2_76 : (Jvm.Cond.instanceMethod ({ cls := "CardTerminal$DataObjects", name := "applicationCount", desc := "()I" } : Jvm.MethodName)) ∈ x_G := x_g2 (List.mem_of_getElem? (i := 76) rfl) rfl
set_option maxRecDepth 20000 in
theorem mk2_77 : (Jvm.Cond.selects "CardTerminal$DataObjects" ({ cls := "CardTerminal$DataObjects", name := "applicationCount", desc := "()I" } : Jvm.MethodName) ({ cls := "CardTerminal$DataObjects", name := "applicationCount", desc := "()I" } : Jvm.MethodName)) ∈ x_G := x_g2 (List.mem_of_getElem? (i := 77) rfl) rfl
set_option maxRecDepth 20000 in
theorem mk2_78 : (Jvm.Cond.code ({ cls := "CardTerminal$DataObjects", name := "applicationCount", desc := "()I" } : Jvm.MethodName) prog_4_method_10_code (3 : Nat) (Option.some Jvm.ClassFile.FieldType.int)) ∈ x_G := x_g2 (List.mem_of_getElem? (i := 78) rfl) rfl
set_option maxRecDepth 20000 in
theorem mk2_79 : (Jvm.Cond.methodLink "CardTerminal$DataObjects" (71 : Nat) ({ cls := "CardTerminal$DataObjects", name := "identifierIn", desc := "(I)I" } : Jvm.MethodName)) ∈ x_G := x_g2 (List.mem_of_getElem? (i := 79) rfl) rfl
set_option maxRecDepth 20000 in
theorem mk2_80 : (Jvm.Cond.instanceMethod ({ cls := "CardTerminal$DataObjects", name := "identifierIn", desc := "(I)I" } : Jvm.MethodName)) ∈ x_G := x_g2 (List.mem_of_getElem? (i := 80) rfl) rfl
set_option maxRecDepth 20000 in
theorem mk2_81 : (Jvm.Cond.selects "CardTerminal$DataObjects" ({ cls := "CardTerminal$DataObjects", name := "identifierIn", desc := "(I)I" } : Jvm.MethodName) ({ cls := "CardTerminal$DataObjects", name := "identifierIn", desc := "(I)I" } : Jvm.MethodName)) ∈ x_G := x_g2 (List.mem_of_getElem? (i := 81) rfl) rfl
set_option maxRecDepth 20000 in
theorem mk2_82 : (Jvm.Cond.code ({ cls := "CardTerminal$DataObjects", name := "identifierIn", desc := "(I)I" } : Jvm.MethodName) prog_4_method_11_code (4 : Nat) (Option.some Jvm.ClassFile.FieldType.int)) ∈ x_G := x_g2 (List.mem_of_getElem? (i := 82) rfl) rfl
set_option maxRecDepth 20000 in
theorem mk2_83 : (Jvm.Cond.methodLink "CardTerminal$DataObjects" (74 : Nat) ({ cls := "CardTerminal$DataObjects", name := "childFrom", desc := "(IIIII)I" } : Jvm.MethodName)) ∈ x_G := x_g2 (List.mem_of_getElem? (i := 83) rfl) rfl
set_option maxRecDepth 20000 in
theorem mk2_85 : (Jvm.Cond.instanceMethod ({ cls := "CardTerminal$DataObjects", name := "childFrom", desc := "(IIIII)I" } : Jvm.MethodName)) ∈ x_G := x_g2 (List.mem_of_getElem? (i := 85) rfl) rfl
set_option maxRecDepth 20000 in
theorem mk2_86 : (Jvm.Cond.code ({ cls := "CardTerminal$DataObjects", name := "childFrom", desc := "(IIIII)I" } : Jvm.MethodName) prog_4_method_13_code (8 : Nat) (Option.some Jvm.ClassFile.FieldType.int)) ∈ x_G := x_g2 (List.mem_of_getElem? (i := 86) rfl) rfl
set_option maxRecDepth 20000 in
theorem mk2_87 : (Jvm.Cond.methodLink "CardTerminal" (102 : Nat) ({ cls := "CardTerminal$Card", name := "renew", desc := "()V" } : Jvm.MethodName)) ∈ x_G := x_g2 (List.mem_of_getElem? (i := 87) rfl) rfl
set_option maxRecDepth 20000 in
theorem mk2_88 : (Jvm.Cond.instanceMethod ({ cls := "CardTerminal$Card", name := "renew", desc := "()V" } : Jvm.MethodName)) ∈ x_G := x_g2 (List.mem_of_getElem? (i := 88) rfl) rfl
set_option maxRecDepth 20000 in
theorem mk2_89 : (Jvm.Cond.selects "CardTerminal$Card" ({ cls := "CardTerminal$Card", name := "renew", desc := "()V" } : Jvm.MethodName) ({ cls := "CardTerminal$Card", name := "renew", desc := "()V" } : Jvm.MethodName)) ∈ x_G := x_g2 (List.mem_of_getElem? (i := 89) rfl) rfl
set_option maxRecDepth 20000 in
theorem mk2_90 : (Jvm.Cond.code ({ cls := "CardTerminal$Card", name := "renew", desc := "()V" } : Jvm.MethodName) prog_3_method_2_code (2 : Nat) (Option.none : Option Jvm.ClassFile.FieldType)) ∈ x_G := x_g2 (List.mem_of_getElem? (i := 90) rfl) rfl
set_option maxRecDepth 20000 in
theorem mk2_92 : (Jvm.Cond.methodLink "CardTerminal" (105 : Nat) ({ cls := "CardTerminal$Card", name := "readApplications", desc := "(LCardTerminal$DataObjects;LCardTerminal$Bytes;)V" } : Jvm.MethodName)) ∈ x_G := x_g2 (List.mem_of_getElem? (i := 92) rfl) rfl
set_option maxRecDepth 20000 in
theorem mk2_93 : (Jvm.Cond.instanceMethod ({ cls := "CardTerminal$Card", name := "readApplications", desc := "(LCardTerminal$DataObjects;LCardTerminal$Bytes;)V" } : Jvm.MethodName)) ∈ x_G := x_g2 (List.mem_of_getElem? (i := 93) rfl) rfl
set_option maxRecDepth 20000 in
theorem mk2_94 : (Jvm.Cond.selects "CardTerminal$Card" ({ cls := "CardTerminal$Card", name := "readApplications", desc := "(LCardTerminal$DataObjects;LCardTerminal$Bytes;)V" } : Jvm.MethodName) ({ cls := "CardTerminal$Card", name := "readApplications", desc := "(LCardTerminal$DataObjects;LCardTerminal$Bytes;)V" } : Jvm.MethodName)) ∈ x_G := x_g2 (List.mem_of_getElem? (i := 94) rfl) rfl
set_option maxRecDepth 20000 in
theorem mk2_95 : (Jvm.Cond.code ({ cls := "CardTerminal$Card", name := "readApplications", desc := "(LCardTerminal$DataObjects;LCardTerminal$Bytes;)V" } : Jvm.MethodName) prog_3_method_3_code (5 : Nat) (Option.none : Option Jvm.ClassFile.FieldType)) ∈ x_G := x_g2 (List.mem_of_getElem? (i := 95) rfl) rfl
set_option maxRecDepth 20000 in
theorem mk2_96 : (Jvm.Cond.methodLink "CardTerminal$Card" (46 : Nat) ({ cls := "CardTerminal$DataObjects", name := "identifierIn", desc := "(I)I" } : Jvm.MethodName)) ∈ x_G := x_g2 (List.mem_of_getElem? (i := 96) rfl) rfl
set_option maxRecDepth 20000 in
theorem mk2_97 : (Jvm.Cond.methodLink "CardTerminal$Card" (50 : Nat) ({ cls := "CardTerminal$Card", name := "indicatorIn", desc := "(ILCardTerminal$DataObjects;LCardTerminal$Bytes;)I" } : Jvm.MethodName)) ∈ x_G := x_g2 (List.mem_of_getElem? (i := 97) rfl) rfl
set_option maxRecDepth 20000 in
theorem mk2_99 : (Jvm.Cond.instanceMethod ({ cls := "CardTerminal$Card", name := "indicatorIn", desc := "(ILCardTerminal$DataObjects;LCardTerminal$Bytes;)I" } : Jvm.MethodName)) ∈ x_G := x_g2 (List.mem_of_getElem? (i := 99) rfl) rfl
set_option maxRecDepth 20000 in
theorem mk2_100 : (Jvm.Cond.code ({ cls := "CardTerminal$Card", name := "indicatorIn", desc := "(ILCardTerminal$DataObjects;LCardTerminal$Bytes;)I" } : Jvm.MethodName) prog_3_method_4_code (5 : Nat) (Option.some Jvm.ClassFile.FieldType.int)) ∈ x_G := x_g2 (List.mem_of_getElem? (i := 100) rfl) rfl
set_option maxRecDepth 20000 in
theorem mk2_101 : (Jvm.Cond.methodLink "CardTerminal$Card" (68 : Nat) ({ cls := "CardTerminal$DataObjects", name := "priorityIn", desc := "(I)I" } : Jvm.MethodName)) ∈ x_G := x_g2 (List.mem_of_getElem? (i := 101) rfl) rfl
set_option maxRecDepth 20000 in
theorem mk2_102 : (Jvm.Cond.instanceMethod ({ cls := "CardTerminal$DataObjects", name := "priorityIn", desc := "(I)I" } : Jvm.MethodName)) ∈ x_G := x_g2 (List.mem_of_getElem? (i := 102) rfl) rfl
set_option maxRecDepth 20000 in
theorem mk2_103 : (Jvm.Cond.selects "CardTerminal$DataObjects" ({ cls := "CardTerminal$DataObjects", name := "priorityIn", desc := "(I)I" } : Jvm.MethodName) ({ cls := "CardTerminal$DataObjects", name := "priorityIn", desc := "(I)I" } : Jvm.MethodName)) ∈ x_G := x_g2 (List.mem_of_getElem? (i := 103) rfl) rfl
set_option maxRecDepth 20000 in
theorem mk2_104 : (Jvm.Cond.code ({ cls := "CardTerminal$DataObjects", name := "priorityIn", desc := "(I)I" } : Jvm.MethodName) prog_4_method_12_code (2 : Nat) (Option.some Jvm.ClassFile.FieldType.int)) ∈ x_G := x_g2 (List.mem_of_getElem? (i := 104) rfl) rfl
set_option maxRecDepth 20000 in
theorem mk2_106 : (Jvm.Cond.methodLink "CardTerminal$Card" (64 : Nat) ({ cls := "CardTerminal$Identifiers", name := "add", desc := "(LCardTerminal$Bytes;II)V" } : Jvm.MethodName)) ∈ x_G := x_g2 (List.mem_of_getElem? (i := 106) rfl) rfl
set_option maxRecDepth 20000 in
theorem mk2_107 : (Jvm.Cond.instanceMethod ({ cls := "CardTerminal$Identifiers", name := "add", desc := "(LCardTerminal$Bytes;II)V" } : Jvm.MethodName)) ∈ x_G := x_g2 (List.mem_of_getElem? (i := 107) rfl) rfl
set_option maxRecDepth 20000 in
theorem mk2_108 : (Jvm.Cond.selects "CardTerminal$Identifiers" ({ cls := "CardTerminal$Identifiers", name := "add", desc := "(LCardTerminal$Bytes;II)V" } : Jvm.MethodName) ({ cls := "CardTerminal$Identifiers", name := "add", desc := "(LCardTerminal$Bytes;II)V" } : Jvm.MethodName)) ∈ x_G := x_g2 (List.mem_of_getElem? (i := 108) rfl) rfl
set_option maxRecDepth 20000 in
theorem mk2_109 : (Jvm.Cond.code ({ cls := "CardTerminal$Identifiers", name := "add", desc := "(LCardTerminal$Bytes;II)V" } : Jvm.MethodName) prog_5_method_2_code (5 : Nat) (Option.none : Option Jvm.ClassFile.FieldType)) ∈ x_G := x_g2 (List.mem_of_getElem? (i := 109) rfl) rfl
set_option maxRecDepth 20000 in
theorem mk2_112 : (Jvm.Cond.methodLink "CardTerminalLaw" (52 : Nat) ({ cls := "CardTerminal", name := "priorityOf", desc := "(I)I" } : Jvm.MethodName)) ∈ x_G := x_g2 (List.mem_of_getElem? (i := 112) rfl) rfl
set_option maxRecDepth 20000 in
theorem mk2_113 : (Jvm.Cond.instanceMethod ({ cls := "CardTerminal", name := "priorityOf", desc := "(I)I" } : Jvm.MethodName)) ∈ x_G := x_g2 (List.mem_of_getElem? (i := 113) rfl) rfl
set_option maxRecDepth 20000 in
theorem mk2_114 : (Jvm.Cond.selects "CardTerminal" ({ cls := "CardTerminal", name := "priorityOf", desc := "(I)I" } : Jvm.MethodName) ({ cls := "CardTerminal", name := "priorityOf", desc := "(I)I" } : Jvm.MethodName)) ∈ x_G := x_g2 (List.mem_of_getElem? (i := 114) rfl) rfl
set_option maxRecDepth 20000 in
theorem mk2_115 : (Jvm.Cond.code ({ cls := "CardTerminal", name := "priorityOf", desc := "(I)I" } : Jvm.MethodName) prog_1_method_12_code (2 : Nat) (Option.some Jvm.ClassFile.FieldType.int)) ∈ x_G := x_g2 (List.mem_of_getElem? (i := 115) rfl) rfl
set_option maxRecDepth 20000 in
theorem mk2_116 : (Jvm.Cond.methodLink "CardTerminal" (116 : Nat) ({ cls := "CardTerminal$Card", name := "hasApplication", desc := "(I)Z" } : Jvm.MethodName)) ∈ x_G := x_g2 (List.mem_of_getElem? (i := 116) rfl) rfl
set_option maxRecDepth 20000 in
theorem mk2_117 : (Jvm.Cond.instanceMethod ({ cls := "CardTerminal$Card", name := "hasApplication", desc := "(I)Z" } : Jvm.MethodName)) ∈ x_G := x_g2 (List.mem_of_getElem? (i := 117) rfl) rfl
set_option maxRecDepth 20000 in
theorem mk2_118 : (Jvm.Cond.selects "CardTerminal$Card" ({ cls := "CardTerminal$Card", name := "hasApplication", desc := "(I)Z" } : Jvm.MethodName) ({ cls := "CardTerminal$Card", name := "hasApplication", desc := "(I)Z" } : Jvm.MethodName)) ∈ x_G := x_g2 (List.mem_of_getElem? (i := 118) rfl) rfl
set_option maxRecDepth 20000 in
theorem mk2_119 : (Jvm.Cond.code ({ cls := "CardTerminal$Card", name := "hasApplication", desc := "(I)Z" } : Jvm.MethodName) prog_3_method_5_code (2 : Nat) (Option.some Jvm.ClassFile.FieldType.boolean)) ∈ x_G := x_g2 (List.mem_of_getElem? (i := 119) rfl) rfl
set_option maxRecDepth 20000 in
theorem mk2_120 : (Jvm.Cond.methodLink "CardTerminal" (120 : Nat) ({ cls := "CardTerminal$Card", name := "priority", desc := "(I)I" } : Jvm.MethodName)) ∈ x_G := x_g2 (List.mem_of_getElem? (i := 120) rfl) rfl
set_option maxRecDepth 20000 in
theorem mk2_121 : (Jvm.Cond.instanceMethod ({ cls := "CardTerminal$Card", name := "priority", desc := "(I)I" } : Jvm.MethodName)) ∈ x_G := x_g2 (List.mem_of_getElem? (i := 121) rfl) rfl
set_option maxRecDepth 20000 in
theorem mk2_122 : (Jvm.Cond.selects "CardTerminal$Card" ({ cls := "CardTerminal$Card", name := "priority", desc := "(I)I" } : Jvm.MethodName) ({ cls := "CardTerminal$Card", name := "priority", desc := "(I)I" } : Jvm.MethodName)) ∈ x_G := x_g2 (List.mem_of_getElem? (i := 122) rfl) rfl
set_option maxRecDepth 20000 in
theorem mk2_123 : (Jvm.Cond.code ({ cls := "CardTerminal$Card", name := "priority", desc := "(I)I" } : Jvm.MethodName) prog_3_method_6_code (2 : Nat) (Option.some Jvm.ClassFile.FieldType.int)) ∈ x_G := x_g2 (List.mem_of_getElem? (i := 123) rfl) rfl
set_option maxRecDepth 20000 in
theorem mk2_124 : (Jvm.Cond.methodLink "CardTerminalLaw" (56 : Nat) ({ cls := "CardTerminal", name := "setIssuerCode", desc := "(II)I" } : Jvm.MethodName)) ∈ x_G := x_g2 (List.mem_of_getElem? (i := 124) rfl) rfl
set_option maxRecDepth 20000 in
theorem mk2_125 : (Jvm.Cond.instanceMethod ({ cls := "CardTerminal", name := "setIssuerCode", desc := "(II)I" } : Jvm.MethodName)) ∈ x_G := x_g2 (List.mem_of_getElem? (i := 125) rfl) rfl
set_option maxRecDepth 20000 in
theorem mk2_126 : (Jvm.Cond.selects "CardTerminal" ({ cls := "CardTerminal", name := "setIssuerCode", desc := "(II)I" } : Jvm.MethodName) ({ cls := "CardTerminal", name := "setIssuerCode", desc := "(II)I" } : Jvm.MethodName)) ∈ x_G := x_g2 (List.mem_of_getElem? (i := 126) rfl) rfl
set_option maxRecDepth 20000 in
theorem mk2_127 : (Jvm.Cond.code ({ cls := "CardTerminal", name := "setIssuerCode", desc := "(II)I" } : Jvm.MethodName) prog_1_method_13_code (3 : Nat) (Option.some Jvm.ClassFile.FieldType.int)) ∈ x_G := x_g2 (List.mem_of_getElem? (i := 127) rfl) rfl
set_option maxRecDepth 20000 in
theorem mk2_128 : (Jvm.Cond.methodLink "CardTerminal" (126 : Nat) ({ cls := "CardTerminal", name := "replaceCode", desc := "([III)I" } : Jvm.MethodName)) ∈ x_G := x_g2 (List.mem_of_getElem? (i := 128) rfl) rfl
set_option maxRecDepth 20000 in
theorem mk2_129 : (Jvm.Cond.static ({ cls := "CardTerminal", name := "replaceCode", desc := "([III)I" } : Jvm.MethodName)) ∈ x_G := x_g2 (List.mem_of_getElem? (i := 129) rfl) rfl
set_option maxRecDepth 20000 in
theorem mk2_130 : (Jvm.Cond.code ({ cls := "CardTerminal", name := "replaceCode", desc := "([III)I" } : Jvm.MethodName) prog_1_method_21_code (4 : Nat) (Option.some Jvm.ClassFile.FieldType.int)) ∈ x_G := x_g2 (List.mem_of_getElem? (i := 130) rfl) rfl
set_option maxRecDepth 20000 in
theorem mk2_131 : (Jvm.Cond.methodLink "CardTerminal" (156 : Nat) ({ cls := "CardTerminal", name := "put", desc := "([III)V" } : Jvm.MethodName)) ∈ x_G := x_g2 (List.mem_of_getElem? (i := 131) rfl) rfl
set_option maxRecDepth 20000 in
theorem mk2_132 : (Jvm.Cond.methodLink "CardTerminalLaw" (60 : Nat) ({ cls := "CardTerminal", name := "addIdentifier", desc := "(Z)I" } : Jvm.MethodName)) ∈ x_G := x_g2 (List.mem_of_getElem? (i := 132) rfl) rfl
set_option maxRecDepth 20000 in
theorem mk2_133 : (Jvm.Cond.instanceMethod ({ cls := "CardTerminal", name := "addIdentifier", desc := "(Z)I" } : Jvm.MethodName)) ∈ x_G := x_g2 (List.mem_of_getElem? (i := 133) rfl) rfl
set_option maxRecDepth 20000 in
theorem mk2_134 : (Jvm.Cond.selects "CardTerminal" ({ cls := "CardTerminal", name := "addIdentifier", desc := "(Z)I" } : Jvm.MethodName) ({ cls := "CardTerminal", name := "addIdentifier", desc := "(Z)I" } : Jvm.MethodName)) ∈ x_G := x_g2 (List.mem_of_getElem? (i := 134) rfl) rfl
set_option maxRecDepth 20000 in
theorem mk2_135 : (Jvm.Cond.code ({ cls := "CardTerminal", name := "addIdentifier", desc := "(Z)I" } : Jvm.MethodName) prog_1_method_14_code (2 : Nat) (Option.some Jvm.ClassFile.FieldType.int)) ∈ x_G := x_g2 (List.mem_of_getElem? (i := 135) rfl) rfl
set_option maxRecDepth 20000 in
theorem mk2_136 : (Jvm.Cond.methodLink "CardTerminal" (131 : Nat) ({ cls := "CardTerminal$Terminal", name := "support", desc := "(LCardTerminal$Bytes;Z)V" } : Jvm.MethodName)) ∈ x_G := x_g2 (List.mem_of_getElem? (i := 136) rfl) rfl
set_option maxRecDepth 20000 in
theorem mk2_137 : (Jvm.Cond.instanceMethod ({ cls := "CardTerminal$Terminal", name := "support", desc := "(LCardTerminal$Bytes;Z)V" } : Jvm.MethodName)) ∈ x_G := x_g2 (List.mem_of_getElem? (i := 137) rfl) rfl
set_option maxRecDepth 20000 in
theorem mk2_138 : (Jvm.Cond.selects "CardTerminal$Terminal" ({ cls := "CardTerminal$Terminal", name := "support", desc := "(LCardTerminal$Bytes;Z)V" } : Jvm.MethodName) ({ cls := "CardTerminal$Terminal", name := "support", desc := "(LCardTerminal$Bytes;Z)V" } : Jvm.MethodName)) ∈ x_G := x_g2 (List.mem_of_getElem? (i := 138) rfl) rfl
set_option maxRecDepth 20000 in
theorem mk2_139 : (Jvm.Cond.code ({ cls := "CardTerminal$Terminal", name := "support", desc := "(LCardTerminal$Bytes;Z)V" } : Jvm.MethodName) prog_7_method_2_code (3 : Nat) (Option.none : Option Jvm.ClassFile.FieldType)) ∈ x_G := x_g2 (List.mem_of_getElem? (i := 139) rfl) rfl
set_option maxRecDepth 20000 in
theorem mk2_141 : (Jvm.Cond.methodLink "CardTerminal$Terminal" (54 : Nat) ({ cls := "CardTerminal$Identifiers", name := "add", desc := "(LCardTerminal$Bytes;II)V" } : Jvm.MethodName)) ∈ x_G := x_g2 (List.mem_of_getElem? (i := 141) rfl) rfl
set_option maxRecDepth 20000 in
theorem mk2_142 : (Jvm.Cond.methodLink "CardTerminalLaw" (65 : Nat) ({ cls := "CardTerminal", name := "removeIdentifier", desc := "(I)I" } : Jvm.MethodName)) ∈ x_G := x_g2 (List.mem_of_getElem? (i := 142) rfl) rfl
set_option maxRecDepth 20000 in
theorem mk2_143 : (Jvm.Cond.instanceMethod ({ cls := "CardTerminal", name := "removeIdentifier", desc := "(I)I" } : Jvm.MethodName)) ∈ x_G := x_g2 (List.mem_of_getElem? (i := 143) rfl) rfl
set_option maxRecDepth 20000 in
theorem mk2_144 : (Jvm.Cond.selects "CardTerminal" ({ cls := "CardTerminal", name := "removeIdentifier", desc := "(I)I" } : Jvm.MethodName) ({ cls := "CardTerminal", name := "removeIdentifier", desc := "(I)I" } : Jvm.MethodName)) ∈ x_G := x_g2 (List.mem_of_getElem? (i := 144) rfl) rfl
set_option maxRecDepth 20000 in
theorem mk2_145 : (Jvm.Cond.code ({ cls := "CardTerminal", name := "removeIdentifier", desc := "(I)I" } : Jvm.MethodName) prog_1_method_15_code (2 : Nat) (Option.some Jvm.ClassFile.FieldType.int)) ∈ x_G := x_g2 (List.mem_of_getElem? (i := 145) rfl) rfl
set_option maxRecDepth 20000 in
theorem mk2_146 : (Jvm.Cond.methodLink "CardTerminal" (135 : Nat) ({ cls := "CardTerminal$Terminal", name := "dropSupport", desc := "(I)V" } : Jvm.MethodName)) ∈ x_G := x_g2 (List.mem_of_getElem? (i := 146) rfl) rfl
set_option maxRecDepth 20000 in
theorem mk2_147 : (Jvm.Cond.instanceMethod ({ cls := "CardTerminal$Terminal", name := "dropSupport", desc := "(I)V" } : Jvm.MethodName)) ∈ x_G := x_g2 (List.mem_of_getElem? (i := 147) rfl) rfl
set_option maxRecDepth 20000 in
theorem mk2_148 : (Jvm.Cond.selects "CardTerminal$Terminal" ({ cls := "CardTerminal$Terminal", name := "dropSupport", desc := "(I)V" } : Jvm.MethodName) ({ cls := "CardTerminal$Terminal", name := "dropSupport", desc := "(I)V" } : Jvm.MethodName)) ∈ x_G := x_g2 (List.mem_of_getElem? (i := 148) rfl) rfl
set_option maxRecDepth 20000 in
theorem mk2_149 : (Jvm.Cond.code ({ cls := "CardTerminal$Terminal", name := "dropSupport", desc := "(I)V" } : Jvm.MethodName) prog_7_method_3_code (3 : Nat) (Option.none : Option Jvm.ClassFile.FieldType)) ∈ x_G := x_g2 (List.mem_of_getElem? (i := 149) rfl) rfl
set_option maxRecDepth 20000 in
theorem mk2_151 : (Jvm.Cond.methodLink "CardTerminal$Terminal" (62 : Nat) ({ cls := "CardTerminal$Identifiers", name := "drop", desc := "(I)V" } : Jvm.MethodName)) ∈ x_G := x_g2 (List.mem_of_getElem? (i := 151) rfl) rfl
set_option maxRecDepth 20000 in
theorem mk2_152 : (Jvm.Cond.instanceMethod ({ cls := "CardTerminal$Identifiers", name := "drop", desc := "(I)V" } : Jvm.MethodName)) ∈ x_G := x_g2 (List.mem_of_getElem? (i := 152) rfl) rfl
set_option maxRecDepth 20000 in
theorem mk2_153 : (Jvm.Cond.selects "CardTerminal$Identifiers" ({ cls := "CardTerminal$Identifiers", name := "drop", desc := "(I)V" } : Jvm.MethodName) ({ cls := "CardTerminal$Identifiers", name := "drop", desc := "(I)V" } : Jvm.MethodName)) ∈ x_G := x_g2 (List.mem_of_getElem? (i := 153) rfl) rfl
set_option maxRecDepth 20000 in
theorem mk2_154 : (Jvm.Cond.code ({ cls := "CardTerminal$Identifiers", name := "drop", desc := "(I)V" } : Jvm.MethodName) prog_5_method_3_code (3 : Nat) (Option.none : Option Jvm.ClassFile.FieldType)) ∈ x_G := x_g2 (List.mem_of_getElem? (i := 154) rfl) rfl
set_option maxRecDepth 20000 in
theorem mk2_155 : (Jvm.Cond.methodLink "CardTerminal$Identifiers" (33 : Nat) ({ cls := "CardTerminal$Identifiers", name := "copyDown", desc := "(I)V" } : Jvm.MethodName)) ∈ x_G := x_g2 (List.mem_of_getElem? (i := 155) rfl) rfl
set_option maxRecDepth 20000 in
theorem mk2_157 : (Jvm.Cond.instanceMethod ({ cls := "CardTerminal$Identifiers", name := "copyDown", desc := "(I)V" } : Jvm.MethodName)) ∈ x_G := x_g2 (List.mem_of_getElem? (i := 157) rfl) rfl
set_option maxRecDepth 20000 in
theorem mk2_158 : (Jvm.Cond.code ({ cls := "CardTerminal$Identifiers", name := "copyDown", desc := "(I)V" } : Jvm.MethodName) prog_5_method_4_code (3 : Nat) (Option.none : Option Jvm.ClassFile.FieldType)) ∈ x_G := x_g2 (List.mem_of_getElem? (i := 158) rfl) rfl
set_option maxRecDepth 20000 in
theorem mk2_159 : (Jvm.Cond.methodLink "CardTerminal$Identifiers" (37 : Nat) ({ cls := "CardTerminal$Identifiers", name := "valueAt", desc := "(II)I" } : Jvm.MethodName)) ∈ x_G := x_g2 (List.mem_of_getElem? (i := 159) rfl) rfl
set_option maxRecDepth 20000 in
theorem mk2_160 : (Jvm.Cond.instanceMethod ({ cls := "CardTerminal$Identifiers", name := "valueAt", desc := "(II)I" } : Jvm.MethodName)) ∈ x_G := x_g2 (List.mem_of_getElem? (i := 160) rfl) rfl
set_option maxRecDepth 20000 in
theorem mk2_161 : (Jvm.Cond.selects "CardTerminal$Identifiers" ({ cls := "CardTerminal$Identifiers", name := "valueAt", desc := "(II)I" } : Jvm.MethodName) ({ cls := "CardTerminal$Identifiers", name := "valueAt", desc := "(II)I" } : Jvm.MethodName)) ∈ x_G := x_g2 (List.mem_of_getElem? (i := 161) rfl) rfl
set_option maxRecDepth 20000 in
theorem mk2_162 : (Jvm.Cond.code ({ cls := "CardTerminal$Identifiers", name := "valueAt", desc := "(II)I" } : Jvm.MethodName) prog_5_method_5_code (3 : Nat) (Option.some Jvm.ClassFile.FieldType.int)) ∈ x_G := x_g2 (List.mem_of_getElem? (i := 162) rfl) rfl
set_option maxRecDepth 20000 in
theorem mk2_163 : (Jvm.Cond.methodLink "CardTerminalLaw" (69 : Nat) ({ cls := "CardTerminal", name := "setTerminalCode", desc := "(II)I" } : Jvm.MethodName)) ∈ x_G := x_g2 (List.mem_of_getElem? (i := 163) rfl) rfl
set_option maxRecDepth 20000 in
theorem mk2_164 : (Jvm.Cond.instanceMethod ({ cls := "CardTerminal", name := "setTerminalCode", desc := "(II)I" } : Jvm.MethodName)) ∈ x_G := x_g2 (List.mem_of_getElem? (i := 164) rfl) rfl
set_option maxRecDepth 20000 in
theorem mk2_165 : (Jvm.Cond.selects "CardTerminal" ({ cls := "CardTerminal", name := "setTerminalCode", desc := "(II)I" } : Jvm.MethodName) ({ cls := "CardTerminal", name := "setTerminalCode", desc := "(II)I" } : Jvm.MethodName)) ∈ x_G := x_g2 (List.mem_of_getElem? (i := 165) rfl) rfl
set_option maxRecDepth 20000 in
theorem mk2_166 : (Jvm.Cond.code ({ cls := "CardTerminal", name := "setTerminalCode", desc := "(II)I" } : Jvm.MethodName) prog_1_method_16_code (3 : Nat) (Option.some Jvm.ClassFile.FieldType.int)) ∈ x_G := x_g2 (List.mem_of_getElem? (i := 166) rfl) rfl
set_option maxRecDepth 20000 in
theorem mk2_167 : (Jvm.Cond.methodLink "CardTerminalLaw" (73 : Nat) ({ cls := "CardTerminal", name := "setFloorLimit", desc := "(I)I" } : Jvm.MethodName)) ∈ x_G := x_g2 (List.mem_of_getElem? (i := 167) rfl) rfl
set_option maxRecDepth 20000 in
theorem mk2_168 : (Jvm.Cond.instanceMethod ({ cls := "CardTerminal", name := "setFloorLimit", desc := "(I)I" } : Jvm.MethodName)) ∈ x_G := x_g2 (List.mem_of_getElem? (i := 168) rfl) rfl
set_option maxRecDepth 20000 in
theorem mk2_169 : (Jvm.Cond.selects "CardTerminal" ({ cls := "CardTerminal", name := "setFloorLimit", desc := "(I)I" } : Jvm.MethodName) ({ cls := "CardTerminal", name := "setFloorLimit", desc := "(I)I" } : Jvm.MethodName)) ∈ x_G := x_g2 (List.mem_of_getElem? (i := 169) rfl) rfl
set_option maxRecDepth 20000 in
theorem mk2_170 : (Jvm.Cond.code ({ cls := "CardTerminal", name := "setFloorLimit", desc := "(I)I" } : Jvm.MethodName) prog_1_method_17_code (3 : Nat) (Option.some Jvm.ClassFile.FieldType.int)) ∈ x_G := x_g2 (List.mem_of_getElem? (i := 170) rfl) rfl
set_option maxRecDepth 20000 in
theorem mk2_171 : (Jvm.Cond.constant "CardTerminal" (139 : Nat) (99999 : Int32)) ∈ x_G := x_g2 (List.mem_of_getElem? (i := 171) rfl) rfl
set_option maxRecDepth 20000 in
theorem mk2_172 : (Jvm.Cond.methodLink "CardTerminalLaw" (77 : Nat) ({ cls := "CardTerminal", name := "setOfflineLimits", desc := "(II)I" } : Jvm.MethodName)) ∈ x_G := x_g2 (List.mem_of_getElem? (i := 172) rfl) rfl
set_option maxRecDepth 20000 in
theorem mk2_173 : (Jvm.Cond.instanceMethod ({ cls := "CardTerminal", name := "setOfflineLimits", desc := "(II)I" } : Jvm.MethodName)) ∈ x_G := x_g2 (List.mem_of_getElem? (i := 173) rfl) rfl
set_option maxRecDepth 20000 in
theorem mk2_174 : (Jvm.Cond.selects "CardTerminal" ({ cls := "CardTerminal", name := "setOfflineLimits", desc := "(II)I" } : Jvm.MethodName) ({ cls := "CardTerminal", name := "setOfflineLimits", desc := "(II)I" } : Jvm.MethodName)) ∈ x_G := x_g2 (List.mem_of_getElem? (i := 174) rfl) rfl
set_option maxRecDepth 20000 in
theorem mk2_175 : (Jvm.Cond.code ({ cls := "CardTerminal", name := "setOfflineLimits", desc := "(II)I" } : Jvm.MethodName) prog_1_method_18_code (4 : Nat) (Option.some Jvm.ClassFile.FieldType.int)) ∈ x_G := x_g2 (List.mem_of_getElem? (i := 175) rfl) rfl
set_option maxRecDepth 20000 in
theorem mk2_176 : (Jvm.Cond.methodLink "CardTerminalLaw" (81 : Nat) ({ cls := "CardTerminal", name := "setRandomTarget", desc := "(I)I" } : Jvm.MethodName)) ∈ x_G := x_g2 (List.mem_of_getElem? (i := 176) rfl) rfl
set_option maxRecDepth 20000 in
theorem mk2_177 : (Jvm.Cond.instanceMethod ({ cls := "CardTerminal", name := "setRandomTarget", desc := "(I)I" } : Jvm.MethodName)) ∈ x_G := x_g2 (List.mem_of_getElem? (i := 177) rfl) rfl
set_option maxRecDepth 20000 in
theorem mk2_178 : (Jvm.Cond.selects "CardTerminal" ({ cls := "CardTerminal", name := "setRandomTarget", desc := "(I)I" } : Jvm.MethodName) ({ cls := "CardTerminal", name := "setRandomTarget", desc := "(I)I" } : Jvm.MethodName)) ∈ x_G := x_g2 (List.mem_of_getElem? (i := 178) rfl) rfl
set_option maxRecDepth 20000 in
theorem mk2_179 : (Jvm.Cond.code ({ cls := "CardTerminal", name := "setRandomTarget", desc := "(I)I" } : Jvm.MethodName) prog_1_method_19_code (3 : Nat) (Option.some Jvm.ClassFile.FieldType.int)) ∈ x_G := x_g2 (List.mem_of_getElem? (i := 179) rfl) rfl
set_option maxRecDepth 20000 in
theorem mk2_180 : (Jvm.Cond.methodLink "CardTerminalLaw" (85 : Nat) ({ cls := "CardTerminal", name := "setOnline", desc := "(Z)I" } : Jvm.MethodName)) ∈ x_G := x_g2 (List.mem_of_getElem? (i := 180) rfl) rfl
set_option maxRecDepth 20000 in
theorem mk2_181 : (Jvm.Cond.instanceMethod ({ cls := "CardTerminal", name := "setOnline", desc := "(Z)I" } : Jvm.MethodName)) ∈ x_G := x_g2 (List.mem_of_getElem? (i := 181) rfl) rfl
set_option maxRecDepth 20000 in
theorem mk2_182 : (Jvm.Cond.selects "CardTerminal" ({ cls := "CardTerminal", name := "setOnline", desc := "(Z)I" } : Jvm.MethodName) ({ cls := "CardTerminal", name := "setOnline", desc := "(Z)I" } : Jvm.MethodName)) ∈ x_G := x_g2 (List.mem_of_getElem? (i := 182) rfl) rfl
set_option maxRecDepth 20000 in
theorem mk2_183 : (Jvm.Cond.code ({ cls := "CardTerminal", name := "setOnline", desc := "(Z)I" } : Jvm.MethodName) prog_1_method_20_code (3 : Nat) (Option.some Jvm.ClassFile.FieldType.int)) ∈ x_G := x_g2 (List.mem_of_getElem? (i := 183) rfl) rfl
set_option maxRecDepth 20000 in
theorem mk2_184 : (Jvm.Cond.methodLink "CardTerminalLaw" (89 : Nat) ({ cls := "CardTerminal", name := "candidateCount", desc := "()I" } : Jvm.MethodName)) ∈ x_G := x_g2 (List.mem_of_getElem? (i := 184) rfl) rfl
set_option maxRecDepth 20000 in
theorem mk2_185 : (Jvm.Cond.instanceMethod ({ cls := "CardTerminal", name := "candidateCount", desc := "()I" } : Jvm.MethodName)) ∈ x_G := x_g2 (List.mem_of_getElem? (i := 185) rfl) rfl
set_option maxRecDepth 20000 in
theorem mk2_186 : (Jvm.Cond.selects "CardTerminal" ({ cls := "CardTerminal", name := "candidateCount", desc := "()I" } : Jvm.MethodName) ({ cls := "CardTerminal", name := "candidateCount", desc := "()I" } : Jvm.MethodName)) ∈ x_G := x_g2 (List.mem_of_getElem? (i := 186) rfl) rfl
set_option maxRecDepth 20000 in
theorem mk2_187 : (Jvm.Cond.code ({ cls := "CardTerminal", name := "candidateCount", desc := "()I" } : Jvm.MethodName) prog_1_method_22_code (3 : Nat) (Option.some Jvm.ClassFile.FieldType.int)) ∈ x_G := x_g2 (List.mem_of_getElem? (i := 187) rfl) rfl
set_option maxRecDepth 20000 in
theorem mk2_188 : (Jvm.Cond.methodLink "CardTerminal" (160 : Nat) ({ cls := "CardTerminal", name := "isCandidate", desc := "(I)Z" } : Jvm.MethodName)) ∈ x_G := x_g2 (List.mem_of_getElem? (i := 188) rfl) rfl
set_option maxRecDepth 20000 in
theorem mk2_190 : (Jvm.Cond.instanceMethod ({ cls := "CardTerminal", name := "isCandidate", desc := "(I)Z" } : Jvm.MethodName)) ∈ x_G := x_g2 (List.mem_of_getElem? (i := 190) rfl) rfl
set_option maxRecDepth 20000 in
theorem mk2_191 : (Jvm.Cond.code ({ cls := "CardTerminal", name := "isCandidate", desc := "(I)Z" } : Jvm.MethodName) prog_1_method_25_code (2 : Nat) (Option.some Jvm.ClassFile.FieldType.boolean)) ∈ x_G := x_g2 (List.mem_of_getElem? (i := 191) rfl) rfl
set_option maxRecDepth 20000 in
theorem mk2_192 : (Jvm.Cond.methodLink "CardTerminal" (172 : Nat) ({ cls := "CardTerminal$Terminal", name := "supports", desc := "(LCardTerminal$Identifiers;I)Z" } : Jvm.MethodName)) ∈ x_G := x_g2 (List.mem_of_getElem? (i := 192) rfl) rfl
set_option maxRecDepth 20000 in
theorem mk2_193 : (Jvm.Cond.instanceMethod ({ cls := "CardTerminal$Terminal", name := "supports", desc := "(LCardTerminal$Identifiers;I)Z" } : Jvm.MethodName)) ∈ x_G := x_g2 (List.mem_of_getElem? (i := 193) rfl) rfl
set_option maxRecDepth 20000 in
theorem mk2_194 : (Jvm.Cond.selects "CardTerminal$Terminal" ({ cls := "CardTerminal$Terminal", name := "supports", desc := "(LCardTerminal$Identifiers;I)Z" } : Jvm.MethodName) ({ cls := "CardTerminal$Terminal", name := "supports", desc := "(LCardTerminal$Identifiers;I)Z" } : Jvm.MethodName)) ∈ x_G := x_g2 (List.mem_of_getElem? (i := 194) rfl) rfl
set_option maxRecDepth 20000 in
theorem mk2_195 : (Jvm.Cond.code ({ cls := "CardTerminal$Terminal", name := "supports", desc := "(LCardTerminal$Identifiers;I)Z" } : Jvm.MethodName) prog_7_method_4_code (4 : Nat) (Option.some Jvm.ClassFile.FieldType.boolean)) ∈ x_G := x_g2 (List.mem_of_getElem? (i := 195) rfl) rfl
set_option maxRecDepth 20000 in
theorem mk2_196 : (Jvm.Cond.methodLink "CardTerminal$Terminal" (66 : Nat) ({ cls := "CardTerminal$Identifiers", name := "beginsWith", desc := "(ILCardTerminal$Identifiers;I)Z" } : Jvm.MethodName)) ∈ x_G := x_g2 (List.mem_of_getElem? (i := 196) rfl) rfl
set_option maxRecDepth 20000 in
theorem mk2_197 : (Jvm.Cond.instanceMethod ({ cls := "CardTerminal$Identifiers", name := "beginsWith", desc := "(ILCardTerminal$Identifiers;I)Z" } : Jvm.MethodName)) ∈ x_G := x_g2 (List.mem_of_getElem? (i := 197) rfl) rfl
set_option maxRecDepth 20000 in
theorem mk2_198 : (Jvm.Cond.selects "CardTerminal$Identifiers" ({ cls := "CardTerminal$Identifiers", name := "beginsWith", desc := "(ILCardTerminal$Identifiers;I)Z" } : Jvm.MethodName) ({ cls := "CardTerminal$Identifiers", name := "beginsWith", desc := "(ILCardTerminal$Identifiers;I)Z" } : Jvm.MethodName)) ∈ x_G := x_g2 (List.mem_of_getElem? (i := 198) rfl) rfl
set_option maxRecDepth 20000 in
theorem mk2_199 : (Jvm.Cond.code ({ cls := "CardTerminal$Identifiers", name := "beginsWith", desc := "(ILCardTerminal$Identifiers;I)Z" } : Jvm.MethodName) prog_5_method_6_code (6 : Nat) (Option.some Jvm.ClassFile.FieldType.boolean)) ∈ x_G := x_g2 (List.mem_of_getElem? (i := 199) rfl) rfl
set_option maxRecDepth 20000 in
theorem mk2_200 : (Jvm.Cond.methodLink "CardTerminal$Terminal" (70 : Nat) ({ cls := "CardTerminal$Terminal", name := "sameLength", desc := "(LCardTerminal$Identifiers;II)Z" } : Jvm.MethodName)) ∈ x_G := x_g2 (List.mem_of_getElem? (i := 200) rfl) rfl
set_option maxRecDepth 20000 in
theorem mk2_202 : (Jvm.Cond.instanceMethod ({ cls := "CardTerminal$Terminal", name := "sameLength", desc := "(LCardTerminal$Identifiers;II)Z" } : Jvm.MethodName)) ∈ x_G := x_g2 (List.mem_of_getElem? (i := 202) rfl) rfl
set_option maxRecDepth 20000 in
theorem mk2_203 : (Jvm.Cond.code ({ cls := "CardTerminal$Terminal", name := "sameLength", desc := "(LCardTerminal$Identifiers;II)Z" } : Jvm.MethodName) prog_7_method_5_code (4 : Nat) (Option.some Jvm.ClassFile.FieldType.boolean)) ∈ x_G := x_g2 (List.mem_of_getElem? (i := 203) rfl) rfl
set_option maxRecDepth 20000 in
theorem mk2_204 : (Jvm.Cond.methodLink "CardTerminalLaw" (93 : Nat) ({ cls := "CardTerminal", name := "candidateAt", desc := "(I)I" } : Jvm.MethodName)) ∈ x_G := x_g2 (List.mem_of_getElem? (i := 204) rfl) rfl
set_option maxRecDepth 20000 in
theorem mk2_205 : (Jvm.Cond.instanceMethod ({ cls := "CardTerminal", name := "candidateAt", desc := "(I)I" } : Jvm.MethodName)) ∈ x_G := x_g2 (List.mem_of_getElem? (i := 205) rfl) rfl
set_option maxRecDepth 20000 in
theorem mk2_206 : (Jvm.Cond.selects "CardTerminal" ({ cls := "CardTerminal", name := "candidateAt", desc := "(I)I" } : Jvm.MethodName) ({ cls := "CardTerminal", name := "candidateAt", desc := "(I)I" } : Jvm.MethodName)) ∈ x_G := x_g2 (List.mem_of_getElem? (i := 206) rfl) rfl
set_option maxRecDepth 20000 in
theorem mk2_207 : (Jvm.Cond.code ({ cls := "CardTerminal", name := "candidateAt", desc := "(I)I" } : Jvm.MethodName) prog_1_method_23_code (3 : Nat) (Option.some Jvm.ClassFile.FieldType.int)) ∈ x_G := x_g2 (List.mem_of_getElem? (i := 207) rfl) rfl
set_option maxRecDepth 20000 in
theorem mk2_208 : (Jvm.Cond.methodLink "CardTerminal" (163 : Nat) ({ cls := "CardTerminal", name := "candidatesBefore", desc := "(I)I" } : Jvm.MethodName)) ∈ x_G := x_g2 (List.mem_of_getElem? (i := 208) rfl) rfl
set_option maxRecDepth 20000 in
theorem mk2_210 : (Jvm.Cond.instanceMethod ({ cls := "CardTerminal", name := "candidatesBefore", desc := "(I)I" } : Jvm.MethodName)) ∈ x_G := x_g2 (List.mem_of_getElem? (i := 210) rfl) rfl
set_option maxRecDepth 20000 in
theorem mk2_211 : (Jvm.Cond.code ({ cls := "CardTerminal", name := "candidatesBefore", desc := "(I)I" } : Jvm.MethodName) prog_1_method_26_code (4 : Nat) (Option.some Jvm.ClassFile.FieldType.int)) ∈ x_G := x_g2 (List.mem_of_getElem? (i := 211) rfl) rfl
set_option maxRecDepth 20000 in
theorem mk2_212 : (Jvm.Cond.methodLink "CardTerminal" (176 : Nat) ({ cls := "CardTerminal$Card", name := "comesBefore", desc := "(II)Z" } : Jvm.MethodName)) ∈ x_G := x_g2 (List.mem_of_getElem? (i := 212) rfl) rfl
set_option maxRecDepth 20000 in
theorem mk2_213 : (Jvm.Cond.instanceMethod ({ cls := "CardTerminal$Card", name := "comesBefore", desc := "(II)Z" } : Jvm.MethodName)) ∈ x_G := x_g2 (List.mem_of_getElem? (i := 213) rfl) rfl
set_option maxRecDepth 20000 in
theorem mk2_214 : (Jvm.Cond.selects "CardTerminal$Card" ({ cls := "CardTerminal$Card", name := "comesBefore", desc := "(II)Z" } : Jvm.MethodName) ({ cls := "CardTerminal$Card", name := "comesBefore", desc := "(II)Z" } : Jvm.MethodName)) ∈ x_G := x_g2 (List.mem_of_getElem? (i := 214) rfl) rfl
set_option maxRecDepth 20000 in
theorem mk2_215 : (Jvm.Cond.code ({ cls := "CardTerminal$Card", name := "comesBefore", desc := "(II)Z" } : Jvm.MethodName) prog_3_method_8_code (5 : Nat) (Option.some Jvm.ClassFile.FieldType.boolean)) ∈ x_G := x_g2 (List.mem_of_getElem? (i := 215) rfl) rfl
set_option maxRecDepth 20000 in
theorem mk2_216 : (Jvm.Cond.methodLink "CardTerminal$Card" (76 : Nat) ({ cls := "CardTerminal$Card", name := "rank", desc := "(I)I" } : Jvm.MethodName)) ∈ x_G := x_g2 (List.mem_of_getElem? (i := 216) rfl) rfl
set_option maxRecDepth 20000 in
theorem mk2_218 : (Jvm.Cond.instanceMethod ({ cls := "CardTerminal$Card", name := "rank", desc := "(I)I" } : Jvm.MethodName)) ∈ x_G := x_g2 (List.mem_of_getElem? (i := 218) rfl) rfl
set_option maxRecDepth 20000 in
theorem mk2_219 : (Jvm.Cond.code ({ cls := "CardTerminal$Card", name := "rank", desc := "(I)I" } : Jvm.MethodName) prog_3_method_9_code (3 : Nat) (Option.some Jvm.ClassFile.FieldType.int)) ∈ x_G := x_g2 (List.mem_of_getElem? (i := 219) rfl) rfl
set_option maxRecDepth 20000 in
theorem mk2_220 : (Jvm.Cond.methodLink "CardTerminal$Card" (79 : Nat) ({ cls := "CardTerminal$Card", name := "priority", desc := "(I)I" } : Jvm.MethodName)) ∈ x_G := x_g2 (List.mem_of_getElem? (i := 220) rfl) rfl
set_option maxRecDepth 20000 in
theorem mk2_221 : (Jvm.Cond.methodLink "CardTerminalLaw" (97 : Nat) ({ cls := "CardTerminal", name := "select", desc := "(IZ)I" } : Jvm.MethodName)) ∈ x_G := x_g2 (List.mem_of_getElem? (i := 221) rfl) rfl
set_option maxRecDepth 20000 in
theorem mk2_222 : (Jvm.Cond.instanceMethod ({ cls := "CardTerminal", name := "select", desc := "(IZ)I" } : Jvm.MethodName)) ∈ x_G := x_g2 (List.mem_of_getElem? (i := 222) rfl) rfl
set_option maxRecDepth 20000 in
theorem mk2_223 : (Jvm.Cond.selects "CardTerminal" ({ cls := "CardTerminal", name := "select", desc := "(IZ)I" } : Jvm.MethodName) ({ cls := "CardTerminal", name := "select", desc := "(IZ)I" } : Jvm.MethodName)) ∈ x_G := x_g2 (List.mem_of_getElem? (i := 223) rfl) rfl
set_option maxRecDepth 20000 in
theorem mk2_224 : (Jvm.Cond.code ({ cls := "CardTerminal", name := "select", desc := "(IZ)I" } : Jvm.MethodName) prog_1_method_24_code (3 : Nat) (Option.some Jvm.ClassFile.FieldType.int)) ∈ x_G := x_g2 (List.mem_of_getElem? (i := 224) rfl) rfl
set_option maxRecDepth 20000 in
theorem mk2_225 : (Jvm.Cond.methodLink "CardTerminal" (166 : Nat) ({ cls := "CardTerminal$Card", name := "needsConfirmation", desc := "(I)Z" } : Jvm.MethodName)) ∈ x_G := x_g2 (List.mem_of_getElem? (i := 225) rfl) rfl
set_option maxRecDepth 20000 in
theorem mk2_226 : (Jvm.Cond.instanceMethod ({ cls := "CardTerminal$Card", name := "needsConfirmation", desc := "(I)Z" } : Jvm.MethodName)) ∈ x_G := x_g2 (List.mem_of_getElem? (i := 226) rfl) rfl
set_option maxRecDepth 20000 in
theorem mk2_227 : (Jvm.Cond.selects "CardTerminal$Card" ({ cls := "CardTerminal$Card", name := "needsConfirmation", desc := "(I)Z" } : Jvm.MethodName) ({ cls := "CardTerminal$Card", name := "needsConfirmation", desc := "(I)Z" } : Jvm.MethodName)) ∈ x_G := x_g2 (List.mem_of_getElem? (i := 227) rfl) rfl
set_option maxRecDepth 20000 in
theorem mk2_228 : (Jvm.Cond.code ({ cls := "CardTerminal$Card", name := "needsConfirmation", desc := "(I)Z" } : Jvm.MethodName) prog_3_method_7_code (2 : Nat) (Option.some Jvm.ClassFile.FieldType.boolean)) ∈ x_G := x_g2 (List.mem_of_getElem? (i := 228) rfl) rfl
set_option maxRecDepth 20000 in
theorem mk2_229 : (Jvm.Cond.methodLink "CardTerminalLaw" (102 : Nat) ({ cls := "CardTerminal", name := "start", desc := "(II)I" } : Jvm.MethodName)) ∈ x_G := x_g2 (List.mem_of_getElem? (i := 229) rfl) rfl
set_option maxRecDepth 20000 in
theorem mk2_230 : (Jvm.Cond.instanceMethod ({ cls := "CardTerminal", name := "start", desc := "(II)I" } : Jvm.MethodName)) ∈ x_G := x_g2 (List.mem_of_getElem? (i := 230) rfl) rfl
set_option maxRecDepth 20000 in
theorem mk2_231 : (Jvm.Cond.selects "CardTerminal" ({ cls := "CardTerminal", name := "start", desc := "(II)I" } : Jvm.MethodName) ({ cls := "CardTerminal", name := "start", desc := "(II)I" } : Jvm.MethodName)) ∈ x_G := x_g2 (List.mem_of_getElem? (i := 231) rfl) rfl
set_option maxRecDepth 20000 in
theorem mk2_232 : (Jvm.Cond.code ({ cls := "CardTerminal", name := "start", desc := "(II)I" } : Jvm.MethodName) prog_1_method_27_code (5 : Nat) (Option.some Jvm.ClassFile.FieldType.int)) ∈ x_G := x_g2 (List.mem_of_getElem? (i := 232) rfl) rfl
set_option maxRecDepth 20000 in
theorem mk2_233 : (Jvm.Cond.methodLink "CardTerminal" (181 : Nat) ({ cls := "CardTerminal", name := "verify", desc := "(II)I" } : Jvm.MethodName)) ∈ x_G := x_g2 (List.mem_of_getElem? (i := 233) rfl) rfl
set_option maxRecDepth 20000 in
theorem mk2_235 : (Jvm.Cond.instanceMethod ({ cls := "CardTerminal", name := "verify", desc := "(II)I" } : Jvm.MethodName)) ∈ x_G := x_g2 (List.mem_of_getElem? (i := 235) rfl) rfl
set_option maxRecDepth 20000 in
theorem mk2_236 : (Jvm.Cond.code ({ cls := "CardTerminal", name := "verify", desc := "(II)I" } : Jvm.MethodName) prog_1_method_36_code (4 : Nat) (Option.some Jvm.ClassFile.FieldType.int)) ∈ x_G := x_g2 (List.mem_of_getElem? (i := 236) rfl) rfl
set_option maxRecDepth 20000 in
theorem mk2_237 : (Jvm.Cond.methodLink "CardTerminal" (184 : Nat) ({ cls := "CardTerminal", name := "decide", desc := "(I)I" } : Jvm.MethodName)) ∈ x_G := x_g2 (List.mem_of_getElem? (i := 237) rfl) rfl
set_option maxRecDepth 20000 in
theorem mk2_239 : (Jvm.Cond.instanceMethod ({ cls := "CardTerminal", name := "decide", desc := "(I)I" } : Jvm.MethodName)) ∈ x_G := x_g2 (List.mem_of_getElem? (i := 239) rfl) rfl
