set_option maxRecDepth 20000 in
theorem mk3_0 : (Jvm.Cond.code ({ cls := "CardTerminal", name := "decide", desc := "(I)I" } : Jvm.MethodName) prog_1_method_37_code (2 : Nat) (Option.some Jvm.ClassFile.FieldType.int)) ∈ x_G := x_g3 (List.mem_of_getElem? (i := 0) rfl) rfl
set_option maxRecDepth 20000 in
theorem mk3_1 : (Jvm.Cond.methodLink "CardTerminal" (229 : Nat) ({ cls := "CardTerminal", name := "isHitBy", desc := "(II)Z" } : Jvm.MethodName)) ∈ x_G := x_g3 (List.mem_of_getElem? (i := 1) rfl) rfl
set_option maxRecDepth 20000 in
theorem mk3_3 : (Jvm.Cond.instanceMethod ({ cls := "CardTerminal", name := "isHitBy", desc := "(II)Z" } : Jvm.MethodName)) ∈ x_G := x_g3 (List.mem_of_getElem? (i := 3) rfl) rfl
set_option maxRecDepth 20000 in
theorem mk3_4 : (Jvm.Cond.code ({ cls := "CardTerminal", name := "isHitBy", desc := "(II)Z" } : Jvm.MethodName) prog_1_method_39_code (4 : Nat) (Option.some Jvm.ClassFile.FieldType.boolean)) ∈ x_G := x_g3 (List.mem_of_getElem? (i := 4) rfl) rfl
set_option maxRecDepth 20000 in
theorem mk3_5 : (Jvm.Cond.methodLink "CardTerminal" (201 : Nat) ({ cls := "CardTerminal", name := "decideWithoutHost", desc := "(I)I" } : Jvm.MethodName)) ∈ x_G := x_g3 (List.mem_of_getElem? (i := 5) rfl) rfl
set_option maxRecDepth 20000 in
theorem mk3_7 : (Jvm.Cond.instanceMethod ({ cls := "CardTerminal", name := "decideWithoutHost", desc := "(I)I" } : Jvm.MethodName)) ∈ x_G := x_g3 (List.mem_of_getElem? (i := 7) rfl) rfl
set_option maxRecDepth 20000 in
theorem mk3_8 : (Jvm.Cond.code ({ cls := "CardTerminal", name := "decideWithoutHost", desc := "(I)I" } : Jvm.MethodName) prog_1_method_38_code (2 : Nat) (Option.some Jvm.ClassFile.FieldType.int)) ∈ x_G := x_g3 (List.mem_of_getElem? (i := 8) rfl) rfl
set_option maxRecDepth 20000 in
theorem mk3_9 : (Jvm.Cond.methodLink "CardTerminal" (187 : Nat) ({ cls := "CardTerminal$Transactions", name := "open", desc := "(III)V" } : Jvm.MethodName)) ∈ x_G := x_g3 (List.mem_of_getElem? (i := 9) rfl) rfl
set_option maxRecDepth 20000 in
theorem mk3_10 : (Jvm.Cond.instanceMethod ({ cls := "CardTerminal$Transactions", name := "open", desc := "(III)V" } : Jvm.MethodName)) ∈ x_G := x_g3 (List.mem_of_getElem? (i := 10) rfl) rfl
set_option maxRecDepth 20000 in
theorem mk3_11 : (Jvm.Cond.selects "CardTerminal$Transactions" ({ cls := "CardTerminal$Transactions", name := "open", desc := "(III)V" } : Jvm.MethodName) ({ cls := "CardTerminal$Transactions", name := "open", desc := "(III)V" } : Jvm.MethodName)) ∈ x_G := x_g3 (List.mem_of_getElem? (i := 11) rfl) rfl
set_option maxRecDepth 20000 in
theorem mk3_12 : (Jvm.Cond.code ({ cls := "CardTerminal$Transactions", name := "open", desc := "(III)V" } : Jvm.MethodName) prog_8_method_3_code (4 : Nat) (Option.none : Option Jvm.ClassFile.FieldType)) ∈ x_G := x_g3 (List.mem_of_getElem? (i := 12) rfl) rfl
set_option maxRecDepth 20000 in
theorem mk3_13 : (Jvm.Cond.methodLink "CardTerminal$Transactions" (32 : Nat) ({ cls := "CardTerminal$Transactions", name := "book", desc := "(III)V" } : Jvm.MethodName)) ∈ x_G := x_g3 (List.mem_of_getElem? (i := 13) rfl) rfl
set_option maxRecDepth 20000 in
theorem mk3_15 : (Jvm.Cond.instanceMethod ({ cls := "CardTerminal$Transactions", name := "book", desc := "(III)V" } : Jvm.MethodName)) ∈ x_G := x_g3 (List.mem_of_getElem? (i := 15) rfl) rfl
set_option maxRecDepth 20000 in
theorem mk3_16 : (Jvm.Cond.code ({ cls := "CardTerminal$Transactions", name := "book", desc := "(III)V" } : Jvm.MethodName) prog_8_method_5_code (4 : Nat) (Option.none : Option Jvm.ClassFile.FieldType)) ∈ x_G := x_g3 (List.mem_of_getElem? (i := 16) rfl) rfl
set_option maxRecDepth 20000 in
theorem mk3_18 : (Jvm.Cond.methodLink "CardTerminal" (191 : Nat) ({ cls := "CardTerminal", name := "countIfOffline", desc := "(I)V" } : Jvm.MethodName)) ∈ x_G := x_g3 (List.mem_of_getElem? (i := 18) rfl) rfl
set_option maxRecDepth 20000 in
theorem mk3_20 : (Jvm.Cond.instanceMethod ({ cls := "CardTerminal", name := "countIfOffline", desc := "(I)V" } : Jvm.MethodName)) ∈ x_G := x_g3 (List.mem_of_getElem? (i := 20) rfl) rfl
set_option maxRecDepth 20000 in
theorem mk3_21 : (Jvm.Cond.code ({ cls := "CardTerminal", name := "countIfOffline", desc := "(I)V" } : Jvm.MethodName) prog_1_method_40_code (2 : Nat) (Option.none : Option Jvm.ClassFile.FieldType)) ∈ x_G := x_g3 (List.mem_of_getElem? (i := 21) rfl) rfl
set_option maxRecDepth 20000 in
theorem mk3_22 : (Jvm.Cond.methodLink "CardTerminal" (232 : Nat) ({ cls := "CardTerminal$Card", name := "countOffline", desc := "()V" } : Jvm.MethodName)) ∈ x_G := x_g3 (List.mem_of_getElem? (i := 22) rfl) rfl
set_option maxRecDepth 20000 in
theorem mk3_23 : (Jvm.Cond.instanceMethod ({ cls := "CardTerminal$Card", name := "countOffline", desc := "()V" } : Jvm.MethodName)) ∈ x_G := x_g3 (List.mem_of_getElem? (i := 23) rfl) rfl
set_option maxRecDepth 20000 in
theorem mk3_24 : (Jvm.Cond.selects "CardTerminal$Card" ({ cls := "CardTerminal$Card", name := "countOffline", desc := "()V" } : Jvm.MethodName) ({ cls := "CardTerminal$Card", name := "countOffline", desc := "()V" } : Jvm.MethodName)) ∈ x_G := x_g3 (List.mem_of_getElem? (i := 24) rfl) rfl
set_option maxRecDepth 20000 in
theorem mk3_25 : (Jvm.Cond.code ({ cls := "CardTerminal$Card", name := "countOffline", desc := "()V" } : Jvm.MethodName) prog_3_method_10_code (1 : Nat) (Option.none : Option Jvm.ClassFile.FieldType)) ∈ x_G := x_g3 (List.mem_of_getElem? (i := 25) rfl) rfl
set_option maxRecDepth 20000 in
theorem mk3_26 : (Jvm.Cond.methodLink "CardTerminalLaw" (106 : Nat) ({ cls := "CardTerminal", name := "answer", desc := "(I)I" } : Jvm.MethodName)) ∈ x_G := x_g3 (List.mem_of_getElem? (i := 26) rfl) rfl
set_option maxRecDepth 20000 in
theorem mk3_27 : (Jvm.Cond.instanceMethod ({ cls := "CardTerminal", name := "answer", desc := "(I)I" } : Jvm.MethodName)) ∈ x_G := x_g3 (List.mem_of_getElem? (i := 27) rfl) rfl
set_option maxRecDepth 20000 in
theorem mk3_28 : (Jvm.Cond.selects "CardTerminal" ({ cls := "CardTerminal", name := "answer", desc := "(I)I" } : Jvm.MethodName) ({ cls := "CardTerminal", name := "answer", desc := "(I)I" } : Jvm.MethodName)) ∈ x_G := x_g3 (List.mem_of_getElem? (i := 28) rfl) rfl
set_option maxRecDepth 20000 in
theorem mk3_29 : (Jvm.Cond.code ({ cls := "CardTerminal", name := "answer", desc := "(I)I" } : Jvm.MethodName) prog_1_method_28_code (3 : Nat) (Option.some Jvm.ClassFile.FieldType.int)) ∈ x_G := x_g3 (List.mem_of_getElem? (i := 29) rfl) rfl
set_option maxRecDepth 20000 in
theorem mk3_30 : (Jvm.Cond.methodLink "CardTerminal" (194 : Nat) ({ cls := "CardTerminal$Card", name := "passOnline", desc := "()V" } : Jvm.MethodName)) ∈ x_G := x_g3 (List.mem_of_getElem? (i := 30) rfl) rfl
set_option maxRecDepth 20000 in
theorem mk3_31 : (Jvm.Cond.instanceMethod ({ cls := "CardTerminal$Card", name := "passOnline", desc := "()V" } : Jvm.MethodName)) ∈ x_G := x_g3 (List.mem_of_getElem? (i := 31) rfl) rfl
set_option maxRecDepth 20000 in
theorem mk3_32 : (Jvm.Cond.selects "CardTerminal$Card" ({ cls := "CardTerminal$Card", name := "passOnline", desc := "()V" } : Jvm.MethodName) ({ cls := "CardTerminal$Card", name := "passOnline", desc := "()V" } : Jvm.MethodName)) ∈ x_G := x_g3 (List.mem_of_getElem? (i := 32) rfl) rfl
set_option maxRecDepth 20000 in
theorem mk3_33 : (Jvm.Cond.code ({ cls := "CardTerminal$Card", name := "passOnline", desc := "()V" } : Jvm.MethodName) prog_3_method_11_code (1 : Nat) (Option.none : Option Jvm.ClassFile.FieldType)) ∈ x_G := x_g3 (List.mem_of_getElem? (i := 33) rfl) rfl
set_option maxRecDepth 20000 in
theorem mk3_34 : (Jvm.Cond.methodLink "CardTerminal" (200 : Nat) ({ cls := "CardTerminal$Reversals", name := "add", desc := "(I)V" } : Jvm.MethodName)) ∈ x_G := x_g3 (List.mem_of_getElem? (i := 34) rfl) rfl
set_option maxRecDepth 20000 in
theorem mk3_35 : (Jvm.Cond.instanceMethod ({ cls := "CardTerminal$Reversals", name := "add", desc := "(I)V" } : Jvm.MethodName)) ∈ x_G := x_g3 (List.mem_of_getElem? (i := 35) rfl) rfl
set_option maxRecDepth 20000 in
theorem mk3_36 : (Jvm.Cond.selects "CardTerminal$Reversals" ({ cls := "CardTerminal$Reversals", name := "add", desc := "(I)V" } : Jvm.MethodName) ({ cls := "CardTerminal$Reversals", name := "add", desc := "(I)V" } : Jvm.MethodName)) ∈ x_G := x_g3 (List.mem_of_getElem? (i := 36) rfl) rfl
set_option maxRecDepth 20000 in
theorem mk3_37 : (Jvm.Cond.code ({ cls := "CardTerminal$Reversals", name := "add", desc := "(I)V" } : Jvm.MethodName) prog_6_method_2_code (2 : Nat) (Option.none : Option Jvm.ClassFile.FieldType)) ∈ x_G := x_g3 (List.mem_of_getElem? (i := 37) rfl) rfl
set_option maxRecDepth 20000 in
theorem mk3_39 : (Jvm.Cond.methodLink "CardTerminal" (204 : Nat) ({ cls := "CardTerminal$Transactions", name := "settle", desc := "(I)V" } : Jvm.MethodName)) ∈ x_G := x_g3 (List.mem_of_getElem? (i := 39) rfl) rfl
set_option maxRecDepth 20000 in
theorem mk3_40 : (Jvm.Cond.instanceMethod ({ cls := "CardTerminal$Transactions", name := "settle", desc := "(I)V" } : Jvm.MethodName)) ∈ x_G := x_g3 (List.mem_of_getElem? (i := 40) rfl) rfl
set_option maxRecDepth 20000 in
theorem mk3_41 : (Jvm.Cond.selects "CardTerminal$Transactions" ({ cls := "CardTerminal$Transactions", name := "settle", desc := "(I)V" } : Jvm.MethodName) ({ cls := "CardTerminal$Transactions", name := "settle", desc := "(I)V" } : Jvm.MethodName)) ∈ x_G := x_g3 (List.mem_of_getElem? (i := 41) rfl) rfl
set_option maxRecDepth 20000 in
theorem mk3_42 : (Jvm.Cond.code ({ cls := "CardTerminal$Transactions", name := "settle", desc := "(I)V" } : Jvm.MethodName) prog_8_method_4_code (2 : Nat) (Option.none : Option Jvm.ClassFile.FieldType)) ∈ x_G := x_g3 (List.mem_of_getElem? (i := 42) rfl) rfl
set_option maxRecDepth 20000 in
theorem mk3_43 : (Jvm.Cond.methodLink "CardTerminalLaw" (110 : Nat) ({ cls := "CardTerminal", name := "sendReversal", desc := "(Z)I" } : Jvm.MethodName)) ∈ x_G := x_g3 (List.mem_of_getElem? (i := 43) rfl) rfl
set_option maxRecDepth 20000 in
theorem mk3_44 : (Jvm.Cond.instanceMethod ({ cls := "CardTerminal", name := "sendReversal", desc := "(Z)I" } : Jvm.MethodName)) ∈ x_G := x_g3 (List.mem_of_getElem? (i := 44) rfl) rfl
set_option maxRecDepth 20000 in
theorem mk3_45 : (Jvm.Cond.selects "CardTerminal" ({ cls := "CardTerminal", name := "sendReversal", desc := "(Z)I" } : Jvm.MethodName) ({ cls := "CardTerminal", name := "sendReversal", desc := "(Z)I" } : Jvm.MethodName)) ∈ x_G := x_g3 (List.mem_of_getElem? (i := 45) rfl) rfl
set_option maxRecDepth 20000 in
theorem mk3_46 : (Jvm.Cond.code ({ cls := "CardTerminal", name := "sendReversal", desc := "(Z)I" } : Jvm.MethodName) prog_1_method_29_code (3 : Nat) (Option.some Jvm.ClassFile.FieldType.int)) ∈ x_G := x_g3 (List.mem_of_getElem? (i := 46) rfl) rfl
set_option maxRecDepth 20000 in
theorem mk3_47 : (Jvm.Cond.methodLink "CardTerminal" (208 : Nat) ({ cls := "CardTerminal$Reversals", name := "first", desc := "()I" } : Jvm.MethodName)) ∈ x_G := x_g3 (List.mem_of_getElem? (i := 47) rfl) rfl
set_option maxRecDepth 20000 in
theorem mk3_48 : (Jvm.Cond.instanceMethod ({ cls := "CardTerminal$Reversals", name := "first", desc := "()I" } : Jvm.MethodName)) ∈ x_G := x_g3 (List.mem_of_getElem? (i := 48) rfl) rfl
set_option maxRecDepth 20000 in
theorem mk3_49 : (Jvm.Cond.selects "CardTerminal$Reversals" ({ cls := "CardTerminal$Reversals", name := "first", desc := "()I" } : Jvm.MethodName) ({ cls := "CardTerminal$Reversals", name := "first", desc := "()I" } : Jvm.MethodName)) ∈ x_G := x_g3 (List.mem_of_getElem? (i := 49) rfl) rfl
set_option maxRecDepth 20000 in
theorem mk3_50 : (Jvm.Cond.code ({ cls := "CardTerminal$Reversals", name := "first", desc := "()I" } : Jvm.MethodName) prog_6_method_3_code (1 : Nat) (Option.some Jvm.ClassFile.FieldType.int)) ∈ x_G := x_g3 (List.mem_of_getElem? (i := 50) rfl) rfl
set_option maxRecDepth 20000 in
theorem mk3_52 : (Jvm.Cond.methodLink "CardTerminal" (211 : Nat) ({ cls := "CardTerminal$Reversals", name := "dropFirst", desc := "()V" } : Jvm.MethodName)) ∈ x_G := x_g3 (List.mem_of_getElem? (i := 52) rfl) rfl
set_option maxRecDepth 20000 in
theorem mk3_53 : (Jvm.Cond.instanceMethod ({ cls := "CardTerminal$Reversals", name := "dropFirst", desc := "()V" } : Jvm.MethodName)) ∈ x_G := x_g3 (List.mem_of_getElem? (i := 53) rfl) rfl
set_option maxRecDepth 20000 in
theorem mk3_54 : (Jvm.Cond.selects "CardTerminal$Reversals" ({ cls := "CardTerminal$Reversals", name := "dropFirst", desc := "()V" } : Jvm.MethodName) ({ cls := "CardTerminal$Reversals", name := "dropFirst", desc := "()V" } : Jvm.MethodName)) ∈ x_G := x_g3 (List.mem_of_getElem? (i := 54) rfl) rfl
set_option maxRecDepth 20000 in
theorem mk3_55 : (Jvm.Cond.code ({ cls := "CardTerminal$Reversals", name := "dropFirst", desc := "()V" } : Jvm.MethodName) prog_6_method_4_code (2 : Nat) (Option.none : Option Jvm.ClassFile.FieldType)) ∈ x_G := x_g3 (List.mem_of_getElem? (i := 55) rfl) rfl
set_option maxRecDepth 20000 in
theorem mk3_56 : (Jvm.Cond.methodLink "CardTerminalLaw" (114 : Nat) ({ cls := "CardTerminal", name := "reversalCount", desc := "()I" } : Jvm.MethodName)) ∈ x_G := x_g3 (List.mem_of_getElem? (i := 56) rfl) rfl
set_option maxRecDepth 20000 in
theorem mk3_57 : (Jvm.Cond.instanceMethod ({ cls := "CardTerminal", name := "reversalCount", desc := "()I" } : Jvm.MethodName)) ∈ x_G := x_g3 (List.mem_of_getElem? (i := 57) rfl) rfl
set_option maxRecDepth 20000 in
theorem mk3_58 : (Jvm.Cond.selects "CardTerminal" ({ cls := "CardTerminal", name := "reversalCount", desc := "()I" } : Jvm.MethodName) ({ cls := "CardTerminal", name := "reversalCount", desc := "()I" } : Jvm.MethodName)) ∈ x_G := x_g3 (List.mem_of_getElem? (i := 58) rfl) rfl
set_option maxRecDepth 20000 in
theorem mk3_59 : (Jvm.Cond.code ({ cls := "CardTerminal", name := "reversalCount", desc := "()I" } : Jvm.MethodName) prog_1_method_30_code (1 : Nat) (Option.some Jvm.ClassFile.FieldType.int)) ∈ x_G := x_g3 (List.mem_of_getElem? (i := 59) rfl) rfl
set_option maxRecDepth 20000 in
theorem mk3_60 : (Jvm.Cond.methodLink "CardTerminalLaw" (118 : Nat) ({ cls := "CardTerminal", name := "verificationResults", desc := "()I" } : Jvm.MethodName)) ∈ x_G := x_g3 (List.mem_of_getElem? (i := 60) rfl) rfl
set_option maxRecDepth 20000 in
theorem mk3_61 : (Jvm.Cond.instanceMethod ({ cls := "CardTerminal", name := "verificationResults", desc := "()I" } : Jvm.MethodName)) ∈ x_G := x_g3 (List.mem_of_getElem? (i := 61) rfl) rfl
set_option maxRecDepth 20000 in
theorem mk3_62 : (Jvm.Cond.selects "CardTerminal" ({ cls := "CardTerminal", name := "verificationResults", desc := "()I" } : Jvm.MethodName) ({ cls := "CardTerminal", name := "verificationResults", desc := "()I" } : Jvm.MethodName)) ∈ x_G := x_g3 (List.mem_of_getElem? (i := 62) rfl) rfl
set_option maxRecDepth 20000 in
theorem mk3_63 : (Jvm.Cond.code ({ cls := "CardTerminal", name := "verificationResults", desc := "()I" } : Jvm.MethodName) prog_1_method_31_code (1 : Nat) (Option.some Jvm.ClassFile.FieldType.int)) ∈ x_G := x_g3 (List.mem_of_getElem? (i := 63) rfl) rfl
set_option maxRecDepth 20000 in
theorem mk3_64 : (Jvm.Cond.methodLink "CardTerminalLaw" (122 : Nat) ({ cls := "CardTerminal", name := "outcomeCount", desc := "(I)I" } : Jvm.MethodName)) ∈ x_G := x_g3 (List.mem_of_getElem? (i := 64) rfl) rfl
set_option maxRecDepth 20000 in
theorem mk3_65 : (Jvm.Cond.instanceMethod ({ cls := "CardTerminal", name := "outcomeCount", desc := "(I)I" } : Jvm.MethodName)) ∈ x_G := x_g3 (List.mem_of_getElem? (i := 65) rfl) rfl
set_option maxRecDepth 20000 in
theorem mk3_66 : (Jvm.Cond.selects "CardTerminal" ({ cls := "CardTerminal", name := "outcomeCount", desc := "(I)I" } : Jvm.MethodName) ({ cls := "CardTerminal", name := "outcomeCount", desc := "(I)I" } : Jvm.MethodName)) ∈ x_G := x_g3 (List.mem_of_getElem? (i := 66) rfl) rfl
set_option maxRecDepth 20000 in
theorem mk3_67 : (Jvm.Cond.code ({ cls := "CardTerminal", name := "outcomeCount", desc := "(I)I" } : Jvm.MethodName) prog_1_method_32_code (2 : Nat) (Option.some Jvm.ClassFile.FieldType.int)) ∈ x_G := x_g3 (List.mem_of_getElem? (i := 67) rfl) rfl
set_option maxRecDepth 20000 in
theorem mk3_68 : (Jvm.Cond.methodLink "CardTerminal" (214 : Nat) ({ cls := "CardTerminal", name := "isOutcome", desc := "(I)Z" } : Jvm.MethodName)) ∈ x_G := x_g3 (List.mem_of_getElem? (i := 68) rfl) rfl
set_option maxRecDepth 20000 in
theorem mk3_69 : (Jvm.Cond.static ({ cls := "CardTerminal", name := "isOutcome", desc := "(I)Z" } : Jvm.MethodName)) ∈ x_G := x_g3 (List.mem_of_getElem? (i := 69) rfl) rfl
set_option maxRecDepth 20000 in
theorem mk3_70 : (Jvm.Cond.code ({ cls := "CardTerminal", name := "isOutcome", desc := "(I)Z" } : Jvm.MethodName) prog_1_method_35_code (1 : Nat) (Option.some Jvm.ClassFile.FieldType.boolean)) ∈ x_G := x_g3 (List.mem_of_getElem? (i := 70) rfl) rfl
set_option maxRecDepth 20000 in
theorem mk3_71 : (Jvm.Cond.methodLink "CardTerminalLaw" (126 : Nat) ({ cls := "CardTerminal", name := "outcomeAmount", desc := "(I)I" } : Jvm.MethodName)) ∈ x_G := x_g3 (List.mem_of_getElem? (i := 71) rfl) rfl
set_option maxRecDepth 20000 in
theorem mk3_72 : (Jvm.Cond.instanceMethod ({ cls := "CardTerminal", name := "outcomeAmount", desc := "(I)I" } : Jvm.MethodName)) ∈ x_G := x_g3 (List.mem_of_getElem? (i := 72) rfl) rfl
set_option maxRecDepth 20000 in
theorem mk3_73 : (Jvm.Cond.selects "CardTerminal" ({ cls := "CardTerminal", name := "outcomeAmount", desc := "(I)I" } : Jvm.MethodName) ({ cls := "CardTerminal", name := "outcomeAmount", desc := "(I)I" } : Jvm.MethodName)) ∈ x_G := x_g3 (List.mem_of_getElem? (i := 73) rfl) rfl
set_option maxRecDepth 20000 in
theorem mk3_74 : (Jvm.Cond.code ({ cls := "CardTerminal", name := "outcomeAmount", desc := "(I)I" } : Jvm.MethodName) prog_1_method_33_code (2 : Nat) (Option.some Jvm.ClassFile.FieldType.int)) ∈ x_G := x_g3 (List.mem_of_getElem? (i := 74) rfl) rfl
set_option maxRecDepth 20000 in
theorem mk3_75 : (Jvm.Cond.methodLink "CardTerminalLaw" (130 : Nat) ({ cls := "CardTerminal", name := "offlineCounter", desc := "()I" } : Jvm.MethodName)) ∈ x_G := x_g3 (List.mem_of_getElem? (i := 75) rfl) rfl
set_option maxRecDepth 20000 in
theorem mk3_76 : (Jvm.Cond.instanceMethod ({ cls := "CardTerminal", name := "offlineCounter", desc := "()I" } : Jvm.MethodName)) ∈ x_G := x_g3 (List.mem_of_getElem? (i := 76) rfl) rfl
set_option maxRecDepth 20000 in
theorem mk3_77 : (Jvm.Cond.selects "CardTerminal" ({ cls := "CardTerminal", name := "offlineCounter", desc := "()I" } : Jvm.MethodName) ({ cls := "CardTerminal", name := "offlineCounter", desc := "()I" } : Jvm.MethodName)) ∈ x_G := x_g3 (List.mem_of_getElem? (i := 77) rfl) rfl
set_option maxRecDepth 20000 in
theorem mk3_78 : (Jvm.Cond.code ({ cls := "CardTerminal", name := "offlineCounter", desc := "()I" } : Jvm.MethodName) prog_1_method_34_code (1 : Nat) (Option.some Jvm.ClassFile.FieldType.int)) ∈ x_G := x_g3 (List.mem_of_getElem? (i := 78) rfl) rfl
set_option maxRecDepth 20000 in
theorem mk3_79 : (Jvm.Cond.classLink "CardTerminalLaw" (10 : Nat) "CardTerminalModel") ∈ x_G := x_g3 (List.mem_of_getElem? (i := 79) rfl) rfl
set_option maxRecDepth 20000 in
theorem mk3_80 : (Jvm.Cond.instantiable "CardTerminalModel" (37 : Nat)) ∈ x_G := x_g3 (List.mem_of_getElem? (i := 80) rfl) rfl
set_option maxRecDepth 20000 in
theorem mk3_81 : (Jvm.Cond.methodLink "CardTerminalLaw" (12 : Nat) ({ cls := "CardTerminalModel", name := "<init>", desc := "()V" } : Jvm.MethodName)) ∈ x_G := x_g3 (List.mem_of_getElem? (i := 81) rfl) rfl
set_option maxRecDepth 20000 in
theorem mk3_82 : (Jvm.Cond.instanceMethod ({ cls := "CardTerminalModel", name := "<init>", desc := "()V" } : Jvm.MethodName)) ∈ x_G := x_g3 (List.mem_of_getElem? (i := 82) rfl) rfl
set_option maxRecDepth 20000 in
theorem mk3_83 : (Jvm.Cond.code ({ cls := "CardTerminalModel", name := "<init>", desc := "()V" } : Jvm.MethodName) prog_10_method_1_code (1 : Nat) (Option.none : Option Jvm.ClassFile.FieldType)) ∈ x_G := x_g3 (List.mem_of_getElem? (i := 83) rfl) rfl
set_option maxRecDepth 20000 in
theorem mk3_84 : (Jvm.Cond.methodLink "CardTerminalModel" (1 : Nat) ({ cls := "java/lang/Object", name := "<init>", desc := "()V" } : Jvm.MethodName)) ∈ x_G := x_g3 (List.mem_of_getElem? (i := 84) rfl) rfl
set_option maxRecDepth 20000 in
theorem mk3_85 : (Jvm.Cond.fieldLink "CardTerminalModel" (91 : Nat) "CardTerminalModel" "length" "I") ∈ x_G := x_g3 (List.mem_of_getElem? (i := 85) rfl) rfl
set_option maxRecDepth 20000 in
theorem mk3_86 : (Jvm.Cond.fieldLink "CardTerminalModel" (7 : Nat) "CardTerminalModel" "bytes" "[I") ∈ x_G := x_g3 (List.mem_of_getElem? (i := 86) rfl) rfl
set_option maxRecDepth 20000 in
theorem mk3_87 : (Jvm.Cond.fieldLink "CardTerminalModel" (94 : Nat) "CardTerminalModel" "objects" "I") ∈ x_G := x_g3 (List.mem_of_getElem? (i := 87) rfl) rfl
set_option maxRecDepth 20000 in
theorem mk3_88 : (Jvm.Cond.fieldLink "CardTerminalModel" (13 : Nat) "CardTerminalModel" "tag" "[I") ∈ x_G := x_g3 (List.mem_of_getElem? (i := 88) rfl) rfl
set_option maxRecDepth 20000 in
theorem mk3_89 : (Jvm.Cond.fieldLink "CardTerminalModel" (16 : Nat) "CardTerminalModel" "depth" "[I") ∈ x_G := x_g3 (List.mem_of_getElem? (i := 89) rfl) rfl
set_option maxRecDepth 20000 in
theorem mk3_90 : (Jvm.Cond.fieldLink "CardTerminalModel" (19 : Nat) "CardTerminalModel" "size" "[I") ∈ x_G := x_g3 (List.mem_of_getElem? (i := 90) rfl) rfl
set_option maxRecDepth 20000 in
theorem mk3_91 : (Jvm.Cond.fieldLink "CardTerminalModel" (22 : Nat) "CardTerminalModel" "value" "[I") ∈ x_G := x_g3 (List.mem_of_getElem? (i := 91) rfl) rfl
set_option maxRecDepth 20000 in
theorem mk3_92 : (Jvm.Cond.fieldLink "CardTerminalModel" (25 : Nat) "CardTerminalModel" "ends" "[I") ∈ x_G := x_g3 (List.mem_of_getElem? (i := 92) rfl) rfl
set_option maxRecDepth 20000 in
theorem mk3_93 : (Jvm.Cond.fieldLink "CardTerminalModel" (111 : Nat) "CardTerminalModel" "applications" "I") ∈ x_G := x_g3 (List.mem_of_getElem? (i := 93) rfl) rfl
set_option maxRecDepth 20000 in
theorem mk3_94 : (Jvm.Cond.fieldLink "CardTerminalModel" (28 : Nat) "CardTerminalModel" "identifier" "[I") ∈ x_G := x_g3 (List.mem_of_getElem? (i := 94) rfl) rfl
set_option maxRecDepth 20000 in
theorem mk3_95 : (Jvm.Cond.fieldLink "CardTerminalModel" (31 : Nat) "CardTerminalModel" "identifierSize" "[I") ∈ x_G := x_g3 (List.mem_of_getElem? (i := 95) rfl) rfl
set_option maxRecDepth 20000 in
theorem mk3_96 : (Jvm.Cond.fieldLink "CardTerminalModel" (34 : Nat) "CardTerminalModel" "priority" "[I") ∈ x_G := x_g3 (List.mem_of_getElem? (i := 96) rfl) rfl
set_option maxRecDepth 20000 in
theorem mk3_97 : (Jvm.Cond.fieldLink "CardTerminalModel" (37 : Nat) "CardTerminalModel" "confirms" "[I") ∈ x_G := x_g3 (List.mem_of_getElem? (i := 97) rfl) rfl
set_option maxRecDepth 20000 in
theorem mk3_98 : (Jvm.Cond.fieldLink "CardTerminalModel" (40 : Nat) "CardTerminalModel" "issuer" "[I") ∈ x_G := x_g3 (List.mem_of_getElem? (i := 98) rfl) rfl
set_option maxRecDepth 20000 in
theorem mk3_99 : (Jvm.Cond.fieldLink "CardTerminalModel" (117 : Nat) "CardTerminalModel" "counter" "I") ∈ x_G := x_g3 (List.mem_of_getElem? (i := 99) rfl) rfl
set_option maxRecDepth 20000 in
theorem mk3_100 : (Jvm.Cond.fieldLink "CardTerminalModel" (43 : Nat) "CardTerminalModel" "isNew" "Z") ∈ x_G := x_g3 (List.mem_of_getElem? (i := 100) rfl) rfl
set_option maxRecDepth 20000 in
theorem mk3_101 : (Jvm.Cond.fieldLink "CardTerminalModel" (124 : Nat) "CardTerminalModel" "supported" "I") ∈ x_G := x_g3 (List.mem_of_getElem? (i := 101) rfl) rfl
set_option maxRecDepth 20000 in
theorem mk3_102 : (Jvm.Cond.fieldLink "CardTerminalModel" (47 : Nat) "CardTerminalModel" "accepted" "[I") ∈ x_G := x_g3 (List.mem_of_getElem? (i := 102) rfl) rfl
set_option maxRecDepth 20000 in
theorem mk3_103 : (Jvm.Cond.fieldLink "CardTerminalModel" (50 : Nat) "CardTerminalModel" "acceptedSize" "[I") ∈ x_G := x_g3 (List.mem_of_getElem? (i := 103) rfl) rfl
set_option maxRecDepth 20000 in
theorem mk3_104 : (Jvm.Cond.fieldLink "CardTerminalModel" (53 : Nat) "CardTerminalModel" "partial" "[I") ∈ x_G := x_g3 (List.mem_of_getElem? (i := 104) rfl) rfl
set_option maxRecDepth 20000 in
theorem mk3_105 : (Jvm.Cond.fieldLink "CardTerminalModel" (56 : Nat) "CardTerminalModel" "terminal" "[I") ∈ x_G := x_g3 (List.mem_of_getElem? (i := 105) rfl) rfl
set_option maxRecDepth 20000 in
theorem mk3_106 : (Jvm.Cond.fieldLink "CardTerminalModel" (59 : Nat) "CardTerminalModel" "floor" "I") ∈ x_G := x_g3 (List.mem_of_getElem? (i := 106) rfl) rfl
set_option maxRecDepth 20000 in
theorem mk3_107 : (Jvm.Cond.fieldLink "CardTerminalModel" (63 : Nat) "CardTerminalModel" "lower" "I") ∈ x_G := x_g3 (List.mem_of_getElem? (i := 107) rfl) rfl
set_option maxRecDepth 20000 in
theorem mk3_108 : (Jvm.Cond.fieldLink "CardTerminalModel" (66 : Nat) "CardTerminalModel" "upper" "I") ∈ x_G := x_g3 (List.mem_of_getElem? (i := 108) rfl) rfl
set_option maxRecDepth 20000 in
theorem mk3_109 : (Jvm.Cond.fieldLink "CardTerminalModel" (128 : Nat) "CardTerminalModel" "target" "I") ∈ x_G := x_g3 (List.mem_of_getElem? (i := 109) rfl) rfl
set_option maxRecDepth 20000 in
theorem mk3_110 : (Jvm.Cond.fieldLink "CardTerminalModel" (69 : Nat) "CardTerminalModel" "isOnline" "Z") ∈ x_G := x_g3 (List.mem_of_getElem? (i := 110) rfl) rfl
set_option maxRecDepth 20000 in
theorem mk3_111 : (Jvm.Cond.fieldLink "CardTerminalModel" (72 : Nat) "CardTerminalModel" "selected" "I") ∈ x_G := x_g3 (List.mem_of_getElem? (i := 111) rfl) rfl
set_option maxRecDepth 20000 in
theorem mk3_112 : (Jvm.Cond.fieldLink "CardTerminalModel" (148 : Nat) "CardTerminalModel" "transactions" "I") ∈ x_G := x_g3 (List.mem_of_getElem? (i := 112) rfl) rfl
set_option maxRecDepth 20000 in
theorem mk3_113 : (Jvm.Cond.fieldLink "CardTerminalModel" (143 : Nat) "CardTerminalModel" "results" "I") ∈ x_G := x_g3 (List.mem_of_getElem? (i := 113) rfl) rfl
set_option maxRecDepth 20000 in
theorem mk3_114 : (Jvm.Cond.fieldLink "CardTerminalModel" (140 : Nat) "CardTerminalModel" "amount" "I") ∈ x_G := x_g3 (List.mem_of_getElem? (i := 114) rfl) rfl
set_option maxRecDepth 20000 in
theorem mk3_115 : (Jvm.Cond.fieldLink "CardTerminalModel" (105 : Nat) "CardTerminalModel" "isPending" "Z") ∈ x_G := x_g3 (List.mem_of_getElem? (i := 115) rfl) rfl
set_option maxRecDepth 20000 in
theorem mk3_116 : (Jvm.Cond.fieldLink "CardTerminalModel" (75 : Nat) "CardTerminalModel" "queue" "[I") ∈ x_G := x_g3 (List.mem_of_getElem? (i := 116) rfl) rfl
set_option maxRecDepth 20000 in
theorem mk3_117 : (Jvm.Cond.fieldLink "CardTerminalModel" (151 : Nat) "CardTerminalModel" "queued" "I") ∈ x_G := x_g3 (List.mem_of_getElem? (i := 117) rfl) rfl
set_option maxRecDepth 20000 in
theorem mk3_118 : (Jvm.Cond.fieldLink "CardTerminalModel" (78 : Nat) "CardTerminalModel" "counts" "[I") ∈ x_G := x_g3 (List.mem_of_getElem? (i := 118) rfl) rfl
set_option maxRecDepth 20000 in
theorem mk3_119 : (Jvm.Cond.fieldLink "CardTerminalModel" (81 : Nat) "CardTerminalModel" "sums" "[I") ∈ x_G := x_g3 (List.mem_of_getElem? (i := 119) rfl) rfl
set_option maxRecDepth 20000 in
theorem mk3_120 : (Jvm.Cond.fieldLink "CardTerminalModel" (131 : Nat) "CardTerminalModel" "candidates" "I") ∈ x_G := x_g3 (List.mem_of_getElem? (i := 120) rfl) rfl
set_option maxRecDepth 20000 in
theorem mk3_121 : (Jvm.Cond.fieldLink "CardTerminalModel" (84 : Nat) "CardTerminalModel" "candidate" "[I") ∈ x_G := x_g3 (List.mem_of_getElem? (i := 121) rfl) rfl
set_option maxRecDepth 20000 in
theorem mk3_122 : (Jvm.Cond.lays "CardTerminalModel" "CardTerminalModel" "length" "I") ∈ x_G := x_g3 (List.mem_of_getElem? (i := 122) rfl) rfl
set_option maxRecDepth 20000 in
theorem mk3_124 : (Jvm.Cond.laysFinal "CardTerminalModel" "CardTerminalModel" "bytes" "[I") ∈ x_G := x_g3 (List.mem_of_getElem? (i := 124) rfl) rfl
set_option maxRecDepth 20000 in
theorem mk3_126 : (Jvm.Cond.lays "CardTerminalModel" "CardTerminalModel" "objects" "I") ∈ x_G := x_g3 (List.mem_of_getElem? (i := 126) rfl) rfl
set_option maxRecDepth 20000 in
theorem mk3_128 : (Jvm.Cond.laysFinal "CardTerminalModel" "CardTerminalModel" "tag" "[I") ∈ x_G := x_g3 (List.mem_of_getElem? (i := 128) rfl) rfl
set_option maxRecDepth 20000 in
theorem mk3_130 : (Jvm.Cond.laysFinal "CardTerminalModel" "CardTerminalModel" "depth" "[I") ∈ x_G := x_g3 (List.mem_of_getElem? (i := 130) rfl) rfl
set_option maxRecDepth 20000 in
theorem mk3_132 : (Jvm.Cond.laysFinal "CardTerminalModel" "CardTerminalModel" "size" "[I") ∈ x_G := x_g3 (List.mem_of_getElem? (i := 132) rfl) rfl
set_option maxRecDepth 20000 in
theorem mk3_134 : (Jvm.Cond.laysFinal "CardTerminalModel" "CardTerminalModel" "value" "[I") ∈ x_G := x_g3 (List.mem_of_getElem? (i := 134) rfl) rfl
set_option maxRecDepth 20000 in
theorem mk3_136 : (Jvm.Cond.laysFinal "CardTerminalModel" "CardTerminalModel" "ends" "[I") ∈ x_G := x_g3 (List.mem_of_getElem? (i := 136) rfl) rfl
set_option maxRecDepth 20000 in
theorem mk3_138 : (Jvm.Cond.lays "CardTerminalModel" "CardTerminalModel" "applications" "I") ∈ x_G := x_g3 (List.mem_of_getElem? (i := 138) rfl) rfl
set_option maxRecDepth 20000 in
theorem mk3_140 : (Jvm.Cond.laysFinal "CardTerminalModel" "CardTerminalModel" "identifier" "[I") ∈ x_G := x_g3 (List.mem_of_getElem? (i := 140) rfl) rfl
set_option maxRecDepth 20000 in
theorem mk3_142 : (Jvm.Cond.laysFinal "CardTerminalModel" "CardTerminalModel" "identifierSize" "[I") ∈ x_G := x_g3 (List.mem_of_getElem? (i := 142) rfl) rfl
set_option maxRecDepth 20000 in
theorem mk3_144 : (Jvm.Cond.laysFinal "CardTerminalModel" "CardTerminalModel" "priority" "[I") ∈ x_G := x_g3 (List.mem_of_getElem? (i := 144) rfl) rfl
set_option maxRecDepth 20000 in
theorem mk3_146 : (Jvm.Cond.laysFinal "CardTerminalModel" "CardTerminalModel" "confirms" "[I") ∈ x_G := x_g3 (List.mem_of_getElem? (i := 146) rfl) rfl
set_option maxRecDepth 20000 in
theorem mk3_148 : (Jvm.Cond.laysFinal "CardTerminalModel" "CardTerminalModel" "issuer" "[I") ∈ x_G := x_g3 (List.mem_of_getElem? (i := 148) rfl) rfl
set_option maxRecDepth 20000 in
theorem mk3_150 : (Jvm.Cond.lays "CardTerminalModel" "CardTerminalModel" "counter" "I") ∈ x_G := x_g3 (List.mem_of_getElem? (i := 150) rfl) rfl
set_option maxRecDepth 20000 in
theorem mk3_152 : (Jvm.Cond.lays "CardTerminalModel" "CardTerminalModel" "isNew" "Z") ∈ x_G := x_g3 (List.mem_of_getElem? (i := 152) rfl) rfl
set_option maxRecDepth 20000 in
theorem mk3_154 : (Jvm.Cond.lays "CardTerminalModel" "CardTerminalModel" "supported" "I") ∈ x_G := x_g3 (List.mem_of_getElem? (i := 154) rfl) rfl
set_option maxRecDepth 20000 in
theorem mk3_156 : (Jvm.Cond.laysFinal "CardTerminalModel" "CardTerminalModel" "accepted" "[I") ∈ x_G := x_g3 (List.mem_of_getElem? (i := 156) rfl) rfl
set_option maxRecDepth 20000 in
theorem mk3_158 : (Jvm.Cond.laysFinal "CardTerminalModel" "CardTerminalModel" "acceptedSize" "[I") ∈ x_G := x_g3 (List.mem_of_getElem? (i := 158) rfl) rfl
set_option maxRecDepth 20000 in
theorem mk3_160 : (Jvm.Cond.laysFinal "CardTerminalModel" "CardTerminalModel" "partial" "[I") ∈ x_G := x_g3 (List.mem_of_getElem? (i := 160) rfl) rfl
set_option maxRecDepth 20000 in
theorem mk3_162 : (Jvm.Cond.laysFinal "CardTerminalModel" "CardTerminalModel" "terminal" "[I") ∈ x_G := x_g3 (List.mem_of_getElem? (i := 162) rfl) rfl
set_option maxRecDepth 20000 in
theorem mk3_164 : (Jvm.Cond.lays "CardTerminalModel" "CardTerminalModel" "floor" "I") ∈ x_G := x_g3 (List.mem_of_getElem? (i := 164) rfl) rfl
set_option maxRecDepth 20000 in
theorem mk3_166 : (Jvm.Cond.lays "CardTerminalModel" "CardTerminalModel" "lower" "I") ∈ x_G := x_g3 (List.mem_of_getElem? (i := 166) rfl) rfl
set_option maxRecDepth 20000 in
theorem mk3_168 : (Jvm.Cond.lays "CardTerminalModel" "CardTerminalModel" "upper" "I") ∈ x_G := x_g3 (List.mem_of_getElem? (i := 168) rfl) rfl
set_option maxRecDepth 20000 in
theorem mk3_170 : (Jvm.Cond.lays "CardTerminalModel" "CardTerminalModel" "target" "I") ∈ x_G := x_g3 (List.mem_of_getElem? (i := 170) rfl) rfl
set_option maxRecDepth 20000 in
theorem mk3_172 : (Jvm.Cond.lays "CardTerminalModel" "CardTerminalModel" "isOnline" "Z") ∈ x_G := x_g3 (List.mem_of_getElem? (i := 172) rfl) rfl
set_option maxRecDepth 20000 in
theorem mk3_174 : (Jvm.Cond.lays "CardTerminalModel" "CardTerminalModel" "selected" "I") ∈ x_G := x_g3 (List.mem_of_getElem? (i := 174) rfl) rfl
set_option maxRecDepth 20000 in
theorem mk3_176 : (Jvm.Cond.lays "CardTerminalModel" "CardTerminalModel" "transactions" "I") ∈ x_G := x_g3 (List.mem_of_getElem? (i := 176) rfl) rfl
set_option maxRecDepth 20000 in
theorem mk3_178 : (Jvm.Cond.lays "CardTerminalModel" "CardTerminalModel" "results" "I") ∈ x_G := x_g3 (List.mem_of_getElem? (i := 178) rfl) rfl
set_option maxRecDepth 20000 in
theorem mk3_180 : (Jvm.Cond.lays "CardTerminalModel" "CardTerminalModel" "amount" "I") ∈ x_G := x_g3 (List.mem_of_getElem? (i := 180) rfl) rfl
set_option maxRecDepth 20000 in
theorem mk3_182 : (Jvm.Cond.lays "CardTerminalModel" "CardTerminalModel" "isPending" "Z") ∈ x_G := x_g3 (List.mem_of_getElem? (i := 182) rfl) rfl
set_option maxRecDepth 20000 in
theorem mk3_184 : (Jvm.Cond.laysFinal "CardTerminalModel" "CardTerminalModel" "queue" "[I") ∈ x_G := x_g3 (List.mem_of_getElem? (i := 184) rfl) rfl
set_option maxRecDepth 20000 in
theorem mk3_186 : (Jvm.Cond.lays "CardTerminalModel" "CardTerminalModel" "queued" "I") ∈ x_G := x_g3 (List.mem_of_getElem? (i := 186) rfl) rfl
set_option maxRecDepth 20000 in
theorem mk3_188 : (Jvm.Cond.laysFinal "CardTerminalModel" "CardTerminalModel" "counts" "[I") ∈ x_G := x_g3 (List.mem_of_getElem? (i := 188) rfl) rfl
set_option maxRecDepth 20000 in
theorem mk3_190 : (Jvm.Cond.laysFinal "CardTerminalModel" "CardTerminalModel" "sums" "[I") ∈ x_G := x_g3 (List.mem_of_getElem? (i := 190) rfl) rfl
set_option maxRecDepth 20000 in
theorem mk3_192 : (Jvm.Cond.lays "CardTerminalModel" "CardTerminalModel" "candidates" "I") ∈ x_G := x_g3 (List.mem_of_getElem? (i := 192) rfl) rfl
set_option maxRecDepth 20000 in
theorem mk3_194 : (Jvm.Cond.laysFinal "CardTerminalModel" "CardTerminalModel" "candidate" "[I") ∈ x_G := x_g3 (List.mem_of_getElem? (i := 194) rfl) rfl
set_option maxRecDepth 20000 in
theorem mk3_197 : (Jvm.Cond.methodLink "CardTerminalLaw" (17 : Nat) ({ cls := "CardTerminalModel", name := "appendByte", desc := "(I)I" } : Jvm.MethodName)) ∈ x_G := x_g3 (List.mem_of_getElem? (i := 197) rfl) rfl
set_option maxRecDepth 20000 in
theorem mk3_198 : (Jvm.Cond.instanceMethod ({ cls := "CardTerminalModel", name := "appendByte", desc := "(I)I" } : Jvm.MethodName)) ∈ x_G := x_g3 (List.mem_of_getElem? (i := 198) rfl) rfl
set_option maxRecDepth 20000 in
theorem mk3_199 : (Jvm.Cond.selects "CardTerminalModel" ({ cls := "CardTerminalModel", name := "appendByte", desc := "(I)I" } : Jvm.MethodName) ({ cls := "CardTerminalModel", name := "appendByte", desc := "(I)I" } : Jvm.MethodName)) ∈ x_G := x_g3 (List.mem_of_getElem? (i := 199) rfl) rfl
set_option maxRecDepth 20000 in
theorem mk3_200 : (Jvm.Cond.code ({ cls := "CardTerminalModel", name := "appendByte", desc := "(I)I" } : Jvm.MethodName) prog_10_method_3_code (2 : Nat) (Option.some Jvm.ClassFile.FieldType.int)) ∈ x_G := x_g3 (List.mem_of_getElem? (i := 200) rfl) rfl
set_option maxRecDepth 20000 in
theorem mk3_201 : (Jvm.Cond.methodLink "CardTerminalModel" (87 : Nat) ({ cls := "CardTerminalModel", name := "in", desc := "(III)Z" } : Jvm.MethodName)) ∈ x_G := x_g3 (List.mem_of_getElem? (i := 201) rfl) rfl
set_option maxRecDepth 20000 in
theorem mk3_202 : (Jvm.Cond.static ({ cls := "CardTerminalModel", name := "in", desc := "(III)Z" } : Jvm.MethodName)) ∈ x_G := x_g3 (List.mem_of_getElem? (i := 202) rfl) rfl
set_option maxRecDepth 20000 in
theorem mk3_203 : (Jvm.Cond.code ({ cls := "CardTerminalModel", name := "in", desc := "(III)Z" } : Jvm.MethodName) prog_10_method_2_code (3 : Nat) (Option.some Jvm.ClassFile.FieldType.boolean)) ∈ x_G := x_g3 (List.mem_of_getElem? (i := 203) rfl) rfl
set_option maxRecDepth 20000 in
theorem mk3_204 : (Jvm.Cond.methodLink "CardTerminalLaw" (22 : Nat) ({ cls := "CardTerminalModel", name := "clearBytes", desc := "()I" } : Jvm.MethodName)) ∈ x_G := x_g3 (List.mem_of_getElem? (i := 204) rfl) rfl
set_option maxRecDepth 20000 in
theorem mk3_205 : (Jvm.Cond.instanceMethod ({ cls := "CardTerminalModel", name := "clearBytes", desc := "()I" } : Jvm.MethodName)) ∈ x_G := x_g3 (List.mem_of_getElem? (i := 205) rfl) rfl
set_option maxRecDepth 20000 in
theorem mk3_206 : (Jvm.Cond.selects "CardTerminalModel" ({ cls := "CardTerminalModel", name := "clearBytes", desc := "()I" } : Jvm.MethodName) ({ cls := "CardTerminalModel", name := "clearBytes", desc := "()I" } : Jvm.MethodName)) ∈ x_G := x_g3 (List.mem_of_getElem? (i := 206) rfl) rfl
set_option maxRecDepth 20000 in
theorem mk3_207 : (Jvm.Cond.code ({ cls := "CardTerminalModel", name := "clearBytes", desc := "()I" } : Jvm.MethodName) prog_10_method_4_code (2 : Nat) (Option.some Jvm.ClassFile.FieldType.int)) ∈ x_G := x_g3 (List.mem_of_getElem? (i := 207) rfl) rfl
set_option maxRecDepth 20000 in
theorem mk3_208 : (Jvm.Cond.methodLink "CardTerminalLaw" (26 : Nat) ({ cls := "CardTerminalModel", name := "errorOffset", desc := "()I" } : Jvm.MethodName)) ∈ x_G := x_g3 (List.mem_of_getElem? (i := 208) rfl) rfl
set_option maxRecDepth 20000 in
theorem mk3_209 : (Jvm.Cond.instanceMethod ({ cls := "CardTerminalModel", name := "errorOffset", desc := "()I" } : Jvm.MethodName)) ∈ x_G := x_g3 (List.mem_of_getElem? (i := 209) rfl) rfl
set_option maxRecDepth 20000 in
theorem mk3_210 : (Jvm.Cond.selects "CardTerminalModel" ({ cls := "CardTerminalModel", name := "errorOffset", desc := "()I" } : Jvm.MethodName) ({ cls := "CardTerminalModel", name := "errorOffset", desc := "()I" } : Jvm.MethodName)) ∈ x_G := x_g3 (List.mem_of_getElem? (i := 210) rfl) rfl
set_option maxRecDepth 20000 in
theorem mk3_211 : (Jvm.Cond.code ({ cls := "CardTerminalModel", name := "errorOffset", desc := "()I" } : Jvm.MethodName) prog_10_method_6_code (1 : Nat) (Option.some Jvm.ClassFile.FieldType.int)) ∈ x_G := x_g3 (List.mem_of_getElem? (i := 211) rfl) rfl
set_option maxRecDepth 20000 in
theorem mk3_212 : (Jvm.Cond.methodLink "CardTerminalModel" (97 : Nat) ({ cls := "CardTerminalModel", name := "reads", desc := "()I" } : Jvm.MethodName)) ∈ x_G := x_g3 (List.mem_of_getElem? (i := 212) rfl) rfl
set_option maxRecDepth 20000 in
theorem mk3_214 : (Jvm.Cond.instanceMethod ({ cls := "CardTerminalModel", name := "reads", desc := "()I" } : Jvm.MethodName)) ∈ x_G := x_g3 (List.mem_of_getElem? (i := 214) rfl) rfl
set_option maxRecDepth 20000 in
theorem mk3_215 : (Jvm.Cond.code ({ cls := "CardTerminalModel", name := "reads", desc := "()I" } : Jvm.MethodName) prog_10_method_5_code (9 : Nat) (Option.some Jvm.ClassFile.FieldType.int)) ∈ x_G := x_g3 (List.mem_of_getElem? (i := 215) rfl) rfl
set_option maxRecDepth 20000 in
theorem mk3_216 : (Jvm.Cond.methodLink "CardTerminalLaw" (30 : Nat) ({ cls := "CardTerminalModel", name := "objectCount", desc := "()I" } : Jvm.MethodName)) ∈ x_G := x_g3 (List.mem_of_getElem? (i := 216) rfl) rfl
set_option maxRecDepth 20000 in
theorem mk3_217 : (Jvm.Cond.instanceMethod ({ cls := "CardTerminalModel", name := "objectCount", desc := "()I" } : Jvm.MethodName)) ∈ x_G := x_g3 (List.mem_of_getElem? (i := 217) rfl) rfl
set_option maxRecDepth 20000 in
theorem mk3_218 : (Jvm.Cond.selects "CardTerminalModel" ({ cls := "CardTerminalModel", name := "objectCount", desc := "()I" } : Jvm.MethodName) ({ cls := "CardTerminalModel", name := "objectCount", desc := "()I" } : Jvm.MethodName)) ∈ x_G := x_g3 (List.mem_of_getElem? (i := 218) rfl) rfl
set_option maxRecDepth 20000 in
theorem mk3_219 : (Jvm.Cond.code ({ cls := "CardTerminalModel", name := "objectCount", desc := "()I" } : Jvm.MethodName) prog_10_method_7_code (1 : Nat) (Option.some Jvm.ClassFile.FieldType.int)) ∈ x_G := x_g3 (List.mem_of_getElem? (i := 219) rfl) rfl
set_option maxRecDepth 20000 in
theorem mk3_220 : (Jvm.Cond.methodLink "CardTerminalLaw" (34 : Nat) ({ cls := "CardTerminalModel", name := "objectTag", desc := "(I)I" } : Jvm.MethodName)) ∈ x_G := x_g3 (List.mem_of_getElem? (i := 220) rfl) rfl
set_option maxRecDepth 20000 in
theorem mk3_221 : (Jvm.Cond.instanceMethod ({ cls := "CardTerminalModel", name := "objectTag", desc := "(I)I" } : Jvm.MethodName)) ∈ x_G := x_g3 (List.mem_of_getElem? (i := 221) rfl) rfl
set_option maxRecDepth 20000 in
theorem mk3_222 : (Jvm.Cond.selects "CardTerminalModel" ({ cls := "CardTerminalModel", name := "objectTag", desc := "(I)I" } : Jvm.MethodName) ({ cls := "CardTerminalModel", name := "objectTag", desc := "(I)I" } : Jvm.MethodName)) ∈ x_G := x_g3 (List.mem_of_getElem? (i := 222) rfl) rfl
set_option maxRecDepth 20000 in
theorem mk3_223 : (Jvm.Cond.code ({ cls := "CardTerminalModel", name := "objectTag", desc := "(I)I" } : Jvm.MethodName) prog_10_method_9_code (3 : Nat) (Option.some Jvm.ClassFile.FieldType.int)) ∈ x_G := x_g3 (List.mem_of_getElem? (i := 223) rfl) rfl
set_option maxRecDepth 20000 in
theorem mk3_224 : (Jvm.Cond.methodLink "CardTerminalModel" (101 : Nat) ({ cls := "CardTerminalModel", name := "errorOf", desc := "(I)I" } : Jvm.MethodName)) ∈ x_G := x_g3 (List.mem_of_getElem? (i := 224) rfl) rfl
set_option maxRecDepth 20000 in
theorem mk3_226 : (Jvm.Cond.instanceMethod ({ cls := "CardTerminalModel", name := "errorOf", desc := "(I)I" } : Jvm.MethodName)) ∈ x_G := x_g3 (List.mem_of_getElem? (i := 226) rfl) rfl
set_option maxRecDepth 20000 in
theorem mk3_227 : (Jvm.Cond.code ({ cls := "CardTerminalModel", name := "errorOf", desc := "(I)I" } : Jvm.MethodName) prog_10_method_8_code (2 : Nat) (Option.some Jvm.ClassFile.FieldType.int)) ∈ x_G := x_g3 (List.mem_of_getElem? (i := 227) rfl) rfl
set_option maxRecDepth 20000 in
theorem mk3_228 : (Jvm.Cond.methodLink "CardTerminalLaw" (38 : Nat) ({ cls := "CardTerminalModel", name := "objectDepth", desc := "(I)I" } : Jvm.MethodName)) ∈ x_G := x_g3 (List.mem_of_getElem? (i := 228) rfl) rfl
set_option maxRecDepth 20000 in
theorem mk3_229 : (Jvm.Cond.instanceMethod ({ cls := "CardTerminalModel", name := "objectDepth", desc := "(I)I" } : Jvm.MethodName)) ∈ x_G := x_g3 (List.mem_of_getElem? (i := 229) rfl) rfl
set_option maxRecDepth 20000 in
theorem mk3_230 : (Jvm.Cond.selects "CardTerminalModel" ({ cls := "CardTerminalModel", name := "objectDepth", desc := "(I)I" } : Jvm.MethodName) ({ cls := "CardTerminalModel", name := "objectDepth", desc := "(I)I" } : Jvm.MethodName)) ∈ x_G := x_g3 (List.mem_of_getElem? (i := 230) rfl) rfl
set_option maxRecDepth 20000 in
theorem mk3_231 : (Jvm.Cond.code ({ cls := "CardTerminalModel", name := "objectDepth", desc := "(I)I" } : Jvm.MethodName) prog_10_method_10_code (3 : Nat) (Option.some Jvm.ClassFile.FieldType.int)) ∈ x_G := x_g3 (List.mem_of_getElem? (i := 231) rfl) rfl
set_option maxRecDepth 20000 in
theorem mk3_232 : (Jvm.Cond.methodLink "CardTerminalLaw" (42 : Nat) ({ cls := "CardTerminalModel", name := "objectLength", desc := "(I)I" } : Jvm.MethodName)) ∈ x_G := x_g3 (List.mem_of_getElem? (i := 232) rfl) rfl
set_option maxRecDepth 20000 in
theorem mk3_233 : (Jvm.Cond.instanceMethod ({ cls := "CardTerminalModel", name := "objectLength", desc := "(I)I" } : Jvm.MethodName)) ∈ x_G := x_g3 (List.mem_of_getElem? (i := 233) rfl) rfl
set_option maxRecDepth 20000 in
theorem mk3_234 : (Jvm.Cond.selects "CardTerminalModel" ({ cls := "CardTerminalModel", name := "objectLength", desc := "(I)I" } : Jvm.MethodName) ({ cls := "CardTerminalModel", name := "objectLength", desc := "(I)I" } : Jvm.MethodName)) ∈ x_G := x_g3 (List.mem_of_getElem? (i := 234) rfl) rfl
set_option maxRecDepth 20000 in
theorem mk3_235 : (Jvm.Cond.code ({ cls := "CardTerminalModel", name := "objectLength", desc := "(I)I" } : Jvm.MethodName) prog_10_method_11_code (3 : Nat) (Option.some Jvm.ClassFile.FieldType.int)) ∈ x_G := x_g3 (List.mem_of_getElem? (i := 235) rfl) rfl
set_option maxRecDepth 20000 in
theorem mk3_236 : (Jvm.Cond.methodLink "CardTerminalLaw" (47 : Nat) ({ cls := "CardTerminalModel", name := "findObject", desc := "(II)I" } : Jvm.MethodName)) ∈ x_G := x_g3 (List.mem_of_getElem? (i := 236) rfl) rfl
set_option maxRecDepth 20000 in
theorem mk3_237 : (Jvm.Cond.instanceMethod ({ cls := "CardTerminalModel", name := "findObject", desc := "(II)I" } : Jvm.MethodName)) ∈ x_G := x_g3 (List.mem_of_getElem? (i := 237) rfl) rfl
set_option maxRecDepth 20000 in
theorem mk3_238 : (Jvm.Cond.selects "CardTerminalModel" ({ cls := "CardTerminalModel", name := "findObject", desc := "(II)I" } : Jvm.MethodName) ({ cls := "CardTerminalModel", name := "findObject", desc := "(II)I" } : Jvm.MethodName)) ∈ x_G := x_g3 (List.mem_of_getElem? (i := 238) rfl) rfl
set_option maxRecDepth 20000 in
theorem mk3_239 : (Jvm.Cond.code ({ cls := "CardTerminalModel", name := "findObject", desc := "(II)I" } : Jvm.MethodName) prog_10_method_12_code (4 : Nat) (Option.some Jvm.ClassFile.FieldType.int)) ∈ x_G := x_g3 (List.mem_of_getElem? (i := 239) rfl) rfl
