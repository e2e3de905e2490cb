/-! WHAT IS THERE FROM THE START -/
def rZs : List (String × String × String × rCV) := [("java/lang/String", "COMPACT_STRINGS", "Z", .inl 1), ("jdk/internal/util/Preconditions", "SIOOBE_FORMATTER", "Ljava/util/function/BiFunction;", .inr (.inr 20002)), ("NativeWorks$Instruction", "L_AT", "[I", .inr (.inr 70)), ("NativeWorks$Instruction", "ARITHMETIC", "[I", .inr (.inr 72)), ("NativeWorks$Instruction", "TABLE", "[I", .inr (.inr 74)), ("java/lang/Intege\x72", "DigitOnes", "[B", .inr (.inr 156)), ("java/lang/Intege\x72", "DigitTens", "[B", .inr (.inr 158)), ("NativeWorks$Linke\x72", "START", "[B", .inr (.inr 380)), ("NativeWorks$Assemble\x72", "SIZED_OPS", "[I", .inr (.inr 382)), ("NativeWorks$Assemble\x72", "SIZED_SIZES", "[I", .inr (.inr 384)), ("NativeWorks$Instruction", "COUNTS", "[I", .inr (.inr 386)), ("NativeWorks$Instruction", "M_AT", "[I", .inr (.inr 388)), ("NativeWorks$Instruction", "R_AT", "[I", .inr (.inr 390)), ("NativeWorks$Instruction", "N_AT", "[I", .inr (.inr 392)), ("NativeWorks$Instruction", "WIDTHS", "[I", .inr (.inr 394)), ("NativeWorks$Line", "KINDS", "[I", .inr (.inr 396))]
theorem kz0 : ("java/lang/String", "COMPACT_STRINGS", "Z", .inl 1) ∈ rZs := List.mem_of_getElem? (i := 0) rfl
theorem kz1 : ("jdk/internal/util/Preconditions", "SIOOBE_FORMATTER", "Ljava/util/function/BiFunction;", .inr (.inr 20002)) ∈ rZs := List.mem_of_getElem? (i := 1) rfl
theorem kz2 : ("NativeWorks$Instruction", "L_AT", "[I", .inr (.inr 70)) ∈ rZs := List.mem_of_getElem? (i := 2) rfl
theorem kz3 : ("NativeWorks$Instruction", "ARITHMETIC", "[I", .inr (.inr 72)) ∈ rZs := List.mem_of_getElem? (i := 3) rfl
theorem kz4 : ("NativeWorks$Instruction", "TABLE", "[I", .inr (.inr 74)) ∈ rZs := List.mem_of_getElem? (i := 4) rfl
theorem kz5 : ("java/lang/Intege\x72", "DigitOnes", "[B", .inr (.inr 156)) ∈ rZs := List.mem_of_getElem? (i := 5) rfl
theorem kz6 : ("java/lang/Intege\x72", "DigitTens", "[B", .inr (.inr 158)) ∈ rZs := List.mem_of_getElem? (i := 6) rfl
theorem kz7 : ("NativeWorks$Linke\x72", "START", "[B", .inr (.inr 380)) ∈ rZs := List.mem_of_getElem? (i := 7) rfl
theorem kz8 : ("NativeWorks$Assemble\x72", "SIZED_OPS", "[I", .inr (.inr 382)) ∈ rZs := List.mem_of_getElem? (i := 8) rfl
theorem kz9 : ("NativeWorks$Assemble\x72", "SIZED_SIZES", "[I", .inr (.inr 384)) ∈ rZs := List.mem_of_getElem? (i := 9) rfl
theorem kz10 : ("NativeWorks$Instruction", "COUNTS", "[I", .inr (.inr 386)) ∈ rZs := List.mem_of_getElem? (i := 10) rfl
theorem kz11 : ("NativeWorks$Instruction", "M_AT", "[I", .inr (.inr 388)) ∈ rZs := List.mem_of_getElem? (i := 11) rfl
theorem kz12 : ("NativeWorks$Instruction", "R_AT", "[I", .inr (.inr 390)) ∈ rZs := List.mem_of_getElem? (i := 12) rfl
theorem kz13 : ("NativeWorks$Instruction", "N_AT", "[I", .inr (.inr 392)) ∈ rZs := List.mem_of_getElem? (i := 13) rfl
theorem kz14 : ("NativeWorks$Instruction", "WIDTHS", "[I", .inr (.inr 394)) ∈ rZs := List.mem_of_getElem? (i := 14) rfl
theorem kz15 : ("NativeWorks$Line", "KINDS", "[I", .inr (.inr 396)) ∈ rZs := List.mem_of_getElem? (i := 15) rfl
def rRs : List (String × Nat × String × Nat) := [("NativeWorks$Line", 38, "rax rcx rdx rbx rsp rbp rsi rdi r8 r9 r10 r11 r12 r13 r14 r15 ", 0), ("NativeWorks$Line", 44, "eax ecx edx ebx esp ebp esi edi r8d r9d r10d r11d r12d r13d r14d r15d ", 2), ("NativeWorks$Line", 46, "al cl dl bl spl bpl sil dil r8b r9b r10b r11b r12b r13b r14b r15b ", 4), ("NativeWorks$Line", 48, "byte dword qword rel equ rep ", 6), ("NativeWorks$Line", 50, "if else endif rept endr macro endm ", 8), ("NativeWorks$Line", 52, "section global weak keep db dw dd dq resb align ", 10), ("NativeWorks$Line", 54, "add or adc sbb and sub xor cmp mov test xchg lea movzx movsx movsxd ", 12), ("NativeWorks$Line", 56, "not neg mul imul div idiv inc dec ", 14), ("NativeWorks$Line", 58, "rol ror shl shr sar push pop jmp call ret ", 16), ("NativeWorks$Line", 60, "nop int3 ud2 syscall leave bsf bsr bswap bt xadd cmpxchg ", 18), ("NativeWorks$Line", 62, "cdq cqo cwde cdqe movsb movsd movsq stosb stosd stosq ", 20), ("NativeWorks$Line", 64, "jo jno jb jae je jne jbe ja js jns jp jnp jl jge jle jg jc jnc jz jnz ", 22), ("NativeWorks$Line", 66, "seto setno setb setae sete setne setbe seta sets setns ", 24), ("NativeWorks$Line", 68, "setp setnp setl setge setle setg setc setnc setz setnz ", 26), ("NativeWorks$Line", 70, "cmovo cmovno cmovb cmovae cmove cmovne cmovbe cmova cmovs cmovns ", 28), ("NativeWorks$Line", 72, "cmovp cmovnp cmovl cmovge cmovle cmovg cmovc cmovnc cmovz cmovnz ", 30), ("NativeWorks$Line", 74, "text rodata data bss ", 32), ("NativeWorksModel", 486, "o", 37), ("NativeWorksModel", 488, "no", 39), ("NativeWorksModel", 490, "b", 41), ("NativeWorksModel", 492, "ae", 43), ("NativeWorksModel", 494, "e", 45), ("NativeWorksModel", 496, "ne", 47), ("NativeWorksModel", 498, "be", 49), ("NativeWorksModel", 500, "a", 51), ("NativeWorksModel", 502, "s", 53), ("NativeWorksModel", 504, "ns", 55), ("NativeWorksModel", 506, "p", 57), ("NativeWorksModel", 508, "np", 59), ("NativeWorksModel", 510, "l", 61), ("NativeWorksModel", 512, "ge", 63), ("NativeWorksModel", 514, "le", 65), ("NativeWorksModel", 516, "g", 67), ("NativeWorksModel", 518, "c", 69), ("NativeWorksModel", 520, "nc", 71), ("NativeWorksModel", 522, "z", 73), ("NativeWorksModel", 524, "nz", 75), ("NativeWorksModel", 541, "\x72", 79), ("NativeWorksModel", 546, "rax", 81), ("NativeWorksModel", 548, "rcx", 83), ("NativeWorksModel", 550, "rdx", 85), ("NativeWorksModel", 552, "rbx", 87), ("NativeWorksModel", 554, "rsp", 89), ("NativeWorksModel", 556, "rbp", 91), ("NativeWorksModel", 558, "rsi", 93), ("NativeWorksModel", 560, "rdi", 95), ("NativeWorksModel", 562, "eax", 97), ("NativeWorksModel", 564, "ecx", 99), ("NativeWorksModel", 566, "edx", 101), ("NativeWorksModel", 568, "ebx", 103), ("NativeWorksModel", 570, "esp", 105), ("NativeWorksModel", 572, "ebp", 107), ("NativeWorksModel", 574, "esi", 109), ("NativeWorksModel", 576, "edi", 111), ("NativeWorksModel", 578, "al", 113), ("NativeWorksModel", 580, "cl", 115), ("NativeWorksModel", 582, "dl", 117), ("NativeWorksModel", 584, "bl", 119), ("NativeWorksModel", 586, "spl", 121), ("NativeWorksModel", 588, "bpl", 123), ("NativeWorksModel", 590, "sil", 125), ("NativeWorksModel", 592, "dil", 127), ("NativeWorksModel", 597, "", 129), ("NativeWorksModel", 603, "d", 131), ("NativeWorksModel", 350, "add or adc sbb and sub xor cmp mov test xchg lea movzx movsx movsxd not neg mul imul div idiv inc dec", 133), ("NativeWorksModel", 356, "rol ror shl shr sar push pop jmp call ret", 135), ("NativeWorksModel", 358, "j", 137), ("NativeWorksModel", 363, "set", 139), ("NativeWorksModel", 365, "cmov", 141), ("NativeWorksModel", 367, "cdq", 143), ("NativeWorksModel", 373, "cqo", 145), ("NativeWorksModel", 376, "cwde", 147), ("NativeWorksModel", 379, "cdqe", 149), ("NativeWorksModel", 382, "nop int3 ud2 syscall leave bsf bsr bswap bt xadd cmpxchg", 151), ("NativeWorksModel", 384, "movsb", 153), ("NativeWorksModel", 387, "movsd", 155), ("NativeWorksModel", 390, "movsq", 157), ("NativeWorksModel", 393, "stosb", 159), ("NativeWorksModel", 396, "stosd", 161), ("NativeWorksModel", 399, "stosq", 163), ("NativeWorksModel", 402, "section global weak keep db dw dd dq resb align if else endif rept endr macro endm rep", 165), ("NativeWorksModel", 404, "byte", 167), ("NativeWorksModel", 406, "dword", 169), ("NativeWorksModel", 408, "qword", 171), ("NativeWorksModel", 410, "rel", 173), ("NativeWorksModel", 412, "equ", 175), ("NativeWorksModel", 417, "text", 177), ("NativeWorksModel", 427, "rodata", 179), ("NativeWorksModel", 432, "data", 181), ("NativeWorksModel", 436, "bss", 183), ("NativeWorksModel", 456, "rep", 185), ("NativeWorksModel", 461, "start", 187), ("NativeWorks", 111, "the units do not link", 10001), ("NativeWorks", 130, "the image has no such symbol", 10002), ("NativeWorks", 141, "there is no image", 10003), ("NativeWorks", 154, "not 1 to 4000 steps", 10004), ("NativeWorks", 168, "nothing is there to run", 10005), ("NativeWorks", 76, "there are 32 units", 10006), ("NativeWorks", 86, "the source has a fault", 10007)]
theorem kr0 : ("NativeWorks$Line", 38, "rax rcx rdx rbx rsp rbp rsi rdi r8 r9 r10 r11 r12 r13 r14 r15 ", 0) ∈ rRs := List.mem_of_getElem? (i := 0) rfl
theorem kr1 : ("NativeWorks$Line", 44, "eax ecx edx ebx esp ebp esi edi r8d r9d r10d r11d r12d r13d r14d r15d ", 2) ∈ rRs := List.mem_of_getElem? (i := 1) rfl
theorem kr2 : ("NativeWorks$Line", 46, "al cl dl bl spl bpl sil dil r8b r9b r10b r11b r12b r13b r14b r15b ", 4) ∈ rRs := List.mem_of_getElem? (i := 2) rfl
theorem kr3 : ("NativeWorks$Line", 48, "byte dword qword rel equ rep ", 6) ∈ rRs := List.mem_of_getElem? (i := 3) rfl
theorem kr4 : ("NativeWorks$Line", 50, "if else endif rept endr macro endm ", 8) ∈ rRs := List.mem_of_getElem? (i := 4) rfl
theorem kr5 : ("NativeWorks$Line", 52, "section global weak keep db dw dd dq resb align ", 10) ∈ rRs := List.mem_of_getElem? (i := 5) rfl
theorem kr6 : ("NativeWorks$Line", 54, "add or adc sbb and sub xor cmp mov test xchg lea movzx movsx movsxd ", 12) ∈ rRs := List.mem_of_getElem? (i := 6) rfl
theorem kr7 : ("NativeWorks$Line", 56, "not neg mul imul div idiv inc dec ", 14) ∈ rRs := List.mem_of_getElem? (i := 7) rfl
theorem kr8 : ("NativeWorks$Line", 58, "rol ror shl shr sar push pop jmp call ret ", 16) ∈ rRs := List.mem_of_getElem? (i := 8) rfl
theorem kr9 : ("NativeWorks$Line", 60, "nop int3 ud2 syscall leave bsf bsr bswap bt xadd cmpxchg ", 18) ∈ rRs := List.mem_of_getElem? (i := 9) rfl
theorem kr10 : ("NativeWorks$Line", 62, "cdq cqo cwde cdqe movsb movsd movsq stosb stosd stosq ", 20) ∈ rRs := List.mem_of_getElem? (i := 10) rfl
theorem kr11 : ("NativeWorks$Line", 64, "jo jno jb jae je jne jbe ja js jns jp jnp jl jge jle jg jc jnc jz jnz ", 22) ∈ rRs := List.mem_of_getElem? (i := 11) rfl
theorem kr12 : ("NativeWorks$Line", 66, "seto setno setb setae sete setne setbe seta sets setns ", 24) ∈ rRs := List.mem_of_getElem? (i := 12) rfl
theorem kr13 : ("NativeWorks$Line", 68, "setp setnp setl setge setle setg setc setnc setz setnz ", 26) ∈ rRs := List.mem_of_getElem? (i := 13) rfl
theorem kr14 : ("NativeWorks$Line", 70, "cmovo cmovno cmovb cmovae cmove cmovne cmovbe cmova cmovs cmovns ", 28) ∈ rRs := List.mem_of_getElem? (i := 14) rfl
theorem kr15 : ("NativeWorks$Line", 72, "cmovp cmovnp cmovl cmovge cmovle cmovg cmovc cmovnc cmovz cmovnz ", 30) ∈ rRs := List.mem_of_getElem? (i := 15) rfl
theorem kr16 : ("NativeWorks$Line", 74, "text rodata data bss ", 32) ∈ rRs := List.mem_of_getElem? (i := 16) rfl
theorem kr17 : ("NativeWorksModel", 486, "o", 37) ∈ rRs := List.mem_of_getElem? (i := 17) rfl
theorem kr18 : ("NativeWorksModel", 488, "no", 39) ∈ rRs := List.mem_of_getElem? (i := 18) rfl
theorem kr19 : ("NativeWorksModel", 490, "b", 41) ∈ rRs := List.mem_of_getElem? (i := 19) rfl
theorem kr20 : ("NativeWorksModel", 492, "ae", 43) ∈ rRs := List.mem_of_getElem? (i := 20) rfl
theorem kr21 : ("NativeWorksModel", 494, "e", 45) ∈ rRs := List.mem_of_getElem? (i := 21) rfl
theorem kr22 : ("NativeWorksModel", 496, "ne", 47) ∈ rRs := List.mem_of_getElem? (i := 22) rfl
theorem kr23 : ("NativeWorksModel", 498, "be", 49) ∈ rRs := List.mem_of_getElem? (i := 23) rfl
theorem kr24 : ("NativeWorksModel", 500, "a", 51) ∈ rRs := List.mem_of_getElem? (i := 24) rfl
theorem kr25 : ("NativeWorksModel", 502, "s", 53) ∈ rRs := List.mem_of_getElem? (i := 25) rfl
theorem kr26 : ("NativeWorksModel", 504, "ns", 55) ∈ rRs := List.mem_of_getElem? (i := 26) rfl
theorem kr27 : ("NativeWorksModel", 506, "p", 57) ∈ rRs := List.mem_of_getElem? (i := 27) rfl
theorem kr28 : ("NativeWorksModel", 508, "np", 59) ∈ rRs := List.mem_of_getElem? (i := 28) rfl
theorem kr29 : ("NativeWorksModel", 510, "l", 61) ∈ rRs := List.mem_of_getElem? (i := 29) rfl
theorem kr30 : ("NativeWorksModel", 512, "ge", 63) ∈ rRs := List.mem_of_getElem? (i := 30) rfl
theorem kr31 : ("NativeWorksModel", 514, "le", 65) ∈ rRs := List.mem_of_getElem? (i := 31) rfl
theorem kr32 : ("NativeWorksModel", 516, "g", 67) ∈ rRs := List.mem_of_getElem? (i := 32) rfl
theorem kr33 : ("NativeWorksModel", 518, "c", 69) ∈ rRs := List.mem_of_getElem? (i := 33) rfl
theorem kr34 : ("NativeWorksModel", 520, "nc", 71) ∈ rRs := List.mem_of_getElem? (i := 34) rfl
theorem kr35 : ("NativeWorksModel", 522, "z", 73) ∈ rRs := List.mem_of_getElem? (i := 35) rfl
theorem kr36 : ("NativeWorksModel", 524, "nz", 75) ∈ rRs := List.mem_of_getElem? (i := 36) rfl
theorem kr37 : ("NativeWorksModel", 541, "\x72", 79) ∈ rRs := List.mem_of_getElem? (i := 37) rfl
theorem kr38 : ("NativeWorksModel", 546, "rax", 81) ∈ rRs := List.mem_of_getElem? (i := 38) rfl
theorem kr39 : ("NativeWorksModel", 548, "rcx", 83) ∈ rRs := List.mem_of_getElem? (i := 39) rfl
theorem kr40 : ("NativeWorksModel", 550, "rdx", 85) ∈ rRs := List.mem_of_getElem? (i := 40) rfl
theorem kr41 : ("NativeWorksModel", 552, "rbx", 87) ∈ rRs := List.mem_of_getElem? (i := 41) rfl
theorem kr42 : ("NativeWorksModel", 554, "rsp", 89) ∈ rRs := List.mem_of_getElem? (i := 42) rfl
theorem kr43 : ("NativeWorksModel", 556, "rbp", 91) ∈ rRs := List.mem_of_getElem? (i := 43) rfl
theorem kr44 : ("NativeWorksModel", 558, "rsi", 93) ∈ rRs := List.mem_of_getElem? (i := 44) rfl
theorem kr45 : ("NativeWorksModel", 560, "rdi", 95) ∈ rRs := List.mem_of_getElem? (i := 45) rfl
theorem kr46 : ("NativeWorksModel", 562, "eax", 97) ∈ rRs := List.mem_of_getElem? (i := 46) rfl
theorem kr47 : ("NativeWorksModel", 564, "ecx", 99) ∈ rRs := List.mem_of_getElem? (i := 47) rfl
theorem kr48 : ("NativeWorksModel", 566, "edx", 101) ∈ rRs := List.mem_of_getElem? (i := 48) rfl
theorem kr49 : ("NativeWorksModel", 568, "ebx", 103) ∈ rRs := List.mem_of_getElem? (i := 49) rfl
theorem kr50 : ("NativeWorksModel", 570, "esp", 105) ∈ rRs := List.mem_of_getElem? (i := 50) rfl
theorem kr51 : ("NativeWorksModel", 572, "ebp", 107) ∈ rRs := List.mem_of_getElem? (i := 51) rfl
theorem kr52 : ("NativeWorksModel", 574, "esi", 109) ∈ rRs := List.mem_of_getElem? (i := 52) rfl
theorem kr53 : ("NativeWorksModel", 576, "edi", 111) ∈ rRs := List.mem_of_getElem? (i := 53) rfl
theorem kr54 : ("NativeWorksModel", 578, "al", 113) ∈ rRs := List.mem_of_getElem? (i := 54) rfl
theorem kr55 : ("NativeWorksModel", 580, "cl", 115) ∈ rRs := List.mem_of_getElem? (i := 55) rfl
theorem kr56 : ("NativeWorksModel", 582, "dl", 117) ∈ rRs := List.mem_of_getElem? (i := 56) rfl
theorem kr57 : ("NativeWorksModel", 584, "bl", 119) ∈ rRs := List.mem_of_getElem? (i := 57) rfl
theorem kr58 : ("NativeWorksModel", 586, "spl", 121) ∈ rRs := List.mem_of_getElem? (i := 58) rfl
theorem kr59 : ("NativeWorksModel", 588, "bpl", 123) ∈ rRs := List.mem_of_getElem? (i := 59) rfl
theorem kr60 : ("NativeWorksModel", 590, "sil", 125) ∈ rRs := List.mem_of_getElem? (i := 60) rfl
theorem kr61 : ("NativeWorksModel", 592, "dil", 127) ∈ rRs := List.mem_of_getElem? (i := 61) rfl
theorem kr62 : ("NativeWorksModel", 597, "", 129) ∈ rRs := List.mem_of_getElem? (i := 62) rfl
theorem kr63 : ("NativeWorksModel", 603, "d", 131) ∈ rRs := List.mem_of_getElem? (i := 63) rfl
theorem kr64 : ("NativeWorksModel", 350, "add or adc sbb and sub xor cmp mov test xchg lea movzx movsx movsxd not neg mul imul div idiv inc dec", 133) ∈ rRs := List.mem_of_getElem? (i := 64) rfl
theorem kr65 : ("NativeWorksModel", 356, "rol ror shl shr sar push pop jmp call ret", 135) ∈ rRs := List.mem_of_getElem? (i := 65) rfl
theorem kr66 : ("NativeWorksModel", 358, "j", 137) ∈ rRs := List.mem_of_getElem? (i := 66) rfl
theorem kr67 : ("NativeWorksModel", 363, "set", 139) ∈ rRs := List.mem_of_getElem? (i := 67) rfl
theorem kr68 : ("NativeWorksModel", 365, "cmov", 141) ∈ rRs := List.mem_of_getElem? (i := 68) rfl
theorem kr69 : ("NativeWorksModel", 367, "cdq", 143) ∈ rRs := List.mem_of_getElem? (i := 69) rfl
theorem kr70 : ("NativeWorksModel", 373, "cqo", 145) ∈ rRs := List.mem_of_getElem? (i := 70) rfl
theorem kr71 : ("NativeWorksModel", 376, "cwde", 147) ∈ rRs := List.mem_of_getElem? (i := 71) rfl
theorem kr72 : ("NativeWorksModel", 379, "cdqe", 149) ∈ rRs := List.mem_of_getElem? (i := 72) rfl
theorem kr73 : ("NativeWorksModel", 382, "nop int3 ud2 syscall leave bsf bsr bswap bt xadd cmpxchg", 151) ∈ rRs := List.mem_of_getElem? (i := 73) rfl
theorem kr74 : ("NativeWorksModel", 384, "movsb", 153) ∈ rRs := List.mem_of_getElem? (i := 74) rfl
theorem kr75 : ("NativeWorksModel", 387, "movsd", 155) ∈ rRs := List.mem_of_getElem? (i := 75) rfl
theorem kr76 : ("NativeWorksModel", 390, "movsq", 157) ∈ rRs := List.mem_of_getElem? (i := 76) rfl
theorem kr77 : ("NativeWorksModel", 393, "stosb", 159) ∈ rRs := List.mem_of_getElem? (i := 77) rfl
theorem kr78 : ("NativeWorksModel", 396, "stosd", 161) ∈ rRs := List.mem_of_getElem? (i := 78) rfl
theorem kr79 : ("NativeWorksModel", 399, "stosq", 163) ∈ rRs := List.mem_of_getElem? (i := 79) rfl
theorem kr80 : ("NativeWorksModel", 402, "section global weak keep db dw dd dq resb align if else endif rept endr macro endm rep", 165) ∈ rRs := List.mem_of_getElem? (i := 80) rfl
theorem kr81 : ("NativeWorksModel", 404, "byte", 167) ∈ rRs := List.mem_of_getElem? (i := 81) rfl
theorem kr82 : ("NativeWorksModel", 406, "dword", 169) ∈ rRs := List.mem_of_getElem? (i := 82) rfl
theorem kr83 : ("NativeWorksModel", 408, "qword", 171) ∈ rRs := List.mem_of_getElem? (i := 83) rfl
theorem kr84 : ("NativeWorksModel", 410, "rel", 173) ∈ rRs := List.mem_of_getElem? (i := 84) rfl
theorem kr85 : ("NativeWorksModel", 412, "equ", 175) ∈ rRs := List.mem_of_getElem? (i := 85) rfl
theorem kr86 : ("NativeWorksModel", 417, "text", 177) ∈ rRs := List.mem_of_getElem? (i := 86) rfl
theorem kr87 : ("NativeWorksModel", 427, "rodata", 179) ∈ rRs := List.mem_of_getElem? (i := 87) rfl
theorem kr88 : ("NativeWorksModel", 432, "data", 181) ∈ rRs := List.mem_of_getElem? (i := 88) rfl
theorem kr89 : ("NativeWorksModel", 436, "bss", 183) ∈ rRs := List.mem_of_getElem? (i := 89) rfl
theorem kr90 : ("NativeWorksModel", 456, "rep", 185) ∈ rRs := List.mem_of_getElem? (i := 90) rfl
theorem kr91 : ("NativeWorksModel", 461, "start", 187) ∈ rRs := List.mem_of_getElem? (i := 91) rfl
theorem kr92 : ("NativeWorks", 111, "the units do not link", 10001) ∈ rRs := List.mem_of_getElem? (i := 92) rfl
theorem kr93 : ("NativeWorks", 130, "the image has no such symbol", 10002) ∈ rRs := List.mem_of_getElem? (i := 93) rfl
theorem kr94 : ("NativeWorks", 141, "there is no image", 10003) ∈ rRs := List.mem_of_getElem? (i := 94) rfl
theorem kr95 : ("NativeWorks", 154, "not 1 to 4000 steps", 10004) ∈ rRs := List.mem_of_getElem? (i := 95) rfl
theorem kr96 : ("NativeWorks", 168, "nothing is there to run", 10005) ∈ rRs := List.mem_of_getElem? (i := 96) rfl
theorem kr97 : ("NativeWorks", 76, "there are 32 units", 10006) ∈ rRs := List.mem_of_getElem? (i := 97) rfl
theorem kr98 : ("NativeWorks", 86, "the source has a fault", 10007) ∈ rRs := List.mem_of_getElem? (i := 98) rfl
noncomputable def rFo : List rCC := [.inl (0, [.inr (.inr 4), .inl 0]),
  .inr (2, 62, .inl 0, [(0, [(0, .inl 114), (1, .inl 97), (2, .inl 120), (3, .inl 32), (4, .inl 114), (5, .inl 99), (6, .inl 120), (7, .inl 32), (8, .inl 114), (9, .inl 100), (10, .inl 120), (11, .inl 32), (12, .inl 114), (13, .inl 98), (14, .inl 120), (15, .inl 32), (16, .inl 114), (17, .inl 115), (18, .inl 112), (19, .inl 32), (20, .inl 114), (21, .inl 98), (22, .inl 112), (23, .inl 32), (24, .inl 114), (25, .inl 115), (26, .inl 105), (27, .inl 32), (28, .inl 114), (29, .inl 100), (30, .inl 105), (31, .inl 32), (32, .inl 114), (33, .inl 56), (34, .inl 32), (35, .inl 114), (36, .inl 57), (37, .inl 32), (38, .inl 114), (39, .inl 49), (40, .inl 48), (41, .inl 32), (42, .inl 114), (43, .inl 49), (44, .inl 49), (45, .inl 32), (46, .inl 114), (47, .inl 49), (48, .inl 50), (49, .inl 32), (50, .inl 114), (51, .inl 49), (52, .inl 51), (53, .inl 32), (54, .inl 114), (55, .inl 49), (56, .inl 52), (57, .inl 32), (58, .inl 114), (59, .inl 49), (60, .inl 53), (61, .inl 32)])]),
  .inl (0, [.inr (.inr 8), .inl 0]),
  .inr (2, 70, .inl 0, [(0, [(0, .inl 101), (1, .inl 97), (2, .inl 120), (3, .inl 32), (4, .inl 101), (5, .inl 99), (6, .inl 120), (7, .inl 32), (8, .inl 101), (9, .inl 100), (10, .inl 120), (11, .inl 32), (12, .inl 101), (13, .inl 98), (14, .inl 120), (15, .inl 32), (16, .inl 101), (17, .inl 115), (18, .inl 112), (19, .inl 32), (20, .inl 101), (21, .inl 98), (22, .inl 112), (23, .inl 32), (24, .inl 101), (25, .inl 115), (26, .inl 105), (27, .inl 32), (28, .inl 101), (29, .inl 100), (30, .inl 105), (31, .inl 32), (32, .inl 114), (33, .inl 56), (34, .inl 100), (35, .inl 32), (36, .inl 114), (37, .inl 57), (38, .inl 100), (39, .inl 32), (40, .inl 114), (41, .inl 49), (42, .inl 48), (43, .inl 100), (44, .inl 32), (45, .inl 114), (46, .inl 49), (47, .inl 49), (48, .inl 100), (49, .inl 32), (50, .inl 114), (51, .inl 49), (52, .inl 50), (53, .inl 100), (54, .inl 32), (55, .inl 114), (56, .inl 49), (57, .inl 51), (58, .inl 100), (59, .inl 32), (60, .inl 114), (61, .inl 49), (62, .inl 52), (63, .inl 100)]), (1, [(64, .inl 32), (65, .inl 114), (66, .inl 49), (67, .inl 53), (68, .inl 100), (69, .inl 32)])]),
  .inl (0, [.inr (.inr 12), .inl 0]),
  .inr (2, 66, .inl 0, [(0, [(0, .inl 97), (1, .inl 108), (2, .inl 32), (3, .inl 99), (4, .inl 108), (5, .inl 32), (6, .inl 100), (7, .inl 108), (8, .inl 32), (9, .inl 98), (10, .inl 108), (11, .inl 32), (12, .inl 115), (13, .inl 112), (14, .inl 108), (15, .inl 32), (16, .inl 98), (17, .inl 112), (18, .inl 108), (19, .inl 32), (20, .inl 115), (21, .inl 105), (22, .inl 108), (23, .inl 32), (24, .inl 100), (25, .inl 105), (26, .inl 108), (27, .inl 32), (28, .inl 114), (29, .inl 56), (30, .inl 98), (31, .inl 32), (32, .inl 114), (33, .inl 57), (34, .inl 98), (35, .inl 32), (36, .inl 114), (37, .inl 49), (38, .inl 48), (39, .inl 98), (40, .inl 32), (41, .inl 114), (42, .inl 49), (43, .inl 49), (44, .inl 98), (45, .inl 32), (46, .inl 114), (47, .inl 49), (48, .inl 50), (49, .inl 98), (50, .inl 32), (51, .inl 114), (52, .inl 49), (53, .inl 51), (54, .inl 98), (55, .inl 32), (56, .inl 114), (57, .inl 49), (58, .inl 52), (59, .inl 98), (60, .inl 32), (61, .inl 114), (62, .inl 49), (63, .inl 53)]), (1, [(64, .inl 98), (65, .inl 32)])]),
  .inl (0, [.inr (.inr 16), .inl 0]),
  .inr (2, 29, .inl 0, [(0, [(0, .inl 98), (1, .inl 121), (2, .inl 116), (3, .inl 101), (4, .inl 32), (5, .inl 100), (6, .inl 119), (7, .inl 111), (8, .inl 114), (9, .inl 100), (10, .inl 32), (11, .inl 113), (12, .inl 119), (13, .inl 111), (14, .inl 114), (15, .inl 100), (16, .inl 32), (17, .inl 114), (18, .inl 101), (19, .inl 108), (20, .inl 32), (21, .inl 101), (22, .inl 113), (23, .inl 117), (24, .inl 32), (25, .inl 114), (26, .inl 101), (27, .inl 112), (28, .inl 32)])]),
  .inl (0, [.inr (.inr 20), .inl 0]),
  .inr (2, 35, .inl 0, [(0, [(0, .inl 105), (1, .inl 102), (2, .inl 32), (3, .inl 101), (4, .inl 108), (5, .inl 115), (6, .inl 101), (7, .inl 32), (8, .inl 101), (9, .inl 110), (10, .inl 100), (11, .inl 105), (12, .inl 102), (13, .inl 32), (14, .inl 114), (15, .inl 101), (16, .inl 112), (17, .inl 116), (18, .inl 32), (19, .inl 101), (20, .inl 110), (21, .inl 100), (22, .inl 114), (23, .inl 32), (24, .inl 109), (25, .inl 97), (26, .inl 99), (27, .inl 114), (28, .inl 111), (29, .inl 32), (30, .inl 101), (31, .inl 110), (32, .inl 100), (33, .inl 109), (34, .inl 32)])]),
  .inl (0, [.inr (.inr 24), .inl 0]),
  .inr (2, 48, .inl 0, [(0, [(0, .inl 115), (1, .inl 101), (2, .inl 99), (3, .inl 116), (4, .inl 105), (5, .inl 111), (6, .inl 110), (7, .inl 32), (8, .inl 103), (9, .inl 108), (10, .inl 111), (11, .inl 98), (12, .inl 97), (13, .inl 108), (14, .inl 32), (15, .inl 119), (16, .inl 101), (17, .inl 97), (18, .inl 107), (19, .inl 32), (20, .inl 107), (21, .inl 101), (22, .inl 101), (23, .inl 112), (24, .inl 32), (25, .inl 100), (26, .inl 98), (27, .inl 32), (28, .inl 100), (29, .inl 119), (30, .inl 32), (31, .inl 100), (32, .inl 100), (33, .inl 32), (34, .inl 100), (35, .inl 113), (36, .inl 32), (37, .inl 114), (38, .inl 101), (39, .inl 115), (40, .inl 98), (41, .inl 32), (42, .inl 97), (43, .inl 108), (44, .inl 105), (45, .inl 103), (46, .inl 110), (47, .inl 32)])]),
  .inl (0, [.inr (.inr 28), .inl 0]),
  .inr (2, 68, .inl 0, [(0, [(0, .inl 97), (1, .inl 100), (2, .inl 100), (3, .inl 32), (4, .inl 111), (5, .inl 114), (6, .inl 32), (7, .inl 97), (8, .inl 100), (9, .inl 99), (10, .inl 32), (11, .inl 115), (12, .inl 98), (13, .inl 98), (14, .inl 32), (15, .inl 97), (16, .inl 110), (17, .inl 100), (18, .inl 32), (19, .inl 115), (20, .inl 117), (21, .inl 98), (22, .inl 32), (23, .inl 120), (24, .inl 111), (25, .inl 114), (26, .inl 32), (27, .inl 99), (28, .inl 109), (29, .inl 112), (30, .inl 32), (31, .inl 109), (32, .inl 111), (33, .inl 118), (34, .inl 32), (35, .inl 116), (36, .inl 101), (37, .inl 115), (38, .inl 116), (39, .inl 32), (40, .inl 120), (41, .inl 99), (42, .inl 104), (43, .inl 103), (44, .inl 32), (45, .inl 108), (46, .inl 101), (47, .inl 97), (48, .inl 32), (49, .inl 109), (50, .inl 111), (51, .inl 118), (52, .inl 122), (53, .inl 120), (54, .inl 32), (55, .inl 109), (56, .inl 111), (57, .inl 118), (58, .inl 115), (59, .inl 120), (60, .inl 32), (61, .inl 109), (62, .inl 111), (63, .inl 118)]), (1, [(64, .inl 115), (65, .inl 120), (66, .inl 100), (67, .inl 32)])]),
  .inl (0, [.inr (.inr 32), .inl 0]),
  .inr (2, 34, .inl 0, [(0, [(0, .inl 110), (1, .inl 111), (2, .inl 116), (3, .inl 32), (4, .inl 110), (5, .inl 101), (6, .inl 103), (7, .inl 32), (8, .inl 109), (9, .inl 117), (10, .inl 108), (11, .inl 32), (12, .inl 105), (13, .inl 109), (14, .inl 117), (15, .inl 108), (16, .inl 32), (17, .inl 100), (18, .inl 105), (19, .inl 118), (20, .inl 32), (21, .inl 105), (22, .inl 100), (23, .inl 105), (24, .inl 118), (25, .inl 32), (26, .inl 105), (27, .inl 110), (28, .inl 99), (29, .inl 32), (30, .inl 100), (31, .inl 101), (32, .inl 99), (33, .inl 32)])]),
  .inl (0, [.inr (.inr 36), .inl 0]),
  .inr (2, 42, .inl 0, [(0, [(0, .inl 114), (1, .inl 111), (2, .inl 108), (3, .inl 32), (4, .inl 114), (5, .inl 111), (6, .inl 114), (7, .inl 32), (8, .inl 115), (9, .inl 104), (10, .inl 108), (11, .inl 32), (12, .inl 115), (13, .inl 104), (14, .inl 114), (15, .inl 32), (16, .inl 115), (17, .inl 97), (18, .inl 114), (19, .inl 32), (20, .inl 112), (21, .inl 117), (22, .inl 115), (23, .inl 104), (24, .inl 32), (25, .inl 112), (26, .inl 111), (27, .inl 112), (28, .inl 32), (29, .inl 106), (30, .inl 109), (31, .inl 112), (32, .inl 32), (33, .inl 99), (34, .inl 97), (35, .inl 108), (36, .inl 108), (37, .inl 32), (38, .inl 114), (39, .inl 101), (40, .inl 116), (41, .inl 32)])]),
  .inl (0, [.inr (.inr 40), .inl 0]),
  .inr (2, 57, .inl 0, [(0, [(0, .inl 110), (1, .inl 111), (2, .inl 112), (3, .inl 32), (4, .inl 105), (5, .inl 110), (6, .inl 116), (7, .inl 51), (8, .inl 32), (9, .inl 117), (10, .inl 100), (11, .inl 50), (12, .inl 32), (13, .inl 115), (14, .inl 121), (15, .inl 115), (16, .inl 99), (17, .inl 97), (18, .inl 108), (19, .inl 108), (20, .inl 32), (21, .inl 108), (22, .inl 101), (23, .inl 97), (24, .inl 118), (25, .inl 101), (26, .inl 32), (27, .inl 98), (28, .inl 115), (29, .inl 102), (30, .inl 32), (31, .inl 98), (32, .inl 115), (33, .inl 114), (34, .inl 32), (35, .inl 98), (36, .inl 115), (37, .inl 119), (38, .inl 97), (39, .inl 112), (40, .inl 32), (41, .inl 98), (42, .inl 116), (43, .inl 32), (44, .inl 120), (45, .inl 97), (46, .inl 100), (47, .inl 100), (48, .inl 32), (49, .inl 99), (50, .inl 109), (51, .inl 112), (52, .inl 120), (53, .inl 99), (54, .inl 104), (55, .inl 103), (56, .inl 32)])]),
  .inl (0, [.inr (.inr 44), .inl 0]),
  .inr (2, 54, .inl 0, [(0, [(0, .inl 99), (1, .inl 100), (2, .inl 113), (3, .inl 32), (4, .inl 99), (5, .inl 113), (6, .inl 111), (7, .inl 32), (8, .inl 99), (9, .inl 119), (10, .inl 100), (11, .inl 101), (12, .inl 32), (13, .inl 99), (14, .inl 100), (15, .inl 113), (16, .inl 101), (17, .inl 32), (18, .inl 109), (19, .inl 111), (20, .inl 118), (21, .inl 115), (22, .inl 98), (23, .inl 32), (24, .inl 109), (25, .inl 111), (26, .inl 118), (27, .inl 115), (28, .inl 100), (29, .inl 32), (30, .inl 109), (31, .inl 111), (32, .inl 118), (33, .inl 115), (34, .inl 113), (35, .inl 32), (36, .inl 115), (37, .inl 116), (38, .inl 111), (39, .inl 115), (40, .inl 98), (41, .inl 32), (42, .inl 115), (43, .inl 116), (44, .inl 111), (45, .inl 115), (46, .inl 100), (47, .inl 32), (48, .inl 115), (49, .inl 116), (50, .inl 111), (51, .inl 115), (52, .inl 113), (53, .inl 32)])]),
  .inl (0, [.inr (.inr 48), .inl 0]),
  .inr (2, 70, .inl 0, [(0, [(0, .inl 106), (1, .inl 111), (2, .inl 32), (3, .inl 106), (4, .inl 110), (5, .inl 111), (6, .inl 32), (7, .inl 106), (8, .inl 98), (9, .inl 32), (10, .inl 106), (11, .inl 97), (12, .inl 101), (13, .inl 32), (14, .inl 106), (15, .inl 101), (16, .inl 32), (17, .inl 106), (18, .inl 110), (19, .inl 101), (20, .inl 32), (21, .inl 106), (22, .inl 98), (23, .inl 101), (24, .inl 32), (25, .inl 106), (26, .inl 97), (27, .inl 32), (28, .inl 106), (29, .inl 115), (30, .inl 32), (31, .inl 106), (32, .inl 110), (33, .inl 115), (34, .inl 32), (35, .inl 106), (36, .inl 112), (37, .inl 32), (38, .inl 106), (39, .inl 110), (40, .inl 112), (41, .inl 32), (42, .inl 106), (43, .inl 108), (44, .inl 32), (45, .inl 106), (46, .inl 103), (47, .inl 101), (48, .inl 32), (49, .inl 106), (50, .inl 108), (51, .inl 101), (52, .inl 32), (53, .inl 106), (54, .inl 103), (55, .inl 32), (56, .inl 106), (57, .inl 99), (58, .inl 32), (59, .inl 106), (60, .inl 110), (61, .inl 99), (62, .inl 32), (63, .inl 106)]), (1, [(64, .inl 122), (65, .inl 32), (66, .inl 106), (67, .inl 110), (68, .inl 122), (69, .inl 32)])]),
  .inl (0, [.inr (.inr 52), .inl 0]),
  .inr (2, 55, .inl 0, [(0, [(0, .inl 115), (1, .inl 101), (2, .inl 116), (3, .inl 111), (4, .inl 32), (5, .inl 115), (6, .inl 101), (7, .inl 116), (8, .inl 110), (9, .inl 111), (10, .inl 32), (11, .inl 115), (12, .inl 101), (13, .inl 116), (14, .inl 98), (15, .inl 32), (16, .inl 115), (17, .inl 101), (18, .inl 116), (19, .inl 97), (20, .inl 101), (21, .inl 32), (22, .inl 115), (23, .inl 101), (24, .inl 116), (25, .inl 101), (26, .inl 32), (27, .inl 115), (28, .inl 101), (29, .inl 116), (30, .inl 110), (31, .inl 101), (32, .inl 32), (33, .inl 115), (34, .inl 101), (35, .inl 116), (36, .inl 98), (37, .inl 101), (38, .inl 32), (39, .inl 115), (40, .inl 101), (41, .inl 116), (42, .inl 97), (43, .inl 32), (44, .inl 115), (45, .inl 101), (46, .inl 116), (47, .inl 115), (48, .inl 32), (49, .inl 115), (50, .inl 101), (51, .inl 116), (52, .inl 110), (53, .inl 115), (54, .inl 32)])]),
  .inl (0, [.inr (.inr 56), .inl 0]),
  .inr (2, 55, .inl 0, [(0, [(0, .inl 115), (1, .inl 101), (2, .inl 116), (3, .inl 112), (4, .inl 32), (5, .inl 115), (6, .inl 101), (7, .inl 116), (8, .inl 110), (9, .inl 112), (10, .inl 32), (11, .inl 115), (12, .inl 101), (13, .inl 116), (14, .inl 108), (15, .inl 32), (16, .inl 115), (17, .inl 101), (18, .inl 116), (19, .inl 103), (20, .inl 101), (21, .inl 32), (22, .inl 115), (23, .inl 101), (24, .inl 116), (25, .inl 108), (26, .inl 101), (27, .inl 32), (28, .inl 115), (29, .inl 101), (30, .inl 116), (31, .inl 103), (32, .inl 32), (33, .inl 115), (34, .inl 101), (35, .inl 116), (36, .inl 99), (37, .inl 32), (38, .inl 115), (39, .inl 101), (40, .inl 116), (41, .inl 110), (42, .inl 99), (43, .inl 32), (44, .inl 115), (45, .inl 101), (46, .inl 116), (47, .inl 122), (48, .inl 32), (49, .inl 115), (50, .inl 101), (51, .inl 116), (52, .inl 110), (53, .inl 122), (54, .inl 32)])]),
  .inl (0, [.inr (.inr 60), .inl 0]),
  .inr (2, 65, .inl 0, [(0, [(0, .inl 99), (1, .inl 109), (2, .inl 111), (3, .inl 118), (4, .inl 111), (5, .inl 32), (6, .inl 99), (7, .inl 109), (8, .inl 111), (9, .inl 118), (10, .inl 110), (11, .inl 111), (12, .inl 32), (13, .inl 99), (14, .inl 109), (15, .inl 111), (16, .inl 118), (17, .inl 98), (18, .inl 32), (19, .inl 99), (20, .inl 109), (21, .inl 111), (22, .inl 118), (23, .inl 97), (24, .inl 101), (25, .inl 32), (26, .inl 99), (27, .inl 109), (28, .inl 111), (29, .inl 118), (30, .inl 101), (31, .inl 32), (32, .inl 99), (33, .inl 109), (34, .inl 111), (35, .inl 118), (36, .inl 110), (37, .inl 101), (38, .inl 32), (39, .inl 99), (40, .inl 109), (41, .inl 111), (42, .inl 118), (43, .inl 98), (44, .inl 101), (45, .inl 32), (46, .inl 99), (47, .inl 109), (48, .inl 111), (49, .inl 118), (50, .inl 97), (51, .inl 32), (52, .inl 99), (53, .inl 109), (54, .inl 111), (55, .inl 118), (56, .inl 115), (57, .inl 32), (58, .inl 99), (59, .inl 109), (60, .inl 111), (61, .inl 118), (62, .inl 110), (63, .inl 115)]), (1, [(64, .inl 32)])]),
  .inl (0, [.inr (.inr 64), .inl 0]),
  .inr (2, 65, .inl 0, [(0, [(0, .inl 99), (1, .inl 109), (2, .inl 111), (3, .inl 118), (4, .inl 112), (5, .inl 32), (6, .inl 99), (7, .inl 109), (8, .inl 111), (9, .inl 118), (10, .inl 110), (11, .inl 112), (12, .inl 32), (13, .inl 99), (14, .inl 109), (15, .inl 111), (16, .inl 118), (17, .inl 108), (18, .inl 32), (19, .inl 99), (20, .inl 109), (21, .inl 111), (22, .inl 118), (23, .inl 103), (24, .inl 101), (25, .inl 32), (26, .inl 99), (27, .inl 109), (28, .inl 111), (29, .inl 118), (30, .inl 108), (31, .inl 101), (32, .inl 32), (33, .inl 99), (34, .inl 109), (35, .inl 111), (36, .inl 118), (37, .inl 103), (38, .inl 32), (39, .inl 99), (40, .inl 109), (41, .inl 111), (42, .inl 118), (43, .inl 99), (44, .inl 32), (45, .inl 99), (46, .inl 109), (47, .inl 111), (48, .inl 118), (49, .inl 110), (50, .inl 99), (51, .inl 32), (52, .inl 99), (53, .inl 109), (54, .inl 111), (55, .inl 118), (56, .inl 122), (57, .inl 32), (58, .inl 99), (59, .inl 109), (60, .inl 111), (61, .inl 118), (62, .inl 110), (63, .inl 122)]), (1, [(64, .inl 32)])]),
  .inl (0, [.inr (.inr 68), .inl 0]),
  .inr (2, 21, .inl 0, [(0, [(0, .inl 116), (1, .inl 101), (2, .inl 120), (3, .inl 116), (4, .inl 32), (5, .inl 114), (6, .inl 111), (7, .inl 100), (8, .inl 97), (9, .inl 116), (10, .inl 97), (11, .inl 32), (12, .inl 100), (13, .inl 97), (14, .inl 116), (15, .inl 97), (16, .inl 32), (17, .inl 98), (18, .inl 115), (19, .inl 115), (20, .inl 32)])]),
  .inr (0, 13, .inl 0, [(0, [(0, .inl 4294967295), (1, .inl 4294967295), (2, .inl 4294967295), (3, .inl 4294967295), (4, .inl 4294967295), (5, .inl 4294967295), (6, .inl 0), (7, .inl 0), (8, .inl 4294967295), (9, .inl 4294967295), (10, .inl 4294967295), (11, .inl 4294967295), (12, .inl 4294967295)])]),
  .inr (0, 54, .inl 0, [(0, [(0, .inl 0), (1, .inl 1), (2, .inl 1), (3, .inl 0), (4, .inl 0), (5, .inl 4294967295), (6, .inl 0), (7, .inl 2), (8, .inl 1), (9, .inl 0), (10, .inl 1), (11, .inl 4294967295), (12, .inl 0), (13, .inl 1), (14, .inl 2), (15, .inl 0), (16, .inl 2), (17, .inl 4294967295), (18, .inl 0), (19, .inl 2), (20, .inl 2), (21, .inl 0), (22, .inl 3), (23, .inl 4294967295), (24, .inl 0), (25, .inl 1), (26, .inl 3), (27, .inl 1), (28, .inl 4), (29, .inl 4294967295), (30, .inl 0), (31, .inl 2), (32, .inl 3), (33, .inl 4), (34, .inl 5), (35, .inl 4294967295), (36, .inl 0), (37, .inl 1), (38, .inl 4), (39, .inl 1), (40, .inl 128), (41, .inl 0), (42, .inl 0), (43, .inl 2), (44, .inl 4), (45, .inl 4), (46, .inl 129), (47, .inl 0), (48, .inl 0), (49, .inl 2), (50, .inl 4), (51, .inl 1), (52, .inl 131), (53, .inl 0)])]),
  .inr (0, 666, .inl 0, [(0, [(0, .inl 8), (1, .inl 1), (2, .inl 1), (3, .inl 0), (4, .inl 136), (5, .inl 4294967295), (6, .inl 8), (7, .inl 2), (8, .inl 1), (9, .inl 0), (10, .inl 137), (11, .inl 4294967295), (12, .inl 8), (13, .inl 1), (14, .inl 2), (15, .inl 0), (16, .inl 138), (17, .inl 4294967295), (18, .inl 8), (19, .inl 2), (20, .inl 2), (21, .inl 0), (22, .inl 139), (23, .inl 4294967295), (24, .inl 8), (25, .inl 1), (26, .inl 4), (27, .inl 1), (28, .inl 198), (29, .inl 0), (30, .inl 8), (31, .inl 2), (32, .inl 4), (33, .inl 4), (34, .inl 199), (35, .inl 0), (36, .inl 8), (37, .inl 1), (38, .inl 6), (39, .inl 1), (40, .inl 176), (41, .inl 4294967295), (42, .inl 8), (43, .inl 4), (44, .inl 6), (45, .inl 4), (46, .inl 184), (47, .inl 4294967295), (48, .inl 8), (49, .inl 9), (50, .inl 6), (51, .inl 5), (52, .inl 184), (53, .inl 4294967295), (54, .inl 9), (55, .inl 1), (56, .inl 1), (57, .inl 0), (58, .inl 132), (59, .inl 4294967295), (60, .inl 9), (61, .inl 2), (62, .inl 1), (63, .inl 0)]), (1, [(64, .inl 133), (65, .inl 4294967295), (66, .inl 9), (67, .inl 1), (68, .inl 3), (69, .inl 1), (70, .inl 168), (71, .inl 4294967295), (72, .inl 9), (73, .inl 2), (74, .inl 3), (75, .inl 4), (76, .inl 169), (77, .inl 4294967295), (78, .inl 9), (79, .inl 1), (80, .inl 4), (81, .inl 1), (82, .inl 246), (83, .inl 0), (84, .inl 9), (85, .inl 2), (86, .inl 4), (87, .inl 4), (88, .inl 247), (89, .inl 0), (90, .inl 10), (91, .inl 1), (92, .inl 1), (93, .inl 0), (94, .inl 134), (95, .inl 4294967295), (96, .inl 10), (97, .inl 2), (98, .inl 1), (99, .inl 0), (100, .inl 135), (101, .inl 4294967295), (102, .inl 11), (103, .inl 2), (104, .inl 8), (105, .inl 0), (106, .inl 141), (107, .inl 4294967295), (108, .inl 12), (109, .inl 2), (110, .inl 2), (111, .inl 0), (112, .inl 4022), (113, .inl 4294967295), (114, .inl 13), (115, .inl 2), (116, .inl 2), (117, .inl 0), (118, .inl 4030), (119, .inl 4294967295), (120, .inl 14), (121, .inl 9), (122, .inl 2), (123, .inl 0), (124, .inl 99), (125, .inl 4294967295), (126, .inl 15), (127, .inl 1)]), (2, [(128, .inl 5), (129, .inl 0), (130, .inl 246), (131, .inl 2), (132, .inl 15), (133, .inl 2), (134, .inl 5), (135, .inl 0), (136, .inl 247), (137, .inl 2), (138, .inl 16), (139, .inl 1), (140, .inl 5), (141, .inl 0), (142, .inl 246), (143, .inl 3), (144, .inl 16), (145, .inl 2), (146, .inl 5), (147, .inl 0), (148, .inl 247), (149, .inl 3), (150, .inl 17), (151, .inl 1), (152, .inl 5), (153, .inl 0), (154, .inl 246), (155, .inl 4), (156, .inl 17), (157, .inl 2), (158, .inl 5), (159, .inl 0), (160, .inl 247), (161, .inl 4), (162, .inl 18), (163, .inl 1), (164, .inl 5), (165, .inl 0), (166, .inl 246), (167, .inl 5), (168, .inl 18), (169, .inl 2), (170, .inl 5), (171, .inl 0), (172, .inl 247), (173, .inl 5), (174, .inl 19), (175, .inl 1), (176, .inl 5), (177, .inl 0), (178, .inl 246), (179, .inl 6), (180, .inl 19), (181, .inl 2), (182, .inl 5), (183, .inl 0), (184, .inl 247), (185, .inl 6), (186, .inl 20), (187, .inl 1), (188, .inl 5), (189, .inl 0), (190, .inl 246), (191, .inl 7)]), (3, [(192, .inl 20), (193, .inl 2), (194, .inl 5), (195, .inl 0), (196, .inl 247), (197, .inl 7), (198, .inl 21), (199, .inl 1), (200, .inl 5), (201, .inl 0), (202, .inl 254), (203, .inl 0), (204, .inl 21), (205, .inl 2), (206, .inl 5), (207, .inl 0), (208, .inl 255), (209, .inl 0), (210, .inl 22), (211, .inl 1), (212, .inl 5), (213, .inl 0), (214, .inl 254), (215, .inl 1), (216, .inl 22), (217, .inl 2), (218, .inl 5), (219, .inl 0), (220, .inl 255), (221, .inl 1), (222, .inl 23), (223, .inl 2), (224, .inl 2), (225, .inl 0), (226, .inl 4015), (227, .inl 4294967295), (228, .inl 23), (229, .inl 2), (230, .inl 9), (231, .inl 4), (232, .inl 105), (233, .inl 4294967295), (234, .inl 23), (235, .inl 2), (236, .inl 9), (237, .inl 1), (238, .inl 107), (239, .inl 4294967295), (240, .inl 24), (241, .inl 1), (242, .inl 4), (243, .inl 2), (244, .inl 192), (245, .inl 0), (246, .inl 24), (247, .inl 2), (248, .inl 4), (249, .inl 2), (250, .inl 193), (251, .inl 0), (252, .inl 24), (253, .inl 1), (254, .inl 10), (255, .inl 0)]), (4, [(256, .inl 208), (257, .inl 0), (258, .inl 24), (259, .inl 2), (260, .inl 10), (261, .inl 0), (262, .inl 209), (263, .inl 0), (264, .inl 24), (265, .inl 1), (266, .inl 11), (267, .inl 0), (268, .inl 210), (269, .inl 0), (270, .inl 24), (271, .inl 2), (272, .inl 11), (273, .inl 0), (274, .inl 211), (275, .inl 0), (276, .inl 25), (277, .inl 1), (278, .inl 4), (279, .inl 2), (280, .inl 192), (281, .inl 1), (282, .inl 25), (283, .inl 2), (284, .inl 4), (285, .inl 2), (286, .inl 193), (287, .inl 1), (288, .inl 25), (289, .inl 1), (290, .inl 10), (291, .inl 0), (292, .inl 208), (293, .inl 1), (294, .inl 25), (295, .inl 2), (296, .inl 10), (297, .inl 0), (298, .inl 209), (299, .inl 1), (300, .inl 25), (301, .inl 1), (302, .inl 11), (303, .inl 0), (304, .inl 210), (305, .inl 1), (306, .inl 25), (307, .inl 2), (308, .inl 11), (309, .inl 0), (310, .inl 211), (311, .inl 1), (312, .inl 26), (313, .inl 1), (314, .inl 4), (315, .inl 2), (316, .inl 192), (317, .inl 4), (318, .inl 26), (319, .inl 2)]), (5, [(320, .inl 4), (321, .inl 2), (322, .inl 193), (323, .inl 4), (324, .inl 26), (325, .inl 1), (326, .inl 10), (327, .inl 0), (328, .inl 208), (329, .inl 4), (330, .inl 26), (331, .inl 2), (332, .inl 10), (333, .inl 0), (334, .inl 209), (335, .inl 4), (336, .inl 26), (337, .inl 1), (338, .inl 11), (339, .inl 0), (340, .inl 210), (341, .inl 4), (342, .inl 26), (343, .inl 2), (344, .inl 11), (345, .inl 0), (346, .inl 211), (347, .inl 4), (348, .inl 27), (349, .inl 1), (350, .inl 4), (351, .inl 2), (352, .inl 192), (353, .inl 5), (354, .inl 27), (355, .inl 2), (356, .inl 4), (357, .inl 2), (358, .inl 193), (359, .inl 5), (360, .inl 27), (361, .inl 1), (362, .inl 10), (363, .inl 0), (364, .inl 208), (365, .inl 5), (366, .inl 27), (367, .inl 2), (368, .inl 10), (369, .inl 0), (370, .inl 209), (371, .inl 5), (372, .inl 27), (373, .inl 1), (374, .inl 11), (375, .inl 0), (376, .inl 210), (377, .inl 5), (378, .inl 27), (379, .inl 2), (380, .inl 11), (381, .inl 0), (382, .inl 211), (383, .inl 5)]), (6, [(384, .inl 28), (385, .inl 1), (386, .inl 4), (387, .inl 2), (388, .inl 192), (389, .inl 7), (390, .inl 28), (391, .inl 2), (392, .inl 4), (393, .inl 2), (394, .inl 193), (395, .inl 7), (396, .inl 28), (397, .inl 1), (398, .inl 10), (399, .inl 0), (400, .inl 208), (401, .inl 7), (402, .inl 28), (403, .inl 2), (404, .inl 10), (405, .inl 0), (406, .inl 209), (407, .inl 7), (408, .inl 28), (409, .inl 1), (410, .inl 11), (411, .inl 0), (412, .inl 210), (413, .inl 7), (414, .inl 28), (415, .inl 2), (416, .inl 11), (417, .inl 0), (418, .inl 211), (419, .inl 7), (420, .inl 29), (421, .inl 8), (422, .inl 7), (423, .inl 0), (424, .inl 80), (425, .inl 4294967295), (426, .inl 29), (427, .inl 8), (428, .inl 12), (429, .inl 4), (430, .inl 104), (431, .inl 4294967295), (432, .inl 29), (433, .inl 8), (434, .inl 12), (435, .inl 1), (436, .inl 106), (437, .inl 4294967295), (438, .inl 29), (439, .inl 8), (440, .inl 5), (441, .inl 0), (442, .inl 255), (443, .inl 6), (444, .inl 30), (445, .inl 8), (446, .inl 7), (447, .inl 0)]), (7, [(448, .inl 88), (449, .inl 4294967295), (450, .inl 30), (451, .inl 8), (452, .inl 5), (453, .inl 0), (454, .inl 143), (455, .inl 0), (456, .inl 31), (457, .inl 0), (458, .inl 12), (459, .inl 4), (460, .inl 233), (461, .inl 4294967295), (462, .inl 31), (463, .inl 0), (464, .inl 12), (465, .inl 1), (466, .inl 235), (467, .inl 4294967295), (468, .inl 31), (469, .inl 0), (470, .inl 5), (471, .inl 0), (472, .inl 255), (473, .inl 4), (474, .inl 32), (475, .inl 0), (476, .inl 12), (477, .inl 4), (478, .inl 232), (479, .inl 4294967295), (480, .inl 32), (481, .inl 0), (482, .inl 5), (483, .inl 0), (484, .inl 255), (485, .inl 2), (486, .inl 33), (487, .inl 0), (488, .inl 0), (489, .inl 0), (490, .inl 195), (491, .inl 4294967295), (492, .inl 33), (493, .inl 0), (494, .inl 12), (495, .inl 3), (496, .inl 194), (497, .inl 4294967295), (498, .inl 34), (499, .inl 0), (500, .inl 12), (501, .inl 4), (502, .inl 3968), (503, .inl 4294967295), (504, .inl 34), (505, .inl 0), (506, .inl 12), (507, .inl 1), (508, .inl 112), (509, .inl 4294967295), (510, .inl 35), (511, .inl 1)]), (8, [(512, .inl 5), (513, .inl 0), (514, .inl 3984), (515, .inl 4294967295), (516, .inl 36), (517, .inl 2), (518, .inl 2), (519, .inl 0), (520, .inl 3904), (521, .inl 4294967295), (522, .inl 37), (523, .inl 2), (524, .inl 0), (525, .inl 0), (526, .inl 153), (527, .inl 4294967295), (528, .inl 38), (529, .inl 2), (530, .inl 0), (531, .inl 0), (532, .inl 152), (533, .inl 4294967295), (534, .inl 39), (535, .inl 0), (536, .inl 0), (537, .inl 0), (538, .inl 144), (539, .inl 4294967295), (540, .inl 40), (541, .inl 0), (542, .inl 0), (543, .inl 0), (544, .inl 204), (545, .inl 4294967295), (546, .inl 41), (547, .inl 0), (548, .inl 0), (549, .inl 0), (550, .inl 3851), (551, .inl 4294967295), (552, .inl 42), (553, .inl 0), (554, .inl 0), (555, .inl 0), (556, .inl 3845), (557, .inl 4294967295), (558, .inl 43), (559, .inl 0), (560, .inl 0), (561, .inl 0), (562, .inl 201), (563, .inl 4294967295), (564, .inl 44), (565, .inl 2), (566, .inl 2), (567, .inl 0), (568, .inl 4028), (569, .inl 4294967295), (570, .inl 45), (571, .inl 2), (572, .inl 2), (573, .inl 0), (574, .inl 4029), (575, .inl 4294967295)]), (9, [(576, .inl 46), (577, .inl 2), (578, .inl 7), (579, .inl 0), (580, .inl 4040), (581, .inl 4294967295), (582, .inl 47), (583, .inl 2), (584, .inl 1), (585, .inl 0), (586, .inl 4003), (587, .inl 4294967295), (588, .inl 47), (589, .inl 2), (590, .inl 4), (591, .inl 2), (592, .inl 4026), (593, .inl 4), (594, .inl 48), (595, .inl 1), (596, .inl 1), (597, .inl 0), (598, .inl 4032), (599, .inl 4294967295), (600, .inl 48), (601, .inl 2), (602, .inl 1), (603, .inl 0), (604, .inl 4033), (605, .inl 4294967295), (606, .inl 49), (607, .inl 1), (608, .inl 1), (609, .inl 0), (610, .inl 4016), (611, .inl 4294967295), (612, .inl 49), (613, .inl 2), (614, .inl 1), (615, .inl 0), (616, .inl 4017), (617, .inl 4294967295), (618, .inl 50), (619, .inl 1), (620, .inl 0), (621, .inl 0), (622, .inl 164), (623, .inl 4294967295), (624, .inl 50), (625, .inl 2), (626, .inl 0), (627, .inl 0), (628, .inl 165), (629, .inl 4294967295), (630, .inl 51), (631, .inl 1), (632, .inl 0), (633, .inl 0), (634, .inl 170), (635, .inl 4294967295), (636, .inl 51), (637, .inl 2), (638, .inl 0), (639, .inl 0)]), (10, [(640, .inl 171), (641, .inl 4294967295), (642, .inl 52), (643, .inl 1), (644, .inl 0), (645, .inl 0), (646, .inl 62372), (647, .inl 4294967295), (648, .inl 52), (649, .inl 2), (650, .inl 0), (651, .inl 0), (652, .inl 62373), (653, .inl 4294967295), (654, .inl 53), (655, .inl 1), (656, .inl 0), (657, .inl 0), (658, .inl 62378), (659, .inl 4294967295), (660, .inl 53), (661, .inl 2), (662, .inl 0), (663, .inl 0), (664, .inl 62379), (665, .inl 4294967295)])]),
  .inl (0, [.inr (.inr 78), .inl 0]),
  .inr (2, 1, .inl 0, [(0, [(0, .inl 111)])]),
  .inl (0, [.inr (.inr 82), .inl 0]),
  .inr (2, 2, .inl 0, [(0, [(0, .inl 110), (1, .inl 111)])]),
  .inl (0, [.inr (.inr 86), .inl 0]),
  .inr (2, 1, .inl 0, [(0, [(0, .inl 98)])]),
  .inl (0, [.inr (.inr 90), .inl 0]),
  .inr (2, 2, .inl 0, [(0, [(0, .inl 97), (1, .inl 101)])]),
  .inl (0, [.inr (.inr 94), .inl 0]),
  .inr (2, 1, .inl 0, [(0, [(0, .inl 101)])]),
  .inl (0, [.inr (.inr 98), .inl 0]),
  .inr (2, 2, .inl 0, [(0, [(0, .inl 110), (1, .inl 101)])]),
  .inl (0, [.inr (.inr 102), .inl 0]),
  .inr (2, 2, .inl 0, [(0, [(0, .inl 98), (1, .inl 101)])]),
  .inl (0, [.inr (.inr 106), .inl 0]),
  .inr (2, 1, .inl 0, [(0, [(0, .inl 97)])]),
  .inl (0, [.inr (.inr 110), .inl 0]),
  .inr (2, 1, .inl 0, [(0, [(0, .inl 115)])]),
  .inl (0, [.inr (.inr 114), .inl 0]),
  .inr (2, 2, .inl 0, [(0, [(0, .inl 110), (1, .inl 115)])]),
  .inl (0, [.inr (.inr 118), .inl 0]),
  .inr (2, 1, .inl 0, [(0, [(0, .inl 112)])]),
  .inl (0, [.inr (.inr 122), .inl 0]),
  .inr (2, 2, .inl 0, [(0, [(0, .inl 110), (1, .inl 112)])]),
  .inl (0, [.inr (.inr 126), .inl 0]),
  .inr (2, 1, .inl 0, [(0, [(0, .inl 108)])]),
  .inl (0, [.inr (.inr 130), .inl 0]),
  .inr (2, 2, .inl 0, [(0, [(0, .inl 103), (1, .inl 101)])]),
  .inl (0, [.inr (.inr 134), .inl 0]),
  .inr (2, 2, .inl 0, [(0, [(0, .inl 108), (1, .inl 101)])]),
  .inl (0, [.inr (.inr 138), .inl 0]),
  .inr (2, 1, .inl 0, [(0, [(0, .inl 103)])]),
  .inl (0, [.inr (.inr 142), .inl 0]),
  .inr (2, 1, .inl 0, [(0, [(0, .inl 99)])]),
  .inl (0, [.inr (.inr 146), .inl 0]),
  .inr (2, 2, .inl 0, [(0, [(0, .inl 110), (1, .inl 99)])]),
  .inl (0, [.inr (.inr 150), .inl 0]),
  .inr (2, 1, .inl 0, [(0, [(0, .inl 122)])]),
  .inl (0, [.inr (.inr 154), .inl 0]),
  .inr (2, 2, .inl 0, [(0, [(0, .inl 110), (1, .inl 122)])]),
  .inr (2, 100, .inl 0, [(0, [(0, .inl 48), (1, .inl 49), (2, .inl 50), (3, .inl 51), (4, .inl 52), (5, .inl 53), (6, .inl 54), (7, .inl 55), (8, .inl 56), (9, .inl 57), (10, .inl 48), (11, .inl 49), (12, .inl 50), (13, .inl 51), (14, .inl 52), (15, .inl 53), (16, .inl 54), (17, .inl 55), (18, .inl 56), (19, .inl 57), (20, .inl 48), (21, .inl 49), (22, .inl 50), (23, .inl 51), (24, .inl 52), (25, .inl 53), (26, .inl 54), (27, .inl 55), (28, .inl 56), (29, .inl 57), (30, .inl 48), (31, .inl 49), (32, .inl 50), (33, .inl 51), (34, .inl 52), (35, .inl 53), (36, .inl 54), (37, .inl 55), (38, .inl 56), (39, .inl 57), (40, .inl 48), (41, .inl 49), (42, .inl 50), (43, .inl 51), (44, .inl 52), (45, .inl 53), (46, .inl 54), (47, .inl 55), (48, .inl 56), (49, .inl 57), (50, .inl 48), (51, .inl 49), (52, .inl 50), (53, .inl 51), (54, .inl 52), (55, .inl 53), (56, .inl 54), (57, .inl 55), (58, .inl 56), (59, .inl 57), (60, .inl 48), (61, .inl 49), (62, .inl 50), (63, .inl 51)]), (1, [(64, .inl 52), (65, .inl 53), (66, .inl 54), (67, .inl 55), (68, .inl 56), (69, .inl 57), (70, .inl 48), (71, .inl 49), (72, .inl 50), (73, .inl 51), (74, .inl 52), (75, .inl 53), (76, .inl 54), (77, .inl 55), (78, .inl 56), (79, .inl 57), (80, .inl 48), (81, .inl 49), (82, .inl 50), (83, .inl 51), (84, .inl 52), (85, .inl 53), (86, .inl 54), (87, .inl 55), (88, .inl 56), (89, .inl 57), (90, .inl 48), (91, .inl 49), (92, .inl 50), (93, .inl 51), (94, .inl 52), (95, .inl 53), (96, .inl 54), (97, .inl 55), (98, .inl 56), (99, .inl 57)])]),
  .inr (2, 100, .inl 0, [(0, [(0, .inl 48), (1, .inl 48), (2, .inl 48), (3, .inl 48), (4, .inl 48), (5, .inl 48), (6, .inl 48), (7, .inl 48), (8, .inl 48), (9, .inl 48), (10, .inl 49), (11, .inl 49), (12, .inl 49), (13, .inl 49), (14, .inl 49), (15, .inl 49), (16, .inl 49), (17, .inl 49), (18, .inl 49), (19, .inl 49), (20, .inl 50), (21, .inl 50), (22, .inl 50), (23, .inl 50), (24, .inl 50), (25, .inl 50), (26, .inl 50), (27, .inl 50), (28, .inl 50), (29, .inl 50), (30, .inl 51), (31, .inl 51), (32, .inl 51), (33, .inl 51), (34, .inl 51), (35, .inl 51), (36, .inl 51), (37, .inl 51), (38, .inl 51), (39, .inl 51), (40, .inl 52), (41, .inl 52), (42, .inl 52), (43, .inl 52), (44, .inl 52), (45, .inl 52), (46, .inl 52), (47, .inl 52), (48, .inl 52), (49, .inl 52), (50, .inl 53), (51, .inl 53), (52, .inl 53), (53, .inl 53), (54, .inl 53), (55, .inl 53), (56, .inl 53), (57, .inl 53), (58, .inl 53), (59, .inl 53), (60, .inl 54), (61, .inl 54), (62, .inl 54), (63, .inl 54)]), (1, [(64, .inl 54), (65, .inl 54), (66, .inl 54), (67, .inl 54), (68, .inl 54), (69, .inl 54), (70, .inl 55), (71, .inl 55), (72, .inl 55), (73, .inl 55), (74, .inl 55), (75, .inl 55), (76, .inl 55), (77, .inl 55), (78, .inl 55), (79, .inl 55), (80, .inl 56), (81, .inl 56), (82, .inl 56), (83, .inl 56), (84, .inl 56), (85, .inl 56), (86, .inl 56), (87, .inl 56), (88, .inl 56), (89, .inl 56), (90, .inl 57), (91, .inl 57), (92, .inl 57), (93, .inl 57), (94, .inl 57), (95, .inl 57), (96, .inl 57), (97, .inl 57), (98, .inl 57), (99, .inl 57)])]),
  .inl (0, [.inr (.inr 162), .inl 0]),
  .inr (2, 1, .inl 0, [(0, [(0, .inl 114)])]),
  .inl (0, [.inr (.inr 166), .inl 0]),
  .inr (2, 3, .inl 0, [(0, [(0, .inl 114), (1, .inl 97), (2, .inl 120)])]),
  .inl (0, [.inr (.inr 170), .inl 0]),
  .inr (2, 3, .inl 0, [(0, [(0, .inl 114), (1, .inl 99), (2, .inl 120)])]),
  .inl (0, [.inr (.inr 174), .inl 0]),
  .inr (2, 3, .inl 0, [(0, [(0, .inl 114), (1, .inl 100), (2, .inl 120)])]),
  .inl (0, [.inr (.inr 178), .inl 0]),
  .inr (2, 3, .inl 0, [(0, [(0, .inl 114), (1, .inl 98), (2, .inl 120)])]),
  .inl (0, [.inr (.inr 182), .inl 0]),
  .inr (2, 3, .inl 0, [(0, [(0, .inl 114), (1, .inl 115), (2, .inl 112)])]),
  .inl (0, [.inr (.inr 186), .inl 0]),
  .inr (2, 3, .inl 0, [(0, [(0, .inl 114), (1, .inl 98), (2, .inl 112)])]),
  .inl (0, [.inr (.inr 190), .inl 0]),
  .inr (2, 3, .inl 0, [(0, [(0, .inl 114), (1, .inl 115), (2, .inl 105)])]),
  .inl (0, [.inr (.inr 194), .inl 0]),
  .inr (2, 3, .inl 0, [(0, [(0, .inl 114), (1, .inl 100), (2, .inl 105)])]),
  .inl (0, [.inr (.inr 198), .inl 0]),
  .inr (2, 3, .inl 0, [(0, [(0, .inl 101), (1, .inl 97), (2, .inl 120)])]),
  .inl (0, [.inr (.inr 202), .inl 0]),
  .inr (2, 3, .inl 0, [(0, [(0, .inl 101), (1, .inl 99), (2, .inl 120)])]),
  .inl (0, [.inr (.inr 206), .inl 0]),
  .inr (2, 3, .inl 0, [(0, [(0, .inl 101), (1, .inl 100), (2, .inl 120)])]),
  .inl (0, [.inr (.inr 210), .inl 0]),
  .inr (2, 3, .inl 0, [(0, [(0, .inl 101), (1, .inl 98), (2, .inl 120)])]),
  .inl (0, [.inr (.inr 214), .inl 0]),
  .inr (2, 3, .inl 0, [(0, [(0, .inl 101), (1, .inl 115), (2, .inl 112)])]),
  .inl (0, [.inr (.inr 218), .inl 0]),
  .inr (2, 3, .inl 0, [(0, [(0, .inl 101), (1, .inl 98), (2, .inl 112)])]),
  .inl (0, [.inr (.inr 222), .inl 0]),
  .inr (2, 3, .inl 0, [(0, [(0, .inl 101), (1, .inl 115), (2, .inl 105)])]),
  .inl (0, [.inr (.inr 226), .inl 0]),
  .inr (2, 3, .inl 0, [(0, [(0, .inl 101), (1, .inl 100), (2, .inl 105)])]),
  .inl (0, [.inr (.inr 230), .inl 0]),
  .inr (2, 2, .inl 0, [(0, [(0, .inl 97), (1, .inl 108)])]),
  .inl (0, [.inr (.inr 234), .inl 0]),
  .inr (2, 2, .inl 0, [(0, [(0, .inl 99), (1, .inl 108)])]),
  .inl (0, [.inr (.inr 238), .inl 0]),
  .inr (2, 2, .inl 0, [(0, [(0, .inl 100), (1, .inl 108)])]),
  .inl (0, [.inr (.inr 242), .inl 0]),
  .inr (2, 2, .inl 0, [(0, [(0, .inl 98), (1, .inl 108)])]),
  .inl (0, [.inr (.inr 246), .inl 0]),
  .inr (2, 3, .inl 0, [(0, [(0, .inl 115), (1, .inl 112), (2, .inl 108)])]),
  .inl (0, [.inr (.inr 250), .inl 0]),
  .inr (2, 3, .inl 0, [(0, [(0, .inl 98), (1, .inl 112), (2, .inl 108)])]),
  .inl (0, [.inr (.inr 254), .inl 0]),
  .inr (2, 3, .inl 0, [(0, [(0, .inl 115), (1, .inl 105), (2, .inl 108)])]),
  .inl (0, [.inr (.inr 258), .inl 0]),
  .inr (2, 3, .inl 0, [(0, [(0, .inl 100), (1, .inl 105), (2, .inl 108)])]),
  .inl (0, [.inr (.inr 262), .inl 0]),
  .inr (2, 0, .inl 0, []),
  .inl (0, [.inr (.inr 266), .inl 0]),
  .inr (2, 1, .inl 0, [(0, [(0, .inl 100)])]),
  .inl (0, [.inr (.inr 270), .inl 0]),
  .inr (2, 101, .inl 0, [(0, [(0, .inl 97), (1, .inl 100), (2, .inl 100), (3, .inl 32), (4, .inl 111), (5, .inl 114), (6, .inl 32), (7, .inl 97), (8, .inl 100), (9, .inl 99), (10, .inl 32), (11, .inl 115), (12, .inl 98), (13, .inl 98), (14, .inl 32), (15, .inl 97), (16, .inl 110), (17, .inl 100), (18, .inl 32), (19, .inl 115), (20, .inl 117), (21, .inl 98), (22, .inl 32), (23, .inl 120), (24, .inl 111), (25, .inl 114), (26, .inl 32), (27, .inl 99), (28, .inl 109), (29, .inl 112), (30, .inl 32), (31, .inl 109), (32, .inl 111), (33, .inl 118), (34, .inl 32), (35, .inl 116), (36, .inl 101), (37, .inl 115), (38, .inl 116), (39, .inl 32), (40, .inl 120), (41, .inl 99), (42, .inl 104), (43, .inl 103), (44, .inl 32), (45, .inl 108), (46, .inl 101), (47, .inl 97), (48, .inl 32), (49, .inl 109), (50, .inl 111), (51, .inl 118), (52, .inl 122), (53, .inl 120), (54, .inl 32), (55, .inl 109), (56, .inl 111), (57, .inl 118), (58, .inl 115), (59, .inl 120), (60, .inl 32), (61, .inl 109), (62, .inl 111), (63, .inl 118)]), (1, [(64, .inl 115), (65, .inl 120), (66, .inl 100), (67, .inl 32), (68, .inl 110), (69, .inl 111), (70, .inl 116), (71, .inl 32), (72, .inl 110), (73, .inl 101), (74, .inl 103), (75, .inl 32), (76, .inl 109), (77, .inl 117), (78, .inl 108), (79, .inl 32), (80, .inl 105), (81, .inl 109), (82, .inl 117), (83, .inl 108), (84, .inl 32), (85, .inl 100), (86, .inl 105), (87, .inl 118), (88, .inl 32), (89, .inl 105), (90, .inl 100), (91, .inl 105), (92, .inl 118), (93, .inl 32), (94, .inl 105), (95, .inl 110), (96, .inl 99), (97, .inl 32), (98, .inl 100), (99, .inl 101), (100, .inl 99)])]),
  .inl (0, [.inr (.inr 274), .inl 0]),
  .inr (2, 41, .inl 0, [(0, [(0, .inl 114), (1, .inl 111), (2, .inl 108), (3, .inl 32), (4, .inl 114), (5, .inl 111), (6, .inl 114), (7, .inl 32), (8, .inl 115), (9, .inl 104), (10, .inl 108), (11, .inl 32), (12, .inl 115), (13, .inl 104), (14, .inl 114), (15, .inl 32), (16, .inl 115), (17, .inl 97), (18, .inl 114), (19, .inl 32), (20, .inl 112), (21, .inl 117), (22, .inl 115), (23, .inl 104), (24, .inl 32), (25, .inl 112), (26, .inl 111), (27, .inl 112), (28, .inl 32), (29, .inl 106), (30, .inl 109), (31, .inl 112), (32, .inl 32), (33, .inl 99), (34, .inl 97), (35, .inl 108), (36, .inl 108), (37, .inl 32), (38, .inl 114), (39, .inl 101), (40, .inl 116)])]),
  .inl (0, [.inr (.inr 278), .inl 0]),
  .inr (2, 1, .inl 0, [(0, [(0, .inl 106)])]),
  .inl (0, [.inr (.inr 282), .inl 0]),
  .inr (2, 3, .inl 0, [(0, [(0, .inl 115), (1, .inl 101), (2, .inl 116)])]),
  .inl (0, [.inr (.inr 286), .inl 0]),
  .inr (2, 4, .inl 0, [(0, [(0, .inl 99), (1, .inl 109), (2, .inl 111), (3, .inl 118)])]),
  .inl (0, [.inr (.inr 290), .inl 0]),
  .inr (2, 3, .inl 0, [(0, [(0, .inl 99), (1, .inl 100), (2, .inl 113)])]),
  .inl (0, [.inr (.inr 294), .inl 0]),
  .inr (2, 3, .inl 0, [(0, [(0, .inl 99), (1, .inl 113), (2, .inl 111)])]),
  .inl (0, [.inr (.inr 298), .inl 0]),
  .inr (2, 4, .inl 0, [(0, [(0, .inl 99), (1, .inl 119), (2, .inl 100), (3, .inl 101)])]),
  .inl (0, [.inr (.inr 302), .inl 0]),
  .inr (2, 4, .inl 0, [(0, [(0, .inl 99), (1, .inl 100), (2, .inl 113), (3, .inl 101)])]),
  .inl (0, [.inr (.inr 306), .inl 0]),
  .inr (2, 56, .inl 0, [(0, [(0, .inl 110), (1, .inl 111), (2, .inl 112), (3, .inl 32), (4, .inl 105), (5, .inl 110), (6, .inl 116), (7, .inl 51), (8, .inl 32), (9, .inl 117), (10, .inl 100), (11, .inl 50), (12, .inl 32), (13, .inl 115), (14, .inl 121), (15, .inl 115), (16, .inl 99), (17, .inl 97), (18, .inl 108), (19, .inl 108), (20, .inl 32), (21, .inl 108), (22, .inl 101), (23, .inl 97), (24, .inl 118), (25, .inl 101), (26, .inl 32), (27, .inl 98), (28, .inl 115), (29, .inl 102), (30, .inl 32), (31, .inl 98), (32, .inl 115), (33, .inl 114), (34, .inl 32), (35, .inl 98), (36, .inl 115), (37, .inl 119), (38, .inl 97), (39, .inl 112), (40, .inl 32), (41, .inl 98), (42, .inl 116), (43, .inl 32), (44, .inl 120), (45, .inl 97), (46, .inl 100), (47, .inl 100), (48, .inl 32), (49, .inl 99), (50, .inl 109), (51, .inl 112), (52, .inl 120), (53, .inl 99), (54, .inl 104), (55, .inl 103)])]),
  .inl (0, [.inr (.inr 310), .inl 0]),
  .inr (2, 5, .inl 0, [(0, [(0, .inl 109), (1, .inl 111), (2, .inl 118), (3, .inl 115), (4, .inl 98)])]),
  .inl (0, [.inr (.inr 314), .inl 0]),
  .inr (2, 5, .inl 0, [(0, [(0, .inl 109), (1, .inl 111), (2, .inl 118), (3, .inl 115), (4, .inl 100)])]),
  .inl (0, [.inr (.inr 318), .inl 0]),
  .inr (2, 5, .inl 0, [(0, [(0, .inl 109), (1, .inl 111), (2, .inl 118), (3, .inl 115), (4, .inl 113)])]),
  .inl (0, [.inr (.inr 322), .inl 0]),
  .inr (2, 5, .inl 0, [(0, [(0, .inl 115), (1, .inl 116), (2, .inl 111), (3, .inl 115), (4, .inl 98)])]),
  .inl (0, [.inr (.inr 326), .inl 0]),
  .inr (2, 5, .inl 0, [(0, [(0, .inl 115), (1, .inl 116), (2, .inl 111), (3, .inl 115), (4, .inl 100)])]),
  .inl (0, [.inr (.inr 330), .inl 0]),
  .inr (2, 5, .inl 0, [(0, [(0, .inl 115), (1, .inl 116), (2, .inl 111), (3, .inl 115), (4, .inl 113)])]),
  .inl (0, [.inr (.inr 334), .inl 0]),
  .inr (2, 86, .inl 0, [(0, [(0, .inl 115), (1, .inl 101), (2, .inl 99), (3, .inl 116), (4, .inl 105), (5, .inl 111), (6, .inl 110), (7, .inl 32), (8, .inl 103), (9, .inl 108), (10, .inl 111), (11, .inl 98), (12, .inl 97), (13, .inl 108), (14, .inl 32), (15, .inl 119), (16, .inl 101), (17, .inl 97), (18, .inl 107), (19, .inl 32), (20, .inl 107), (21, .inl 101), (22, .inl 101), (23, .inl 112), (24, .inl 32), (25, .inl 100), (26, .inl 98), (27, .inl 32), (28, .inl 100), (29, .inl 119), (30, .inl 32), (31, .inl 100), (32, .inl 100), (33, .inl 32), (34, .inl 100), (35, .inl 113), (36, .inl 32), (37, .inl 114), (38, .inl 101), (39, .inl 115), (40, .inl 98), (41, .inl 32), (42, .inl 97), (43, .inl 108), (44, .inl 105), (45, .inl 103), (46, .inl 110), (47, .inl 32), (48, .inl 105), (49, .inl 102), (50, .inl 32), (51, .inl 101), (52, .inl 108), (53, .inl 115), (54, .inl 101), (55, .inl 32), (56, .inl 101), (57, .inl 110), (58, .inl 100), (59, .inl 105), (60, .inl 102), (61, .inl 32), (62, .inl 114), (63, .inl 101)]), (1, [(64, .inl 112), (65, .inl 116), (66, .inl 32), (67, .inl 101), (68, .inl 110), (69, .inl 100), (70, .inl 114), (71, .inl 32), (72, .inl 109), (73, .inl 97), (74, .inl 99), (75, .inl 114), (76, .inl 111), (77, .inl 32), (78, .inl 101), (79, .inl 110), (80, .inl 100), (81, .inl 109), (82, .inl 32), (83, .inl 114), (84, .inl 101), (85, .inl 112)])]),
  .inl (0, [.inr (.inr 338), .inl 0]),
  .inr (2, 4, .inl 0, [(0, [(0, .inl 98), (1, .inl 121), (2, .inl 116), (3, .inl 101)])]),
  .inl (0, [.inr (.inr 342), .inl 0]),
  .inr (2, 5, .inl 0, [(0, [(0, .inl 100), (1, .inl 119), (2, .inl 111), (3, .inl 114), (4, .inl 100)])]),
  .inl (0, [.inr (.inr 346), .inl 0]),
  .inr (2, 5, .inl 0, [(0, [(0, .inl 113), (1, .inl 119), (2, .inl 111), (3, .inl 114), (4, .inl 100)])]),
  .inl (0, [.inr (.inr 350), .inl 0]),
  .inr (2, 3, .inl 0, [(0, [(0, .inl 114), (1, .inl 101), (2, .inl 108)])]),
  .inl (0, [.inr (.inr 354), .inl 0]),
  .inr (2, 3, .inl 0, [(0, [(0, .inl 101), (1, .inl 113), (2, .inl 117)])]),
  .inl (0, [.inr (.inr 358), .inl 0]),
  .inr (2, 4, .inl 0, [(0, [(0, .inl 116), (1, .inl 101), (2, .inl 120), (3, .inl 116)])]),
  .inl (0, [.inr (.inr 362), .inl 0]),
  .inr (2, 6, .inl 0, [(0, [(0, .inl 114), (1, .inl 111), (2, .inl 100), (3, .inl 97), (4, .inl 116), (5, .inl 97)])]),
  .inl (0, [.inr (.inr 366), .inl 0]),
  .inr (2, 4, .inl 0, [(0, [(0, .inl 100), (1, .inl 97), (2, .inl 116), (3, .inl 97)])]),
  .inl (0, [.inr (.inr 370), .inl 0]),
  .inr (2, 3, .inl 0, [(0, [(0, .inl 98), (1, .inl 115), (2, .inl 115)])]),
  .inl (0, [.inr (.inr 374), .inl 0]),
  .inr (2, 3, .inl 0, [(0, [(0, .inl 114), (1, .inl 101), (2, .inl 112)])]),
  .inl (0, [.inr (.inr 378), .inl 0]),
  .inr (2, 5, .inl 0, [(0, [(0, .inl 115), (1, .inl 116), (2, .inl 97), (3, .inl 114), (4, .inl 116)])]),
  .inr (2, 5, .inl 0, [(0, [(0, .inl 115), (1, .inl 116), (2, .inl 97), (3, .inl 114), (4, .inl 116)])]),
  .inr (0, 10, .inl 0, [(0, [(0, .inl 37), (1, .inl 37), (2, .inl 38), (3, .inl 38), (4, .inl 50), (5, .inl 50), (6, .inl 50), (7, .inl 51), (8, .inl 51), (9, .inl 51)])]),
  .inr (0, 10, .inl 0, [(0, [(0, .inl 4), (1, .inl 8), (2, .inl 4), (3, .inl 8), (4, .inl 1), (5, .inl 4), (6, .inl 8), (7, .inl 1), (8, .inl 4), (9, .inl 8)])]),
  .inr (0, 13, .inl 0, [(0, [(0, .inl 0), (1, .inl 2), (2, .inl 2), (3, .inl 2), (4, .inl 2), (5, .inl 1), (6, .inl 2), (7, .inl 1), (8, .inl 2), (9, .inl 3), (10, .inl 2), (11, .inl 2), (12, .inl 1)])]),
  .inr (0, 13, .inl 0, [(0, [(0, .inl 4294967295), (1, .inl 0), (2, .inl 1), (3, .inl 4294967295), (4, .inl 0), (5, .inl 0), (6, .inl 4294967295), (7, .inl 4294967295), (8, .inl 1), (9, .inl 1), (10, .inl 0), (11, .inl 0), (12, .inl 4294967295)])]),
  .inr (0, 13, .inl 0, [(0, [(0, .inl 4294967295), (1, .inl 1), (2, .inl 0), (3, .inl 4294967295), (4, .inl 4294967295), (5, .inl 4294967295), (6, .inl 4294967295), (7, .inl 4294967295), (8, .inl 0), (9, .inl 0), (10, .inl 4294967295), (11, .inl 4294967295), (12, .inl 4294967295)])]),
  .inr (0, 13, .inl 0, [(0, [(0, .inl 4294967295), (1, .inl 4294967295), (2, .inl 4294967295), (3, .inl 1), (4, .inl 1), (5, .inl 4294967295), (6, .inl 1), (7, .inl 4294967295), (8, .inl 4294967295), (9, .inl 2), (10, .inl 4294967295), (11, .inl 4294967295), (12, .inl 0)])]),
  .inr (0, 6, .inl 0, [(0, [(0, .inl 0), (1, .inl 1), (2, .inl 1), (3, .inl 2), (4, .inl 4), (5, .inl 8)])]),
  .inr (0, 11, .inl 0, [(0, [(0, .inl 0), (1, .inl 5), (2, .inl 1), (3, .inl 6), (4, .inl 3), (5, .inl 2), (6, .inl 1), (7, .inl 4), (8, .inl 2), (9, .inl 7), (10, .inl 5)])])]
theorem okf_I (G : rGm) (_ : ∀ i : Nat, G.2.2.2.1 i = .null ∨ ∃ a, G.2.2.2.1 i = .ref a) : ∀ v, isI v = true → narrow .int (rv G v) = rv G v ∧ fits .int (rv G v) = true := fun v h => by
  obtain ⟨a, rfl⟩ := isI_e h
  exact ⟨rfl, rfl⟩
theorem okf_J (G : rGm) (_ : ∀ i : Nat, G.2.2.2.1 i = .null ∨ ∃ a, G.2.2.2.1 i = .ref a) : ∀ v, isJ v = true → narrow .long (rv G v) = rv G v ∧ fits .long (rv G v) = true := fun v h => by
  obtain ⟨a, rfl⟩ := isJ_e h
  exact ⟨rfl, rfl⟩
theorem okf_B (G : rGm) (_ : ∀ i : Nat, G.2.2.2.1 i = .null ∨ ∃ a, G.2.2.2.1 i = .ref a) : ∀ v, isB v = true → narrow .byte (rv G v) = rv G v ∧ fits .byte (rv G v) = true := fun v h => by
  obtain ⟨a, rfl, h2⟩ := isB_e h
  exact ⟨h2, okT_fits G (t := 2) h⟩
theorem okf_Z (G : rGm) (_ : ∀ i : Nat, G.2.2.2.1 i = .null ∨ ∃ a, G.2.2.2.1 i = .ref a) : ∀ v, isZ v = true → narrow .boolean (rv G v) = rv G v ∧ fits .boolean (rv G v) = true := fun v h => by
  obtain ⟨a, rfl, h2, -⟩ := isZ_e h
  exact ⟨h2, okT_fits G (t := 3) h⟩
theorem okf_O (G : rGm) (C : String) (hx : ∀ i : Nat, G.2.2.2.1 i = .null ∨ ∃ a, G.2.2.2.1 i = .ref a) : ∀ v, isR v = true → narrow (.object C) (rv G v) = rv G v ∧ fits (.object C) (rv G v) = true := fun v h => by
  obtain ⟨a, rfl⟩ := isR_e h
  rcases rv_r G hx a with e | ⟨x, e⟩ <;> rw [e] <;> exact ⟨rfl, rfl⟩
theorem okf_A (G : rGm) (t : FieldType) (hx : ∀ i : Nat, G.2.2.2.1 i = .null ∨ ∃ a, G.2.2.2.1 i = .ref a) : ∀ v, isR v = true → narrow (.array t) (rv G v) = rv G v ∧ fits (.array t) (rv G v) = true := fun v h => by
  obtain ⟨a, rfl⟩ := isR_e h
  rcases rv_r G hx a with e | ⟨x, e⟩ <;> rw [e] <;> exact ⟨rfl, rfl⟩
theorem okr_I : ∀ v, isI v = true → ∃ a, v = .inl a ∧ narrow .int (.int (nI a)) = .int (nI a) := fun v h => by
  obtain ⟨a, rfl⟩ := isI_e h
  exact ⟨a, rfl, rfl⟩
theorem okr_Z : ∀ v, isZ v = true → ∃ a, v = .inl a ∧ narrow .boolean (.int (nI a)) = .int (nI a) := fun v h => by
  obtain ⟨a, rfl, h2, -⟩ := isZ_e h
  exact ⟨a, rfl, h2⟩
theorem okr_B : ∀ v, isB v = true → ∃ a, v = .inl a ∧ narrow .byte (.int (nI a)) = .int (nI a) := fun v h => isB_e h
theorem okr_C : ∀ v, isC v = true → ∃ a, v = .inl a ∧ narrow .char (.int (nI a)) = .int (nI a) := fun v h => by
  rcases v with a | a | a
  · have g1 : a ≤ 65535 := Nat.ble_eq.mp h
    refine ⟨a, rfl, ?_⟩
    exact (pk_charN (by omega)).1
  · cases h
  · cases h
