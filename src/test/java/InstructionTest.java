/** Promise 3 and 7: instructions, their operands and sizes, their bytes, and how long jumps become. */
public final class InstructionTest {
  private static final Bench b = new Bench();

  public static void main(String[] args) {
    arithmetic();
    moves();
    single();
    shifts();
    flow();
    others();
    conditions();
    addresses();
    addressFaults();
    displacements();
    numbers();
    places();
    sizes();
    jumps();
    jumpChains();
    b.end();
  }

  private static void arithmetic() {
    b.code("01d8", "add eax, ebx");
    b.code("4801d8", "add rax, rbx");
    b.code("00d8", "add al, bl");
    b.code("0308", "add ecx, [rax]");
    b.code("0108", "add [rax], ecx");
    b.code("0408", "add al, 8");
    b.code("83c008", "add eax, 8");
    b.code("4883c008", "add rax, 8");
    b.code("05e8030000", "add eax, 1000");
    b.code("4805e8030000", "add rax, 1000");
    b.code("81c1e8030000", "add ecx, 1000");
    b.code("80c108", "add cl, 8");
    b.code("80380c", "cmp byte [rax], 12");
    b.code("83380c", "cmp dword [rax], 12");
    b.code("4883380c", "cmp qword [rax], 12");
    b.code("09d8" + "11d8" + "19d8" + "21d8" + "29d8" + "31d8" + "39d8", "or eax, ebx", "adc eax, ebx", "sbb eax, ebx",
        "and eax, ebx", "sub eax, ebx", "xor eax, ebx", "cmp eax, ebx");
    b.code("83c8ff83d0ff83d8ff83e0ff83e8ff83f0ff83f8ff", "or eax, -1", "adc eax, -1", "sbb eax, -1", "and eax, -1",
        "sub eax, -1", "xor eax, -1", "cmp eax, -1");
    b.code("0c050d00010000", "or al, 5", "or eax, 256");
  }

  private static void moves() {
    b.code("89d8", "mov eax, ebx");
    b.code("8b03", "mov eax, [rbx]");
    b.code("8803", "mov [rbx], al");
    b.code("b805000000", "mov eax, 5");
    b.code("48c7c005000000", "mov rax, 5");
    b.code("48b80000008000000000", "mov rax, 0x80000000");
    b.code("b8ffffffff", "mov eax, 0xffffffff");
    b.code("48c7c0ffffffff", "mov rax, -1");
    b.code("b005", "mov al, 5");
    b.code("41b005", "mov r8b, 5");
    b.code("c60305", "mov byte [rbx], 5");
    b.code("c70305000000", "mov dword [rbx], 5");
    b.code("48c70305000000", "mov qword [rbx], 5");
    b.code("85d8", "test eax, ebx");
    b.code("8503", "test [rbx], eax");
    b.fault("2@1", "test eax, [rbx]");
    b.code("a805a905000000f6c305f7c305000000", "test al, 5", "test eax, 5", "test bl, 5", "test ebx, 5");
    b.code("87d8", "xchg eax, ebx");
    b.code("8703", "xchg [rbx], eax");
    b.fault("2@1", "xchg eax, [rbx]");
    b.code("488d03", "lea rax, [rbx]");
    b.code("8d03", "lea eax, [rbx]");
    b.fault("2@1", "lea rax, rbx");
    b.fault("2@1", "lea al, [rbx]");
    b.fault("2@1", "lea rax, dword [rbx]");
    b.code("0fb6c3480fb6c30fb60348" + "0fbe03", "movzx eax, bl", "movzx rax, bl", "movzx eax, byte [rbx]",
        "movsx rax, byte [rbx]");
    b.fault("2@1", "movzx eax, ebx");
    b.fault("2@1", "movzx eax, dword [rbx]");
    b.fault("2@1", "movzx al, bl");
    b.code("4863c3486303", "movsxd rax, ebx", "movsxd rax, dword [rbx]");
    b.fault("2@1", "movsxd eax, ebx");
    b.fault("2@1", "movsxd rax, rbx");
    b.fault("2@1", "movsxd rax, bl");
  }

  private static void single() {
    b.code("f6d0f7d048f7d0f7d8", "not al", "not eax", "not rax", "neg eax");
    b.code("f7e3f7ebf7f3f7fb", "mul ebx", "imul ebx", "div ebx", "idiv ebx");
    b.code("fec0ffc0fec8ffc8", "inc al", "inc eax", "dec al", "dec eax");
    b.code("f61348ff0b", "not byte [rbx]", "dec qword [rbx]");
    b.code("0fafc3480faf03", "imul eax, ebx", "imul rax, [rbx]");
    b.code("6bc3056bc00569c30001000069c000010000", "imul eax, ebx, 5", "imul eax, 5", "imul eax, ebx, 256",
        "imul eax, 256");
    b.code("6b0305", "imul eax, [rbx], 5");
    b.fault("2@1", "imul al, bl");
    b.fault("2@1", "imul [rbx], 5");
    b.fault("2@1", "imul eax, 5, 5");
    b.fault("2@1", "imul");
    b.fault("2@1", "not");
    b.fault("2@1", "not eax, ebx");
    b.fault("2@1", "not 5");
  }

  private static void shifts() {
    b.code("c0c003c1c00348c1c003", "rol al, 3", "rol eax, 3", "rol rax, 3");
    b.code("d1c0d1c8d1e0d1e8d1f8", "rol eax, 1", "ror eax, 1", "shl eax, 1", "shr eax, 1", "sar eax, 1");
    b.code("d2e0d3e0d3e1d22348d32b", "shl al, cl", "shl eax, cl", "shl ecx, cl", "shl byte [rbx], cl",
        "shr qword [rbx], cl");
    b.code("d2e1", "shl cl, cl");
    b.code("d2c3d3c3d2cbd3cbd2ebd3ebd2fbd3fb", "rol bl, cl", "rol ebx, cl", "ror bl, cl", "ror ebx, cl", "shr bl, cl",
        "shr ebx, cl", "sar bl, cl", "sar ebx, cl");
    b.code("d0c3d0cbd0e3d0ebd0fb", "rol bl, 1", "ror bl, 1", "shl bl, 1", "shr bl, 1", "sar bl, 1");
    b.code("c0cb02c1cb02c0eb02c1eb02c0fb02c1fb02", "ror bl, 2", "ror ebx, 2", "shr bl, 2", "shr ebx, 2", "sar bl, 2",
        "sar ebx, 2");
    b.code("c1e0c8", "shl eax, 200");
    b.code("c1e000", "shl eax, 0");
    b.code("c0e07f", "shl al, 127");
    b.fault("2@1", "shl al, 128");
    b.fault("2@1", "shl al, 200");
    b.fault("2@1", "shl eax, 256");
    b.fault("2@1", "shl eax, -1");
    b.fault("2@1", "shl eax, ecx");
    b.fault("2@1", "shl eax, bl");
    b.fault("2@1", "shl [rbx], cl");
    b.fault("2@1", "shl eax, x");
    b.fault("2@1", "shl eax, byte 5");
    b.code("c1e005", "shl eax, dword 5");
  }

  private static void flow() {
    b.code("5041545741576a056800010000ff33", "push rax", "push r12", "push rdi", "push r15", "push 5", "push 256",
        "push qword [rbx]");
    b.code("ff33", "push [rbx]");
    b.code("6aff", "push -1");
    b.code("58415f8f038f03", "pop rax", "pop r15", "pop [rbx]", "pop qword [rbx]");
    b.fault("2@1", "push eax");
    b.fault("2@1", "push dword [rbx]");
    b.fault("2@1", "push byte 5");
    b.code("6a05", "push qword 5");
    b.fault("2@1", "push 0x80000000");
    b.fault("2@1", "pop 5");
    b.code("ffe0ff23ff2341ffe7", "jmp rax", "jmp [rbx]", "jmp qword [rbx]", "jmp r15");
    b.code("ffd0ff13", "call rax", "call [rbx]");
    b.fault("2@1", "jmp eax");
    b.fault("2@1", "jmp dword [rbx]");
    b.fault("2@1", "call al");
    b.code("eb00", "jmp dword x", "x:");
    b.code("e800000000c20500", "call byte x", "ret dword 5");
    b.fault("2@1", "jz rax");
    b.fault("2@1", "jz qword [rax]");
    b.fault("2@1", "ret qword [rax]");
    b.fault("2@1", "jmp");
    b.fault("2@1", "jmp 5, 6");
    b.code("c3c20500c2ffffc20000", "ret", "ret 5", "ret 65535", "ret 0");
    b.fault("2@1", "ret 65536");
    b.fault("2@1", "ret -1");
    b.fault("2@1", "ret x");
    b.fault("2@1", "ret rax");
  }

  private static void others() {
    b.code("9948999848" + "98", "cdq", "cqo", "cwde", "cdqe");
    b.code("90cc0f0b0f05c9", "nop", "int3", "ud2", "syscall", "leave");
    b.code("0fbcc30fbd03480fbcc3", "bsf eax, ebx", "bsr eax, [rbx]", "bsf rax, rbx");
    b.code("0fc8480fc9490fcf", "bswap eax", "bswap rcx", "bswap r15");
    b.code("0fa3d80fa3030fbae005480fba23c8", "bt eax, ebx", "bt [rbx], eax", "bt eax, 5", "bt qword [rbx], 200");
    b.code("0fc0d80fc1030fb0d8480fb103", "xadd al, bl", "xadd [rbx], eax", "cmpxchg al, bl", "cmpxchg [rbx], rax");
    b.code("a4a548a5aaab48ab", "movsb", "movsd", "movsq", "stosb", "stosd", "stosq");
    b.code("f3a4f3a5f348a5f3aaf3abf348ab", "rep movsb", "rep movsd", "rep movsq", "rep stosb", "rep stosd",
        "rep stosq");
    b.fault("2@1", "bswap al");
    b.fault("2@1", "bt al, 1");
    b.fault("2@1", "bsf al, bl");
    b.fault("2@1", "nop 5");
    b.fault("2@1", "cdq eax");
    b.fault("2@1", "movsb 5");
    b.fault("2@1", "rep movsb 5");
    b.fault("1@1", "rep");
    b.fault("1@1", "rep nop");
    b.fault("1@1", "rep 5");
    b.fault("1@1", "rep movsx");
  }

  private static void conditions() {
    String[] names = {"o", "no", "b", "ae", "e", "ne", "be", "a", "s", "ns", "p", "np", "l", "ge", "le", "g"};
    for (int c = 0; c < 16; c++) {
      b.code(String.format("%02xfe", 0x70 + c), "j" + names[c] + " $");
      b.code(String.format("0f%02xc3", 0x90 + c), "set" + names[c] + " bl");
      b.code(String.format("0f%02xc3", 0x40 + c), "cmov" + names[c] + " eax, ebx");
    }
    b.code("72fe73fe74fe75fe", "jc $", "jnc $", "jz $", "jnz $");
    b.code("0f92c00f93c00f94c00f95c0", "setc al", "setnc al", "setz al", "setnz al");
    b.code("0f42c10f43c10f44c10f45c1", "cmovc eax, ecx", "cmovnc eax, ecx", "cmovz eax, ecx", "cmovnz eax, ecx");
    b.code("0f9403", "sete [rbx]");
    b.code("400f94c6", "sete sil");
    b.fault("2@1", "sete eax");
    b.fault("2@1", "sete dword [rbx]");
    b.fault("2@1", "cmove al, bl");
    b.fault("2@1", "jcxz x");
    b.fault("2@1", "jnae x");
  }

  private static void addresses() {
    b.code("8b00", "mov eax, [rax]");
    b.code("8b0424", "mov eax, [rsp]");
    b.code("8b4500", "mov eax, [rbp]");
    b.code("418b0424", "mov eax, [r12]");
    b.code("418b4500", "mov eax, [r13]");
    b.code("8b0418", "mov eax, [rax + rbx]");
    b.code("8b0403", "mov eax, [rbx + rax]");
    b.code("8b0458", "mov eax, [rax + rbx*2]");
    b.code("8b0458", "mov eax, [rbx*2 + rax]");
    b.code("8b0498", "mov eax, [rax + rbx*0b100]");
    b.code("8b04d8", "mov eax, [rax + rbx * 0x8]");
    b.code("8b041d00000000", "mov eax, [rbx*1]");
    b.code("8b045d00000000", "mov eax, [rbx*2]");
    b.code("8b0403", "mov eax, [rax*1 + rbx]");
    b.code("8b0404", "mov eax, [rax + rsp]");
    b.code("8b0404", "mov eax, [rax + rsp*1]");
    b.code("8b0404", "mov eax, [rsp*1 + rax]");
    b.code("8b0404", "mov eax, [rsp + rax]");
    b.code("428b0420", "mov eax, [rax + r12]");
    b.code("438b4425004f8b0c3f", "mov eax, [r13 + r12]", "mov r9, [r15 + r15]");
    b.code("8b042505000000", "mov eax, [5]");
    b.code("8b0425ffffffff", "mov eax, [-1]");
    b.code("448a38", "mov r15b, [rax]");
    b.code("408830408820", "mov [rax], sil", "mov [rax], spl");
    b.works = new NativeWorks();
    b.due("an odd address", b.unit(false, "mov eax, [rax + rbx + rcx]"), -1);
    b.due("leaves no trace", b.unit(false, "mov eax, [rax + rbx]"), 0);
    b.code("8810", "mov [rax], dl");
  }

  private static void addressFaults() {
    b.fault("2@1", "mov eax, [rax + rbx + rcx]");
    b.fault("2@1", "mov eax, [rax*2 + rbx*2]");
    b.fault("2@1", "mov eax, [rsp*1]");
    b.fault("2@1", "mov eax, [rsp*2]");
    b.fault("2@1", "mov eax, [rsp*2 + rax]");
    b.fault("2@1", "mov eax, [rsp + rsp]");
    b.fault("1@1", "mov eax, [eax]");
    b.fault("1@1", "mov eax, [al]");
    b.fault("1@1", "mov eax, [rax*3]");
    b.fault("1@1", "mov eax, [rax*0]");
    b.fault("1@1", "mov eax, [rax*(2)]");
    b.fault("1@1", "mov eax, [2*rax]");
    b.fault("1@1", "mov eax, [rax*2*2]");
    b.fault("1@1", "mov eax, [-rax]");
    b.fault("1@1", "mov eax, [+rax]");
    b.fault("1@1", "mov eax, [5 - rax]");
    b.fault("1@1", "mov eax, [5 - rax*2]");
    b.fault("1@1", "mov eax, [(rax)]");
    b.fault("1@1", "mov eax, []");
    b.fault("1@1", "mov eax, [rax");
    b.fault("1@1", "mov eax, [rax +]");
    b.fault("1@1", "mov eax, [rax rbx]");
    b.fault("1@1", "mov eax, [rax] + 5");
    b.fault("1@1", "mov eax, [5 << 2]");
    b.fault("1@1", "mov eax, [rax + 1 | 2]");
    b.fault("1@1", "mov eax, [rel]");
    b.fault("1@1", "mov eax, [rel rax]");
    b.fault("1@1", "mov eax, [rax + rel x]");
    b.fault("1@1", "mov eax, rel x");
    b.fault("1@1", "mov eax, byte ebx");
    b.fault("1@1", "mov eax ebx");
    b.fault("1@1", "mov , eax");
    b.fault("1@1", "mov eax,");
    b.fault("1@1", "mov eax, ebx, 3 +");
    b.fault("2@1", "mov eax, ebx, ecx, edx, esi");
    b.fault("2@1", "mov [rax], [rbx]");
  }

  private static void displacements() {
    b.code("8b407f", "mov eax, [rax + 127]");
    b.code("8b8080000000", "mov eax, [rax + 128]");
    b.code("8b4080", "mov eax, [rax - 128]");
    b.code("8b807fffffff", "mov eax, [rax - 129]");
    b.code("8b00", "mov eax, [rax + 5 - 5]");
    b.code("8b442408", "mov eax, [rsp + 8]");
    b.code("8b400b", "mov eax, [1 + rax + 5 * 2]");
    b.code("8b40f7", "mov eax, [1 + rax - 5 * 2]");
    b.code("8b40f6", "mov eax, [rax - 5 * 2]");
    b.code("8b4006", "mov eax, [rax - ~5]");
    b.code("8b400c", "mov eax, [rax + (1 + 2 << 2)]");
    b.code("8b4005", "mov eax, [rax - -5]");
    b.code("8b40fb", "mov eax, [-5 + rax]");
    // The - ahead of the first of the other terms stands in front of it, and binds closest.
    b.code("488d80000000c0", "lea rax, [rax - 0x8000000000000000 / 0x200000000]");
    b.code("8b80ffffff7f", "mov eax, [rax + 0x7fffffff]");
    b.code("8b8000000080", "mov eax, [rax - 0x80000000]");
    b.fault("7@1", "mov eax, [rax + 0x80000000]");
    b.fault("7@1", "mov eax, [rax - 0x80000001]");
    b.fault("7@1", "mov eax, [0xffffffff]");
    b.code("8b042500000080", "mov eax, [0xffffffff80000000]");
    b.fault("4@1", "mov eax, [rax - x]");
    b.fault("4@1", "mov eax, [rax + x + y]");
    b.code("8b8000000000", "mov eax, [rax + x]");
    b.code("8b8000000000", "mov eax, [x + rax - 5]");
    b.code("8b8000000000", "x: mov eax, [x + rax - $]");
    b.code("8b042500000000", "mov eax, [x]");
    b.code("8b0500000000", "mov eax, [rel x]");
    b.code("8b0500000000", "mov eax, [rel 5]");
    b.code("8b0500000000", "mov eax, [rel 5 << 2]");
    b.code("8b0500000000", "x: mov eax, [rel $ - x]");
    b.code("c7050000000005000000", "mov dword [rel x], 5");
  }

  private static void numbers() {
    b.code("04ff0480", "add al, 255", "add al, 128");
    b.fault("2@1", "add al, 256");
    b.fault("2@1", "add al, -129");
    b.code("83c0ff", "add eax, 0xffffffff");
    b.code("0500000080", "add eax, 0x80000000");
    b.code("0500000080", "add eax, -0x80000000");
    b.fault("2@1", "add eax, 0x100000000");
    b.fault("2@1", "add eax, -0x80000001");
    b.fault("2@1", "add rax, 0x80000000");
    b.code("480500000080", "add rax, -0x80000000");
    b.fault("2@1", "mov qword [rax], 0x80000000");
    b.fault("2@1", "mov eax, 0x100000000");
    b.fault("2@1", "mov al, 256");
    b.code("6bc0ff", "imul eax, 0xffffffff");
    b.code("0fbae0ff", "bt eax, 255");
    b.fault("2@1", "bt eax, 256");
    b.fault("2@1", "mov 5, eax");
    b.fault("2@1", "not [rax + 5]");
  }

  private static void places() {
    b.code("48b80000000000000000", "mov rax, x");
    b.code("b800000000", "mov eax, x");
    b.code("48c70000000000", "mov qword [rax], x");
    b.code("c70000000000", "mov dword [rax], x");
    b.code("480500000000", "add rax, x");
    b.code("4881c300000000", "add rbx, x");
    b.code("6800000000", "push x");
    b.code("69c000000000", "imul eax, x");
    b.code("e800000000", "call x");
    b.code("e800000000", "x: call x");
    b.code("e800000000", "call 5");
    b.code("e900000000", "jmp 5");
    b.code("e900000000", "jmp x");
    b.code("0f8400000000", "jz x");
    b.fault("2@1", "mov al, x");
    b.fault("2@1", "add al, x");
    b.fault("2@1", "mov byte [rax], x");
    b.fault("2@1", "bt eax, x");
  }

  private static void sizes() {
    b.fault("2@1", "mov [rax], 5");
    b.fault("2@1", "mov eax, bl");
    b.fault("2@1", "mov eax, rbx");
    b.fault("2@1", "mov eax, byte [rbx]");
    b.code("8b03", "mov eax, dword [rbx]");
    b.fault("2@1", "mov eax, byte 5");
    b.code("c70305000000", "mov [rbx], dword 5");
    b.fault("2@1", "inc [rbx]");
    b.fault("2@1", "xadd eax, bl");
    b.fault("2@1", "bswap dword [rax]");
    b.code("40fec4", "inc spl");
    b.code("40b405", "mov spl, 5");
    b.code("4088f0", "mov al, sil");
    b.code("400fb6c7", "movzx eax, dil");
    b.code("0fb6c3", "movzx eax, bl");
    b.code("408a38", "mov dil, [rax]");
    b.code("410fb6c7", "movzx eax, r15b");
  }

  private static void jumps() {
    b.code("ebfe", "jmp $");
    b.code("eb00", "jmp x", "x:");
    b.code("ebff", "jmp $ + 1");
    b.code("eb7f" + Bench.times(127, "00"), "jmp x", "resb 127", "x:");
    b.code("e900000000" + Bench.times(128, "00"), "jmp x", "resb 128", "x:");
    b.code(Bench.times(126, "00") + "eb80", "x: resb 126", "jmp x");
    b.code(Bench.times(127, "00") + "e900000000", "x: resb 127", "jmp x");
    b.code("747f" + Bench.times(127, "00"), "jz x", "resb 127", "x:");
    b.code("0f8400000000" + Bench.times(128, "00"), "jz x", "resb 128", "x:");
    b.code("eb05" + "9090909090", "jmp x + 3", "nop", "nop", "x: nop", "nop", "nop");
    b.code("e900000000", "weak x", "jmp x", "x:");
    b.code("e900000000", "jmp x", "x:", "weak x");
    b.code("eb00", "global x", "jmp x", "x:");
    b.code("e900000000", "jmp x", "section data", "x:");
    b.code("e900000000", "x: jmp $ - x");
    b.make("section data", "jmp x", "x: jz x");
    b.due("jumps in data", b.bytes(0, 2), "eb0074fe");
  }

  /** A jump that becomes long can make others long, and moves what align fills. */
  private static void jumpChains() {
    // x is 127 behind the first jump till the second one, 128 ahead of y, becomes long.
    b.code("e900000000" + "e900000000" + Bench.times(128, "90"), "jmp x", "jmp y", "rept 125", "nop", "endr",
        "x: nop", "nop", "nop", "y:");
    b.code("eb7f" + "eb7f" + Bench.times(127, "90"), "jmp x", "jmp y", "rept 125", "nop", "endr", "x: nop", "nop", "y:");
    // The jump over 128 bytes is long, then align fills less, but it stays long.
    b.code("e900000000" + "909090" + Bench.times(122, "00"), "jmp x", "align 8", "resb 122", "x:");
    b.code("eb7a" + Bench.times(122, "00"), "jmp x", "resb 122", "x:");
    // Long since 6 bytes of align were ahead of x; with 3 of them it would be short enough.
    b.code("e900000000" + "909090" + Bench.times(122, "00"), "jmp x", "align 8", "resb 122", "x:");
    b.code(Bench.times(1, "eb0090"), "a: jmp b", "b: nop");
  }
}
