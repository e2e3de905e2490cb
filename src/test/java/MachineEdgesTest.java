/** Promises 10 to 19, THE MACHINE: the edges of memory, of steps and what stops them, of services, and of what is asked. */
public final class MachineEdgesTest {
  private static final Bench b = new Bench();
  private static final long TEXT = Bench.TEXT;
  private static final long TOP = Bench.TOP;
  private static final long LOW = TOP - 65536;
  /** One byte past each part: text, rodata, data and bss of 8 bytes each. */
  private static final String[] PARTS = {"section rodata", "keep", "resb 8", "section data", "keep", "resb 8", "section bss", "keep",
    "resb 8", "section text"};

  public static void main(String[] args) {
    beforeLoad();
    loaded();
    parts();
    reads();
    writes();
    sideBySide();
    begins();
    stopsThree();
    readFirst();
    stopsFive();
    divisionEdges();
    runs();
    stopPlaces();
    addresses();
    stack();
    returns();
    strings();
    wholeBytes();
    input();
    output();
    breaks();
    services();
    asked();
    b.end();
  }

  private static String[] with(String... lines) {
    String[] all = new String[lines.length + PARTS.length];
    System.arraycopy(lines, 0, all, 0, lines.length);
    System.arraycopy(PARTS, 0, all, lines.length, PARTS.length);
    return all;
  }

  private static void beforeLoad() {
    b.about("V: before the first load no byte may be read or written");
    b.fresh();
    for (long at : new long[] {0, -1, TEXT, TEXT - 1, LOW, TOP - 1, TOP, Long.MIN_VALUE, Long.MAX_VALUE}) {
      b.due("peek", b.works.peek(at), -1);
      b.due("poke", b.works.poke(at, 1), false);
    }
    b.about("V: registers are there, and set() goes, till it is loaded");
    for (int k = 0; k < 17; k++) {
      b.register(k, 0);
      b.due("set", b.works.set(k, 100 + k), true);
    }
    for (int k = 0; k < 17; k++) {
      b.register(k, 100 + k);
    }
    b.register(17, 2);
    b.register(18, 0x400000);
    b.register(19, 0);
    b.due("run", b.run(1), "state");
    b.due("run", b.run(0), "argument");
    b.due("stop", b.works.stop(0) + b.works.stop(1), 0);
    b.about("V: linked is not loaded");
    b.taken(0, "global start", "nop", "start: nop");
    b.links(2);
    b.due("run", b.run(1), "state");
    b.due("peek", b.works.peek(TEXT), -1);
    b.register(3, 103);
    b.due("load", b.works.load(), TEXT + 1);
    for (int k = 0; k < 16; k++) {
      b.register(k, k == 4 ? TOP : 0);
    }
    b.register(16, TEXT + 1);
    b.register(18, 0x401000);
    b.due("peek", b.works.peek(TEXT), 0x90);
    b.stops(1, 1, 0, 0);
  }

  private static void loaded() {
    b.about("V: LOADED, registers and flags are 0, rsp is 0x7ffff000, IP is start, INPUT and OUTPUT are empty");
    b.program("cmp al, bl", "mov ecx, 1", "mov eax, 1", "mov edx, 1", "mov rsi, rsp", "sub rsi, 1", "syscall", "ud2");
    b.works.set(3, 1);
    b.works.set(15, 1);
    b.works.poke(LOW, 1);
    b.works.poke(TOP - 1, 9);
    b.feed("x");
    b.due("input", b.works.input(1), 1);
    b.stops(7, 4000, 2, 0);
    b.register(17, 2 + 4);
    b.due("output", b.works.output(0), 9);
    b.works.set(16, 5);
    b.stops(0, 1, 4, 5);
    b.due("load", b.works.load(), TEXT);
    b.due("stop", b.works.stop(0), 0);
    b.due("its value", b.works.stop(1), 0);
    for (int k = 0; k < 16; k++) {
      b.register(k, k == 4 ? TOP : 0);
    }
    b.register(16, TEXT);
    b.register(17, 2);
    b.register(19, 0);
    b.due("output", b.works.output(-1), 0);
    b.due("output", b.works.output(0), -1);
    b.due("input", b.works.input(0), 0);
    b.due("stack", b.works.peek(LOW) + b.works.peek(TOP - 1), 0);
    b.about("10: there is no image: later calls are as before");
    b.fresh();
    for (int i = 0; i < 2; i++) {
      String thrown = "nothing";
      try {
        b.works.load();
      } catch (IllegalStateException e) {
        thrown = "state";
      }
      b.due("load", thrown, "state");
      b.due("run", b.run(1), "state");
      b.register(4, 0);
    }
  }

  /** A part of memory: its first and last byte, and the ones around them. */
  private static void part(long from, long to, boolean read, boolean write) {
    b.due("read the first", b.works.peek(from), read ? 0 : -1);
    b.due("read the last", b.works.peek(to - 1), read ? 0 : -1);
    b.due("below", b.works.peek(from - 1), -1);
    b.due("behind", b.works.peek(to), -1);
    b.due("write the first", b.works.poke(from, 0), write);
    b.due("write the last", b.works.poke(to - 1, 0), write);
    b.due("write below", b.works.poke(from - 1, 0), false);
    b.due("write behind", b.works.poke(to, 0), false);
  }

  private static void parts() {
    b.about("V: memory: text read, rodata read, data and bss with all between, and the STACK read and written");
    b.program(with("resb 8"));
    part(TEXT, TEXT + 8, true, false);
    part(TEXT + 0x1000, TEXT + 0x1008, true, false);
    part(TEXT + 0x2000, TEXT + 0x2018, true, true);
    part(LOW, TOP, true, true);
    b.register(18, TEXT + 0x3000);
    b.due("no HEAP yet", b.works.peek(TEXT + 0x3000), -1);
    for (long at : new long[] {0, -1, Long.MIN_VALUE, Long.MAX_VALUE, TEXT + (1L << 32), TOP + (1L << 32), TOP - 1 - (1L << 32)}) {
      b.due("peek", b.works.peek(at), -1);
      b.due("poke", b.works.poke(at, 1), false);
    }
    b.about("V: what is not there has no byte");
    b.program("resb 8");
    part(TEXT, TEXT + 8, true, false);
    for (long at : new long[] {0, 1, -1, 0x1000, TEXT + 0x1000}) {
      b.due("peek", b.works.peek(at), -1);
      b.due("poke", b.works.poke(at, 1), false);
    }
    b.about("V: bss alone, data alone, rodata alone");
    b.program("resb 8", "section bss", "keep", "resb 8");
    part(TEXT, TEXT + 8, true, false);
    part(TEXT + 0x1000, TEXT + 0x1008, true, true);
    b.program("resb 8", "section data", "keep", "resb 8");
    part(TEXT, TEXT + 8, true, false);
    part(TEXT + 0x1000, TEXT + 0x1008, true, true);
    b.program("resb 8", "section rodata", "keep", "resb 8");
    part(TEXT, TEXT + 8, true, false);
    part(TEXT + 0x1000, TEXT + 0x1008, true, false);
    b.start("section bss", "resb 1", "global start", "start: resb 7");
    part(TEXT, TEXT + 8, true, true);
    b.about("V: from its first section to the last one's end");
    b.fresh();
    b.taken(0, "global start", "start: resb 3", "section rodata", "keep", "resb 3", "section data", "keep", "resb 3");
    b.taken(1, "keep", "resb 3", "section rodata", "keep", "resb 3", "section data", "keep", "resb 3");
    b.link();
    b.works.load();
    part(TEXT, TEXT + 0x13, true, false);
    part(TEXT + 0x1000, TEXT + 0x1013, true, false);
    part(TEXT + 0x2000, TEXT + 0x2013, true, true);
  }

  /** Steps of one instruction with rbx at an address: done, or STOP 3 with the address and all as it was. */
  private static void access(String line, long at, boolean fine) {
    b.works.set(16, TEXT);
    b.works.set(3, at);
    b.due(line + " at " + Long.toHexString(at), b.run(1), fine ? "1" : "0");
    b.due("stop", b.works.stop(0), fine ? 0 : 3);
    b.due("its value", b.works.stop(1), fine ? 0 : at);
    b.register(16, TEXT + (fine ? b.works.size(0, 0) - 8 : 0));
  }

  private static void reads() {
    b.about("V: an operand is read as a whole");
    String[] lines = {"mov al, [rbx]", "mov eax, [rbx]", "mov rax, [rbx]", "movzx eax, byte [rbx]", "movsx rax, byte [rbx]",
        "movsxd rax, dword [rbx]", "cmp byte [rbx], 5", "test [rbx], rax", "add eax, [rbx]", "imul rax, [rbx]", "bsf rax, [rbx]",
        "cmovz rax, [rbx]", "bt [rbx], eax", "push qword [rbx]", "mul byte [rbx]", "shl byte [rbx], cl", "cmp rax, [rbx]", "jmp [rbx]"};
    int[] sizes = {1, 4, 8, 1, 1, 4, 1, 8, 4, 8, 8, 8, 4, 8, 1, 1, 8, 8};
    for (int i = 0; i < lines.length - 1; i++) {
      b.program(with(lines[i], "resb 8"));
      int size = sizes[i];
      long[] froms = {TEXT, TEXT + 0x1000, TEXT + 0x2000, LOW};
      long[] tos = {TEXT + b.works.size(0, 0), TEXT + 0x1008, TEXT + 0x2018, TOP};
      for (int k = 0; k < 4; k++) {
        access(lines[i], froms[k], true);
        access(lines[i], tos[k] - size, true);
        access(lines[i], tos[k] - size + 1, false);
        access(lines[i], froms[k] - 1, false);
        access(lines[i], tos[k], false);
      }
      access(lines[i], -1, false);
      access(lines[i], Long.MIN_VALUE, false);
      access(lines[i], 0, false);
    }
  }

  private static void writes() {
    b.about("V: and written as a whole; data, bss, the HEAP and the STACK are written");
    String[] lines = {"mov [rbx], al", "mov [rbx], eax", "mov [rbx], rax", "setz [rbx]", "add dword [rbx], 5", "inc byte [rbx]",
        "not qword [rbx]", "xchg [rbx], eax", "xadd [rbx], rax", "neg byte [rbx]", "shl dword [rbx], 1", "pop qword [rbx]",
        "mov byte [rbx], 5", "cmpxchg [rbx], eax"};
    int[] sizes = {1, 4, 8, 1, 4, 1, 8, 4, 8, 1, 4, 8, 1, 4};
    for (int i = 0; i < lines.length; i++) {
      b.program(with(lines[i], "resb 8"));
      int size = sizes[i];
      for (long[] part : new long[][] {{TEXT + 0x2000, TEXT + 0x2018}, {LOW, TOP}}) {
        for (long at : new long[] {part[0], part[1] - size, part[1] - size + 1, part[0] - 1, part[1]}) {
          b.works.set(4, TOP - 1000);
          b.works.set(0, 0);
          access(lines[i], at, at >= part[0] && at <= part[1] - size);
        }
      }
      b.works.set(4, TOP - 1000);
      b.works.set(0, 0);
      access(lines[i], TEXT + 0x1000, false);
      // What is not the same is not written.
      access(lines[i], TEXT, lines[i].startsWith("cmpxchg"));
    }
  }

  private static void sideBySide() {
    b.about("V: bytes side by side, whatever part they are of");
    b.program("mov rax, [rbx]", "mov [rbx], rax", "mov eax, 12", "syscall", "mov eax, 1", "syscall", "resb 4096 - 20", "section rodata", "keep",
        "resb 4095", "db 1", "section data", "keep", "db 2", "resb 4094", "db 3");
    b.due("sizes", b.works.size(0, 0) + b.works.size(0, 1) + b.works.size(0, 2), 3 * 4096);
    b.works.set(7, TEXT + 0x3000 + 16);
    b.works.set(16, TEXT + 6);
    b.stops(2, 2, 0, 0);
    b.due("poke", b.works.poke(TEXT + 0x3000, 4), true);
    long[] borders = {TEXT + 0x1000, TEXT + 0x2000, TEXT + 0x3000};
    for (int i = 0; i < 3; i++) {
      for (int ahead = 1; ahead < 8; ahead++) {
        b.works.set(16, TEXT);
        b.works.set(3, borders[i] - ahead);
        b.stops(1, 1, 0, 0);
        b.works.set(16, TEXT + 3);
        b.stops(i == 2 ? 1 : 0, 1, i == 2 ? 0 : 3, i == 2 ? 0 : borders[i] - ahead);
      }
    }
    b.works.set(16, TEXT);
    b.works.set(3, TEXT + 0x2fff);
    b.stops(1, 1, 0, 0);
    b.register(0, 0x403);
    b.works.set(3, TEXT + 0x1fff);
    b.works.set(16, TEXT);
    b.stops(1, 1, 0, 0);
    b.register(0, 0x201);
    b.about("V: all four parts at once");
    b.works.set(16, TEXT + 13);
    b.works.set(6, TEXT);
    b.works.set(2, 0x3010);
    b.stops(2, 2, 0, 0);
    b.register(0, 0x3010);
    b.due("output", b.works.output(-1), 0x3010);
    b.due("of data", b.works.output(0x2fff), 3);
    b.due("of the heap", b.works.output(0x3000), 4);
    b.works.set(16, TEXT + 13);
    b.works.set(2, 0x3011);
    b.stops(2, 2, 0, 0);
    b.register(0, -14);
  }

  private static void begins() {
    b.about("V: at IP an instruction of the sources must begin (in a text section that was not left out), else STOP 4");
    b.fresh();
    b.taken(0, "global start", "start: mov eax, 5", "db 0x90", "nop", "section data", "keep", "nop", "section rodata", "keep", "nop");
    b.taken(1, "nop");
    b.link();
    b.works.load();
    long[] none = {TEXT + 1, TEXT + 4, TEXT + 5, TEXT + 7, TEXT + 16, TEXT + 0x1000, TEXT + 0x2000, TEXT - 1, TEXT + 131071, TEXT + 131072,
        TEXT + 131073, TEXT + 196608, 0, -1, Long.MIN_VALUE, Long.MAX_VALUE, TOP - 1, TEXT + (1L << 32), TEXT - (1L << 32), TEXT + (1L << 63)};
    for (long at : none) {
      b.works.set(16, at);
      b.stops(0, 5, 4, at);
      b.register(16, at);
      b.register(19, 0);
    }
    b.works.set(16, TEXT);
    b.stops(1, 5, 4, TEXT + 5);
    b.works.set(16, TEXT + 6);
    b.stops(1, 5, 4, TEXT + 7);
    b.register(19, 2);
    b.about("V: the last byte of the largest image");
    b.program("nop", "resb 65535", "section data", "keep", "resb 65535", "nop");
    b.works.set(16, TEXT + 131071);
    b.stops(0, 1, 4, TEXT + 131071);
    b.program("resb 65535", "nop");
    b.works.set(16, TEXT + 65535);
    b.stops(1, 1, 0, 0);
    b.stops(0, 1, 4, TEXT + 65536);
    b.about("V: a jump goes anywhere; the next step stops");
    b.program("jmp rax");
    b.works.set(0, -7);
    b.stops(1, 2, 4, -7);
    b.stops(0, 2, 4, -7);
  }

  private static void stopsThree() {
    b.about("V: STOP 3: all is as before the step");
    String[] lines = {"add [rbx], rax", "xchg [rbx], rax", "xadd [rbx], rax", "inc qword [rbx]", "neg qword [rbx]", "pop qword [rbx]",
        "mul qword [rbx]", "div qword [rbx]", "imul rax, [rbx]", "bsf rax, [rbx]", "bt [rbx], rax", "cmovz rax, [rbx]", "setz [rbx]",
        "shl qword [rbx], 1", "cmpxchg [rbx], rcx", "sub rax, [rbx]", "cmp rax, [rbx]", "test [rbx], rax", "mov [rbx], rax",
        "mov rax, [rbx]", "movzx eax, byte [rbx]", "push qword [rbx]", "call [rbx]", "jmp [rbx]", "lea rax, [rbx]", "not qword [rbx]",
        "adc [rbx], rax", "movsxd rax, dword [rbx]", "ror qword [rbx], cl", "and [rbx], rax"};
    for (String line : lines) {
      b.program("cmp al, dl", line);
      for (int k = 0; k < 16; k++) {
        b.works.set(k, 3 * k + 7);
      }
      b.works.set(2, 9);
      b.works.set(4, TOP - 64);
      b.works.set(3, 5);
      b.works.poke(TOP - 60, 77);
      b.stops(1, 1, 0, 0);
      boolean fine = line.startsWith("lea");
      b.stops(fine ? 1 : 0, 1, fine ? 0 : 3, fine ? 0 : 5);
      for (int k = 0; k < 16 && !fine; k++) {
        b.register(k, k == 2 ? 9 : k == 4 ? TOP - 64 : k == 3 ? 5 : 3 * k + 7);
      }
      b.register(17, 2 + 1 + 128);
      b.register(16, TEXT + (fine ? 5 : 2));
      b.register(19, fine ? 2 : 1);
      b.due("stack", b.works.peek(TOP - 60), 77);
      b.due("below", b.works.peek(TOP - 72), 0);
    }
    b.about("V: what may be read and not written");
    String[] writes = {"add [rbx], rax", "xchg [rbx], rax", "xadd [rbx], rax", "inc qword [rbx]", "neg qword [rbx]", "pop qword [rbx]",
        "setz [rbx]", "shl qword [rbx], 1", "cmpxchg [rbx], rcx", "mov [rbx], rax", "not qword [rbx]"};
    for (String line : writes) {
      b.program("cmp al, dl", line, "section rodata", "keep", "dq 7");
      b.works.set(0, 7);
      b.works.set(1, 3);
      b.works.set(2, 9);
      b.works.set(4, TOP - 64);
      b.works.set(3, TEXT + 0x1000);
      b.stops(1, 1, 0, 0);
      b.stops(0, 1, 3, TEXT + 0x1000);
      b.register(0, 7);
      b.register(1, 3);
      b.register(4, TOP - 64);
      b.register(17, 2 + 1 + 128);
      b.due("rodata", b.works.peek(TEXT + 0x1000), 7);
    }
    b.about("V: 49: else al, eax or rax becomes x (x is not written)");
    b.program("cmpxchg [rbx], rcx", "section rodata", "keep", "dq 7");
    b.works.set(0, 8);
    b.works.set(3, TEXT + 0x1000);
    b.stops(1, 1, 0, 0);
    b.register(0, 7);
    b.about("V: 24 to 28 by 0: nothing changes (x is read)");
    b.program("shl dword [rbx], cl", "shl dword [rbx], 32", "section rodata", "keep", "dd 7");
    b.works.set(3, TEXT + 0x1000);
    b.works.set(1, 0x20);
    b.stops(2, 2, 0, 0);
    b.register(17, 2);
    b.works.set(3, TEXT + 0x1001);
    b.works.set(16, TEXT);
    b.stops(0, 1, 3, TEXT + 0x1001);
    b.about("V: what an instruction before had in memory is of no matter");
    b.program("mov eax, [rbx]", "bswap ecx", "cdq", "not eax", "push rax", "setz al");
    b.works.set(3, LOW);
    b.stops(1, 1, 0, 0);
    b.works.set(3, 5);
    b.stops(5, 5, 0, 0);
    b.about("V: 36: y (which is read in any case)");
    b.program("cmp eax, eax", "cmovnz eax, [rbx]");
    b.works.set(3, 9);
    b.stops(1, 2, 3, 9);
  }

  private static void readFirst() {
    b.about("V: a memory operand that is read and written is read first: the value is its address, once");
    b.program("add [rbx + rcx*8 + 100], rax");
    b.works.set(3, 1L << 40);
    b.works.set(1, 3);
    b.stops(0, 1, 3, (1L << 40) + 124);
    b.about("V: an address is of registers as they are ahead of the step");
    b.program("xadd [rax], rax", "mov [rbx], rbx", "xchg [rcx], rcx");
    b.works.set(0, TOP - 8);
    b.works.set(3, TOP - 16);
    b.works.set(1, TOP - 24);
    b.stops(3, 3, 0, 0);
    b.due("xadd", b.number(TOP - 8, 8), TOP - 8);
    b.register(0, 0);
    b.due("mov", b.number(TOP - 16, 8), TOP - 16);
    b.due("xchg", b.number(TOP - 24, 8), TOP - 24);
    b.register(1, 0);
  }

  private static void stopsFive() {
    b.about("V: STOP 5: a division (value 0): all is as before the step");
    String[] lines = {"div cl", "div ecx", "div rcx", "idiv cl", "idiv ecx", "idiv rcx", "div byte [rbx]", "idiv qword [rbx]", "div edx",
        "div rdx"};
    for (String line : lines) {
      b.program("cmp eax, edx", line);
      b.works.set(0, 5);
      b.works.set(2, 6);
      b.works.set(3, TOP - 8);
      b.stops(1, 1, 0, 0);
      for (int i = 0; i < 2; i++) {
        b.stops(0, 9, 5, 0);
        b.register(0, 5);
        b.register(2, 6);
        b.register(17, 2 + 1 + 128 + 4);
        b.register(16, TEXT + 2);
        b.register(19, 1);
      }
    }
    b.about("V: STOP 2: ud2 (value 0)");
    b.program("nop", "ud2");
    b.stops(1, 9, 2, 0);
    b.stops(0, 9, 2, 0);
    b.register(16, TEXT + 1);
    b.about("V: STOP 6: int3, behind it (value 0)");
    b.program("nop", "int3", "int3", "nop");
    b.stops(2, 9, 6, 0);
    b.register(16, TEXT + 2);
    b.stops(1, 1, 6, 0);
    b.stops(1, 1, 0, 0);
    b.register(19, 4);
  }

  /** A division: rdx, rax, the divisor; the quotient and the rest, or a STOP. */
  private static void divides(String line, long high, long low, long by, boolean fits, long quotient, long rest) {
    b.works.set(16, TEXT);
    b.works.set(2, high);
    b.works.set(0, low);
    b.works.set(1, by);
    b.due(line + " " + high + ":" + low + " / " + by, b.run(1), fits ? "1" : "0");
    b.due("stop", b.works.stop(0), fits ? 0 : 5);
    boolean one = line.endsWith("cl");
    b.register(0, !fits ? low : one ? low & ~0xffffL | (rest & 0xff) << 8 | quotient & 0xff : quotient);
    b.register(2, fits && !one ? rest : high);
  }

  private static void divisionEdges() {
    b.about("V: STOP 5 if x is 0 or the quotient does not fit");
    b.program("div cl");
    divides("div cl", 0, 0xff * 0xff + 0xfe, 0xff, true, 0xff, 0xfe);
    divides("div cl", 0, 0xff00, 0xff, false, 0, 0);
    divides("div cl", 0, 255, 1, true, 255, 0);
    divides("div cl", 0, 256, 1, false, 0, 0);
    divides("div cl", 0, 0x1122334455660000L, 0, false, 0, 0);
    divides("div cl", 0, 0x1122334455660007L, 2, true, 3, 1);
    b.program("idiv cl");
    divides("idiv cl", 0, 127, 1, true, 127, 0);
    divides("idiv cl", 0, 128, 1, false, 0, 0);
    divides("idiv cl", 0, 0xff80, 1, true, -128, 0);
    divides("idiv cl", 0, 0xff7f, 1, false, 0, 0);
    divides("idiv cl", 0, 128, -1, true, -128, 0);
    divides("idiv cl", 0, 129, -1, false, 0, 0);
    divides("idiv cl", 0, 0xff80, -1, false, 0, 0);
    divides("idiv cl", 0, 0xff81, -1, true, 127, 0);
    divides("idiv cl", 0, 0x8000, 0x80, false, 0, 0);
    divides("idiv cl", 0, 0x4000, 0x80, true, -128, 0);
    divides("idiv cl", 0, 0x407f, 0x80, true, -128, 127);
    divides("idiv cl", 0, 0x4080, 0x80, false, 0, 0);
    divides("idiv cl", 0, 0xfff9, 2, true, -3, -1);
    divides("idiv cl", 0, 7, 0xfe, true, -3, 1);
    b.program("div ecx");
    divides("div ecx", 0, 0xffffffffL, 1, true, 0xffffffffL, 0);
    divides("div ecx", 1, 0, 1, false, 0, 0);
    divides("div ecx", 0xfffffffeL, 0xffffffffL, 0xffffffffL, true, 0xffffffffL, 0xfffffffeL);
    divides("div ecx", 0xffffffffL, 0, 0xffffffffL, false, 0, 0);
    divides("div ecx", 0x700000000L, 0x900000009L, 0x800000004L, true, 2, 1);
    b.program("idiv ecx");
    divides("idiv ecx", 0, 0x7fffffffL, 1, true, 0x7fffffffL, 0);
    divides("idiv ecx", 0, 0x80000000L, 1, false, 0, 0);
    divides("idiv ecx", 0xffffffffL, 0x80000000L, 1, true, 0x80000000L, 0);
    divides("idiv ecx", 0xffffffffL, 0x80000000L, -1, false, 0, 0);
    divides("idiv ecx", 0xffffffffL, 0x7fffffffL, 1, false, 0, 0);
    divides("idiv ecx", 0x40000000L, 0, 0x80000000L, true, 0x80000000L, 0);
    divides("idiv ecx", 0x40000000L, 0x7fffffffL, 0x80000000L, true, 0x80000000L, 0x7fffffffL);
    divides("idiv ecx", 0x40000000L, 0x80000000L, 0x80000000L, false, 0, 0);
    divides("idiv ecx", 0x80000000L, 0, 0x80000000L, false, 0, 0);
    divides("idiv ecx", 0xffffffffL, 0xfffffff9L, 2, true, 0xfffffffdL, 0xffffffffL);
    b.program("div rcx");
    divides("div rcx", 0, -1, 1, true, -1, 0);
    divides("div rcx", 1, 0, 1, false, 0, 0);
    divides("div rcx", -2, -1, -1, true, -1, -2);
    divides("div rcx", -1, 0, -1, false, 0, 0);
    divides("div rcx", Long.MAX_VALUE, -1, Long.MIN_VALUE, true, -1, Long.MAX_VALUE);
    b.program("idiv rcx");
    divides("idiv rcx", 0, Long.MAX_VALUE, 1, true, Long.MAX_VALUE, 0);
    divides("idiv rcx", 0, Long.MIN_VALUE, 1, false, 0, 0);
    divides("idiv rcx", 0, Long.MIN_VALUE, -1, true, Long.MIN_VALUE, 0);
    divides("idiv rcx", 0, Long.MIN_VALUE + 1, -1, false, 0, 0);
    divides("idiv rcx", -1, Long.MIN_VALUE, 1, true, Long.MIN_VALUE, 0);
    divides("idiv rcx", -1, Long.MIN_VALUE, -1, false, 0, 0);
    divides("idiv rcx", -1, Long.MAX_VALUE, 1, false, 0, 0);
    divides("idiv rcx", 1L << 62, 0, Long.MIN_VALUE, true, Long.MIN_VALUE, 0);
    divides("idiv rcx", 1L << 62, Long.MIN_VALUE, Long.MIN_VALUE, false, 0, 0);
    divides("idiv rcx", Long.MIN_VALUE, 0, Long.MIN_VALUE, false, 0, 0);
    divides("idiv rcx", Long.MIN_VALUE, 0, -1, false, 0, 0);
    divides("idiv rcx", -1, -7, 2, true, -3, -1);
    divides("idiv rcx", 0, 7, -2, true, -3, 1);
  }

  private static void runs() {
    b.about("12: IllegalArgumentException: n is not 1 .. 4000");
    b.program("jmp $");
    for (int n : new int[] {0, -1, 4001, Integer.MIN_VALUE, Integer.MAX_VALUE}) {
      b.due("run " + n, b.run(n), "argument");
      b.register(19, 0);
      b.due("stop", b.works.stop(0), 0);
    }
    b.stops(1, 1, 0, 0);
    b.stops(3999, 3999, 0, 0);
    b.stops(4000, 4000, 0, 0);
    b.register(19, 8000);
    b.about("12: a refused one leaves STOP as it was");
    b.program("int3", "ud2");
    b.stops(1, 5, 6, 0);
    b.due("refused", b.run(0), "argument");
    b.due("stop", b.works.stop(0), 6);
    b.works.set(16, 77);
    b.stops(0, 1, 4, 77);
    b.due("refused", b.run(4001), "argument");
    b.due("stop", b.works.stop(0), 4);
    b.due("its value", b.works.stop(1), 77);
    b.about("12: IllegalStateException (asked behind that): STOP is 1");
    b.program("mov eax, 60", "mov rdi, rbx", "syscall", "nop");
    b.works.set(3, Long.MIN_VALUE);
    b.stops(3, 3, 1, Long.MIN_VALUE);
    b.register(16, TEXT + 10);
    b.register(19, 3);
    b.due("run", b.run(1), "state");
    b.due("run", b.run(4000), "state");
    b.due("run", b.run(0), "argument");
    b.due("run", b.run(4001), "argument");
    b.due("stop", b.works.stop(0), 1);
    b.due("its value", b.works.stop(1), Long.MIN_VALUE);
    b.works.set(16, TEXT);
    b.due("still", b.run(1), "state");
    b.works.poke(TOP - 1, 1);
    b.works.stopAt(TEXT, true);
    b.due("still", b.run(1), "state");
    b.works.link();
    b.due("a link is no load", b.run(1), "state");
    b.works.load();
    b.stops(2, 2, 0, 0);
    b.about("13: 0 for another what");
    for (int what : new int[] {-1, 2, 3, Integer.MIN_VALUE, Integer.MAX_VALUE}) {
      b.due("what", b.works.stop(what), 0);
    }
    b.about("12: one with STOP 1 or 6 is done; behind 2 to 5 the next run() tries that one again");
    b.program("mov eax, [rbx]", "int3");
    b.stops(0, 2, 3, 0);
    b.works.set(3, LOW);
    b.stops(2, 2, 6, 0);
  }

  private static void stopPlaces() {
    b.about("12: STOP 7 ahead of each step but the first one (not behind the n-th one)");
    b.program("nop", "nop", "nop", "nop");
    b.due("on", b.works.stopAt(TEXT, true), true);
    b.due("on", b.works.stopAt(TEXT + 2, true), true);
    b.stops(1, 1, 0, 0);
    b.stops(1, 1, 0, 0);
    b.register(16, TEXT + 2);
    b.stops(1, 1, 0, 0);
    b.works.set(16, TEXT);
    b.stops(2, 2, 0, 0);
    b.works.set(16, TEXT);
    b.stops(2, 3, 7, TEXT + 2);
    b.stops(2, 2, 0, 0);
    b.about("12: ahead of what would stop otherwise");
    b.program("nop", "ud2");
    b.works.stopAt(TEXT + 1, true);
    b.stops(1, 2, 7, TEXT + 1);
    b.stops(0, 2, 2, 0);
    b.program("jmp rax");
    b.works.set(0, -1);
    b.works.stopAt(-1, true);
    b.stops(1, 2, 7, -1);
    b.stops(0, 2, 4, -1);
    b.program("jmp $");
    b.works.stopAt(TEXT, true);
    b.stops(1, 5, 7, TEXT);
    b.stops(1, 5, 7, TEXT);
    b.about("18: false if it is so, or one more is to be and there are 16 of them");
    b.fresh();
    for (int i = 0; i < 16; i++) {
      b.due("on", b.works.stopAt(i, true), true);
      b.due("on again", b.works.stopAt(i, true), false);
    }
    for (long at : new long[] {16, -1, TEXT, Long.MIN_VALUE}) {
      b.due("17th", b.works.stopAt(at, true), false);
      b.due("it is none", b.works.stopAt(at, false), false);
    }
    for (int i = 0; i < 16; i++) {
      b.due("one of them", b.works.stopAt(i, true), false);
    }
    b.due("off", b.works.stopAt(7, false), true);
    b.due("off again", b.works.stopAt(7, false), false);
    b.due("on", b.works.stopAt(99, true), true);
    b.due("17th", b.works.stopAt(7, true), false);
    for (int i = 0; i < 16; i++) {
      b.due("off " + i, b.works.stopAt(i, false), i != 7);
    }
    b.due("off", b.works.stopAt(99, false), true);
    b.about("18: which ones are left, whatever the order");
    for (int gone = 0; gone < 3; gone++) {
      b.program("nop", "nop", "nop", "nop", "int3");
      for (int i = 0; i < 3; i++) {
        b.works.stopAt(TEXT + 1 + i, true);
      }
      b.due("off", b.works.stopAt(TEXT + 1 + gone, false), true);
      for (int i = 0; i < 3; i++) {
        if (i != gone) {
          b.stops(i == 1 && gone == 0 || i == 2 && gone == 1 ? 2 : 1, 9, 7, TEXT + 1 + i);
        }
      }
      b.stops(gone == 2 ? 3 : 2, 9, 6, 0);
    }
    b.about("18: a load leaves them");
    b.program("nop", "nop");
    b.works.stopAt(TEXT + 1, true);
    b.works.load();
    b.stops(1, 2, 7, TEXT + 1);
    b.works.clear();
    b.taken(0, "global start", "start: nop", "nop", "nop");
    b.link();
    b.works.load();
    b.stops(1, 3, 7, TEXT + 1);
  }

  private static void addresses() {
    b.about("V: an address: base + index * scale + displacement");
    String[] names = {"rax", "rcx", "rdx", "rbx", "rsp", "rbp", "rsi", "rdi", "r8", "r9", "r10", "r11", "r12", "r13", "r14", "r15"};
    int[] numbers = {0, 1, 127, 128, -1, -128, -129, 0x7fffffff, -0x80000000, 0x12345678, -70000};
    int turn = 0;
    for (int base = -1; base < 16; base++) {
      for (int index = -1; index < 16; index++) {
        if (index == 4) {
          continue;
        }
        String[] lines = new String[8];
        long[] due = new long[8];
        for (int i = 0; i < 8; i++) {
          int scale = 1 << i % 4;
          long number = numbers[turn++ % numbers.length];
          // rax is what comes of it: 0 ahead of each.
          long sum = number + (base > 0 ? value(base) : 0) + (index > 0 ? scale * value(index) : 0);
          lines[i] = "lea rax, [" + (base >= 0 ? names[base] + " + " : "") + (index >= 0 ? names[index] + "*" + scale + " + " : "") + number + "]";
          due[i] = sum;
        }
        b.program(lines);
        for (int k = 1; k < 16; k++) {
          b.works.set(k, value(k));
        }
        for (int i = 0; i < 8; i++) {
          b.works.set(0, 0);
          b.stops(1, 1, 0, 0);
          b.due(lines[i], b.works.register(0), due[i]);
        }
      }
    }
    b.about("V: rax, too");
    b.program("lea rcx, [rbx + rax*4]", "lea rcx, [rax + rbx*2]", "lea rcx, [rax*8]", "lea rcx, [rax]", "lea rcx, [rax + rax]");
    b.works.set(0, 1000);
    b.works.set(3, 7);
    for (long due : new long[] {4007, 1014, 8000, 1000, 2000}) {
      b.stops(1, 1, 0, 0);
      b.register(1, due);
    }
    b.about("V: base 16 is the next instruction");
    b.program("lea rax, [rel $]", "lea rcx, [rel start + 1000]", "mov dword [rel x], 5", "section data", "x: dd 0");
    b.stops(3, 3, 0, 0);
    b.register(0, TEXT);
    b.register(1, TEXT + 1000);
    b.due("x", b.works.peek(TEXT + 0x1000), 5);
    b.about("V: it wraps; a register of 4 bytes has its lower half");
    b.program("lea rax, [rbx + rcx*8 + 5]", "lea eax, [rbx + rcx*8 + 5]");
    b.works.set(3, -1);
    b.works.set(1, 0x2000000000000001L);
    b.stops(1, 1, 0, 0);
    b.register(0, 12);
    b.works.set(3, -20);
    b.stops(1, 1, 0, 0);
    b.register(0, 0xfffffff9L);
  }

  private static long value(int k) {
    return 0x1000000000L * k + 17 * k + (k % 3 == 0 ? -1L << 50 : 0);
  }

  private static void stack() {
    b.about("V: 29: of a pushed one rsp - 8; none of it changes if that can't be");
    String[] pushes = {"push rax", "push 5", "push rsp", "push qword [rbx]", "call start", "call rax", "call [rbx]"};
    for (String line : pushes) {
      b.program(line, "resb 8");
      b.works.set(3, TEXT);
      for (long at : new long[] {LOW, LOW + 7, TOP + 1, 0, 5, LOW - 100}) {
        b.works.set(4, at);
        b.works.set(16, TEXT);
        b.stops(0, 1, 3, at - 8);
        b.register(4, at);
        b.register(16, TEXT);
      }
      for (long at : new long[] {LOW + 8, TOP, TOP - 3}) {
        b.works.set(4, at);
        b.works.set(16, TEXT);
        b.stops(1, 1, 0, 0);
        b.register(4, at - 8);
        b.due("written", b.number(at - 8, 8) == 0, line.equals("push rax"));
      }
    }
    b.about("V: 29: x is read, then rsp falls");
    b.program("push qword [rsp]", "push rsp", "push qword [rbx]");
    b.works.set(4, TOP - 8);
    b.works.poke(TOP - 8, 9);
    b.stops(2, 2, 0, 0);
    b.due("first", b.number(TOP - 16, 8), 9);
    b.due("second", b.number(TOP - 24, 8), TOP - 16);
    b.works.set(4, 3);
    b.works.set(3, 7);
    b.stops(0, 1, 3, 7);
    b.about("V: 30: what is at rsp is read, rsp grows by 8, then x is written (an address with rsp as it is then)");
    String[] pops = {"pop rax", "pop rsp", "pop qword [rbx]", "pop qword [rsp]", "ret", "ret 8", "leave"};
    for (String line : pops) {
      b.program(line);
      b.works.set(3, LOW);
      for (long at : new long[] {TOP - 7, TOP, LOW - 1, 0, -8, TOP - 1}) {
        b.works.set(4, at);
        b.works.set(5, at);
        b.works.set(16, TEXT);
        b.stops(0, 1, 3, at);
        b.register(4, at);
        b.register(5, at);
      }
      b.works.set(4, LOW);
      b.works.set(5, LOW);
      b.works.set(16, TEXT);
      b.stops(1, 1, 0, 0);
    }
    b.program("pop qword [rsp - 8]", "pop qword [rsp]", "pop rsp");
    b.works.set(4, TOP - 24);
    b.works.poke(TOP - 24, 5);
    b.works.poke(TOP - 16, 6);
    b.stops(2, 2, 0, 0);
    b.register(4, TOP - 8);
    b.due("to where it was", b.number(TOP - 24, 8), 5);
    b.due("to what is next", b.number(TOP - 8, 8), 6);
    b.stops(1, 1, 0, 0);
    b.register(4, 6);
    b.program("pop qword [rsp]");
    b.works.set(4, TOP - 8);
    b.stops(0, 1, 3, TOP);
    b.register(4, TOP - 8);
  }

  private static void returns() {
    b.about("V: 33: IP is popped, then rsp grows by y");
    b.program("ret 65535");
    b.works.set(4, LOW);
    for (int i = 0; i < 8; i++) {
      b.works.poke(LOW + i, 0x81 + i);
    }
    b.stops(1, 1, 0, 0);
    b.register(16, 0x8887868584838281L);
    b.register(4, LOW + 8 + 65535);
    b.program("ret", "ret 0");
    b.works.set(4, TOP - 8);
    b.stops(1, 1, 0, 0);
    b.register(4, TOP);
    b.register(16, 0);
    b.about("V: 33: without a number by 8 alone, whatever was ahead");
    b.program("call x", "int3", "resb 20", "x: ret");
    b.stops(3, 9, 6, 0);
    b.register(4, TOP);
    b.program("jmp x", "resb 20", "x: ret");
    b.works.set(4, TOP - 8);
    b.stops(2, 2, 0, 0);
    b.register(4, TOP);
    b.about("V: 32: the next address is pushed, jump to x (read first)");
    b.program("call qword [rsp - 8]");
    b.works.poke(TOP - 8, 0x77);
    b.stops(1, 1, 0, 0);
    b.register(16, 0x77);
    b.due("pushed", b.number(TOP - 8, 8), TEXT + 4);
    b.program("call rsp");
    b.stops(1, 1, 0, 0);
    b.register(16, TOP);
    b.about("V: 43: rsp becomes rbp, rbp is popped");
    b.program("leave");
    b.works.set(5, TOP - 8);
    b.works.set(4, 1);
    for (int i = 0; i < 8; i++) {
      b.works.poke(TOP - 8 + i, 0x81 + i);
    }
    b.stops(1, 1, 0, 0);
    b.register(4, TOP);
    b.register(5, 0x8887868584838281L);
  }

  private static void strings() {
    b.about("V: 52, 53: if rcx is 0, nothing");
    for (String line : new String[] {"rep movsb", "rep movsd", "rep movsq", "rep stosb", "rep stosd", "rep stosq"}) {
      b.program(line, "int3");
      b.works.set(6, 1);
      b.works.set(7, 2);
      b.stops(2, 9, 6, 0);
      b.register(6, 1);
      b.register(7, 2);
      b.register(1, 0);
    }
    b.about("V: else once, rcx falls by 1, and if it is not 0 then, IP stays");
    for (String line : new String[] {"rep movsb", "rep movsd", "rep movsq", "rep stosb", "rep stosd", "rep stosq"}) {
      b.program(line, "int3");
      int size = line.endsWith("b") ? 1 : line.endsWith("d") ? 4 : 8;
      long[] counts = {1, 2, 3, -1, Long.MIN_VALUE, 1L << 32};
      for (long count : counts) {
        b.works.set(16, TEXT);
        b.works.set(6, LOW);
        b.works.set(7, LOW + 100);
        b.works.set(1, count);
        b.stops(1, 1, 0, 0);
        b.register(16, TEXT + (count == 1 ? b.works.size(0, 0) - 1 : 0));
        b.register(1, count - 1);
        b.register(7, LOW + 100 + size);
        b.register(6, LOW + (line.contains("movs") ? size : 0));
      }
    }
    b.about("V: 50: those at rsi (read first)");
    for (String line : new String[] {"movsb", "movsd", "movsq"}) {
      int size = line.endsWith("b") ? 1 : line.endsWith("d") ? 4 : 8;
      b.program(line);
      b.works.set(6, TOP - size + 1);
      b.works.set(7, 5);
      b.stops(0, 1, 3, TOP - size + 1);
      b.works.set(6, TOP - size);
      b.stops(0, 1, 3, 5);
      b.register(6, TOP - size);
      b.register(7, 5);
      b.works.set(7, TOP - size + 1);
      b.stops(0, 1, 3, TOP - size + 1);
      b.works.set(7, TOP - size);
      b.stops(1, 1, 0, 0);
      b.register(6, TOP);
      b.register(7, TOP);
    }
    b.about("V: 51: those of rax, rdi grows");
    for (String line : new String[] {"stosb", "stosd", "stosq"}) {
      int size = line.endsWith("b") ? 1 : line.endsWith("d") ? 4 : 8;
      b.program(line);
      b.works.set(0, 0x8877665544332211L);
      b.works.set(7, TOP - size + 1);
      b.stops(0, 1, 3, TOP - size + 1);
      b.works.set(7, LOW);
      b.stops(1, 1, 0, 0);
      b.register(7, LOW + size);
      b.due("written", b.number(LOW, 8), size == 8 ? 0x8877665544332211L : size == 4 ? 0x44332211L : 0x11);
    }
    b.about("V: over themselves, byte by byte");
    b.program("rep movsb", "int3");
    b.works.poke(LOW, 7);
    b.works.set(6, LOW);
    b.works.set(7, LOW + 1);
    b.works.set(1, 100);
    b.stops(101, 4000, 6, 0);
    b.due("filled", b.works.peek(LOW + 100), 7);
    b.due("no more", b.works.peek(LOW + 101), 0);
    b.about("V: each is a step");
    b.register(19, 101);
    b.program("rep stosb", "int3");
    b.works.set(7, TOP - 3);
    b.works.set(1, 5);
    b.stops(3, 4000, 3, TOP);
    b.register(1, 2);
    b.register(16, TEXT);
  }

  /** What is written has its bytes and no more. */
  private static void wholeBytes() {
    b.about("17: the byte at an address becomes v's lowest");
    b.program("nop");
    for (int v : new int[] {0, 1, 127, 128, 255, 256, -1, 0x1234, Integer.MIN_VALUE, Integer.MAX_VALUE}) {
      b.works.poke(LOW + 4, 0x55);
      b.works.poke(LOW + 2, 0x66);
      b.due("poke", b.works.poke(LOW + 3, v), true);
      b.due("peek", b.works.peek(LOW + 3), v & 255);
      b.due("ahead", b.works.peek(LOW + 2), 0x66);
      b.due("behind", b.works.peek(LOW + 4), 0x55);
    }
    b.about("17: false if it may not be written, changing nothing");
    b.program("nop", "section rodata", "keep", "db 5");
    b.due("text", b.works.poke(TEXT, 1), false);
    b.due("it stays", b.works.peek(TEXT), 0x90);
    b.due("rodata", b.works.poke(TEXT + 0x1000, 1), false);
    b.due("it stays", b.works.peek(TEXT + 0x1000), 5);
    b.about("V: registers of 4 bytes have their upper half 0, of 1 byte: the others stay");
    b.program("mov al, 5", "mov eax, 5", "mov sil, [rbx]", "mov esi, [rbx]", "pop rdi", "mov r15b, bl", "setz r14b");
    b.works.set(0, -1);
    b.works.set(6, -1);
    b.works.set(15, -1);
    b.works.set(14, -1);
    b.works.set(3, TEXT);
    b.works.set(4, TOP - 8);
    b.stops(1, 1, 0, 0);
    b.register(0, -251);
    b.stops(1, 1, 0, 0);
    b.register(0, 5);
    b.stops(1, 1, 0, 0);
    b.register(6, -1 & ~0xffL | 0xb0);
    b.stops(1, 1, 0, 0);
    b.register(6, 0x05b805b0);
    b.stops(3, 3, 0, 0);
    b.register(15, -256);
    b.register(14, -256);
    b.about("V: memory of 1, 4 bytes: no others");
    b.program("mov [rbx], al", "mov [rbx + 8], eax", "mov [rbx + 16], rax");
    for (int i = 0; i < 32; i++) {
      b.works.poke(LOW + i, 0x33);
    }
    b.works.set(0, 0x8877665544332211L);
    b.works.set(3, LOW);
    b.stops(3, 3, 0, 0);
    b.due("1 byte", b.number(LOW, 8), 0x3333333333333311L);
    b.due("4 bytes", b.number(LOW + 8, 8), 0x3333333344332211L);
    b.due("8 bytes", b.number(LOW + 16, 8), 0x8877665544332211L);
    b.due("no more", b.works.peek(LOW + 24), 0x33);
  }

  /** A program that does one service again and again, with what bytes behind it. */
  private static void service(int number, String... lines) {
    String[] all = new String[lines.length + 3];
    all[0] = "again: mov eax, " + number;
    all[1] = "syscall";
    all[2] = "jmp again";
    System.arraycopy(lines, 0, all, 3, lines.length);
    b.program(all);
  }

  private static void serve(long rdi, long rsi, long rdx, long want) {
    b.works.set(16, TEXT);
    b.works.set(7, rdi);
    b.works.set(6, rsi);
    b.works.set(2, rdx);
    b.stops(2, 2, 0, 0);
    b.register(0, want);
    b.register(1, TEXT + 7);
    b.register(11, 2);
    b.register(7, rdi);
    b.register(6, rsi);
    b.register(2, rdx);
  }

  private static void input() {
    b.about("V: 0: the first bytes of INPUT, at most rdx (without a sign), go to rsi and on and are taken off it");
    service(0, "section data", "keep", "resb 8");
    serve(0, LOW, 5, 0);
    serve(0, 5, 5, 0);
    b.feed("abcdefgh");
    b.due("input", b.works.input(8), 8);
    b.works.poke(LOW + 1, 0x55);
    serve(77, LOW, 1, 1);
    b.due("a", b.works.peek(LOW), 'a');
    b.due("no more", b.works.peek(LOW + 1), 0x55);
    b.due("input", b.works.input(0), 7);
    b.about("V: of no bytes rax is 0");
    serve(0, 5, 0, 0);
    serve(0, TEXT, 0, 0);
    b.about("V: -14 if one of these bytes may not be written, read (rax alone changes then, besides rcx and r11)");
    serve(0, TEXT, 1, -14);
    serve(0, 5, 1, -14);
    serve(0, TOP - 6, 7, -14);
    serve(0, LOW - 1, 1, -14);
    serve(0, TOP, 1, -14);
    serve(0, TEXT + 0x1001 + 1, -1, -14);
    b.due("nothing is written", b.works.peek(TEXT + 0x1002), 0);
    b.due("none is taken", b.works.input(0), 7);
    serve(0, TOP - 6, 6, 6);
    b.due("b", b.works.peek(TOP - 6), 'b');
    b.due("g", b.works.peek(TOP - 1), 'g');
    b.feed("xyz");
    b.due("behind what is there", b.works.input(3), 4);
    serve(0, TEXT + 0x1004, -1, 4);
    b.due("h", b.works.peek(TEXT + 0x1004), 'h');
    b.due("z", b.works.peek(TEXT + 0x1007), 'z');
    serve(0, 5, -1, 0);
    b.about("V: at most rdx: of as many, more and less than there are");
    for (long most : new long[] {1, 2, 3, 4, 5, Long.MAX_VALUE, Long.MIN_VALUE, -1, 1L << 32}) {
      b.works.load();
      b.feed("pqr");
      b.works.input(3);
      long got = most > 0 && most < 3 ? most : 3;
      serve(0, LOW, most, got);
      b.due("left", b.works.input(0), 3 - got);
    }
    b.about("11: appended to INPUT, as many as fit in 65536 (till it is loaded, whether anything was or not)");
    b.fresh();
    b.feed("abc");
    b.due("input", b.works.input(2), 2);
    b.feed("def");
    b.due("input", b.works.input(-1), 2);
    b.taken(0, "global start", "start: nop");
    b.link();
    b.due("still there", b.works.input(0), 2);
    b.works.load();
    b.due("gone", b.works.input(0), 0);
    b.fresh();
    for (int turn = 0; turn < 7; turn++) {
      for (int i = 0; i < 500; i++) {
        b.works.feed(0x01020304, 0, 0, 0, 0x05060708);
      }
      b.due("input", b.works.input(10000), Math.min(65536, 10000 * (turn + 1)));
      b.due("tape", b.works.feed(0, 0, 0, 0, 0), 20);
      b.works.unit(0, true);
    }
  }

  private static void output() {
    b.about("V: 1: rdx bytes at rsi and on are appended to OUTPUT; rax is how many");
    service(1, "section data", "keep", "db \"abcdefgh\"");
    serve(0, TEXT + 0x1000, 1, 1);
    serve(9, TEXT + 0x1007, 1, 1);
    b.due("a", b.works.output(0), 'a');
    b.due("h", b.works.output(1), 'h');
    b.due("no more", b.works.output(2), -1);
    b.due("how many", b.works.output(-1), 2);
    b.about("V: of no bytes rax is 0");
    serve(0, 5, 0, 0);
    b.about("V: -14 if one of these bytes may not be read");
    serve(0, TEXT + 0x1001, 8, -14);
    serve(0, TEXT + 0xfff, 1, -14);
    serve(0, TOP, 1, -14);
    serve(0, 5, 65534, -14);
    serve(0, TOP - 100, 101, -14);
    b.due("how many", b.works.output(-1), 2);
    b.about("V: ahead of that, -28 if OUTPUT would have more than 65536 bytes");
    serve(0, 5, 65535, -28);
    serve(0, LOW, 65535, -28);
    serve(0, LOW, -1, -28);
    serve(0, LOW, Long.MIN_VALUE, -28);
    serve(0, LOW, Long.MAX_VALUE, -28);
    serve(0, LOW, 1L << 32, -28);
    b.due("how many", b.works.output(-1), 2);
    serve(0, LOW, 65534, 65534);
    b.due("how many", b.works.output(-1), 65536);
    serve(0, LOW, 1, -28);
    serve(0, 5, 1, -28);
    serve(0, 5, 0, 0);
    b.due("the last byte", b.works.output(65535), 0);
    b.due("behind it", b.works.output(65536), -1);
    b.due("the first", b.works.output(0), 'a');
    b.about("19: byte i of OUTPUT, for i = -1 how many it has; NONE if there is none");
    for (int i : new int[] {-2, Integer.MIN_VALUE, Integer.MAX_VALUE}) {
      b.due("output " + i, b.works.output(i), -1);
    }
    service(1);
    serve(0, LOW, 65536, 65536);
    serve(0, LOW, 1, -28);
    service(1);
    serve(0, LOW, 65537, -28);
    b.due("none", b.works.output(-1), 0);
    b.due("none", b.works.output(0), -1);
    b.about("19: a byte without a sign");
    service(1, "section data", "keep", "db 255, 128, 127");
    serve(0, TEXT + 0x1000, 3, 3);
    b.due("255", b.works.output(0), 255);
    b.due("128", b.works.output(1), 128);
    b.due("127", b.works.output(2), 127);
  }

  private static void breaks() {
    b.about("V: 12: if rdi is from the HEAP's beginning to 65536 more, the BREAK becomes that; rax is the BREAK");
    service(12);
    long heap = TEXT + 0x1000;
    serve(0, 0, 0, heap);
    serve(heap + 65537, 0, 0, heap);
    serve(heap - 1, 0, 0, heap);
    serve(-1, 0, 0, heap);
    serve(Long.MIN_VALUE, 0, 0, heap);
    serve(heap + 65536, 0, 0, heap + 65536);
    b.register(18, heap + 65536);
    part(heap, heap + 65536, true, true);
    serve(heap + 65537, 0, 0, heap + 65536);
    serve(heap - 1, 0, 0, heap + 65536);
    serve(heap + 1, 0, 0, heap + 1);
    part(heap, heap + 1, true, true);
    serve(heap, 0, 0, heap);
    b.register(18, heap);
    b.due("none of it", b.works.peek(heap), -1);
    b.due("none of it", b.works.poke(heap, 1), false);
    b.about("V: bytes behind it are 0 when it comes back");
    serve(heap + 65536, 0, 0, heap + 65536);
    for (long at : new long[] {heap, heap + 9, heap + 10, heap + 11, heap + 65535}) {
      b.works.poke(at, 7);
    }
    serve(heap + 10, 0, 0, heap + 10);
    serve(heap + 65536, 0, 0, heap + 65536);
    b.due("kept", b.works.peek(heap), 7);
    b.due("kept", b.works.peek(heap + 9), 7);
    b.due("0", b.works.peek(heap + 10), 0);
    b.due("0", b.works.peek(heap + 11), 0);
    b.due("0", b.works.peek(heap + 65535), 0);
    serve(heap, 0, 0, heap);
    serve(heap + 1, 0, 0, heap + 1);
    b.due("0", b.works.peek(heap), 0);
    b.about("V: the HEAP begins at the multiple of 4096 behind all sections");
    int[] sizes = {1, 4095, 4096, 4097};
    for (int size : sizes) {
      service(12, "section bss", "keep", "resb " + size);
      long begin = TEXT + 0x1000 + (size + 4095) / 4096 * 4096;
      b.register(18, begin);
      serve(0, 0, 0, begin);
      serve(begin - 1, 0, 0, begin);
      serve(begin + 65536, 0, 0, begin + 65536);
      b.due("the last byte", b.works.poke(begin + 65535, 3), true);
      b.due("behind", b.works.poke(begin + 65536, 3), false);
    }
    b.about("V: behind the largest image");
    service(12, "resb 65527", "section data", "keep", "resb 65536");
    b.register(18, TEXT + 131072);
    serve(TEXT + 131072 + 65536, 0, 0, TEXT + 131072 + 65536);
    b.due("the first byte of the heap", b.works.poke(TEXT + 131072, 3), true);
    b.due("the last one", b.works.poke(TEXT + 131072 + 65535, 3), true);
    b.due("behind", b.works.peek(TEXT + 131072 + 65536), -1);
    b.due("the last byte of the text", b.works.peek(TEXT + 65535), 0);
    b.due("is not written", b.works.poke(TEXT + 65535, 3), false);
  }

  private static void services() {
    b.about("V: 42: rcx becomes the next address, r11 the flags; then by rax");
    for (long other : new long[] {2, 3, 11, 13, 59, 61, -1, 1L << 32, (1L << 32) + 60, Long.MIN_VALUE}) {
      b.program("syscall");
      b.works.set(0, other);
      b.stops(1, 1, 0, 0);
      b.register(0, -38);
      b.register(1, TEXT + 2);
      b.register(11, 2);
    }
    b.about("V: 2 + C + 4 P + 64 Z + 128 S + 2048 O");
    long[][] pairs = {{1, 1, 2 + 64 + 4}, {0, 1, 2 + 1 + 4 + 128}, {0x80, 1, 2 + 2048}, {0x7f, 0xff, 2 + 1 + 128 + 2048}, {3, 1, 2}};
    for (long[] pair : pairs) {
      b.program("cmp al, bl", "mov eax, 99", "syscall");
      b.works.set(0, pair[0]);
      b.works.set(3, pair[1]);
      b.stops(3, 3, 0, 0);
      b.register(11, pair[2]);
      b.register(17, pair[2]);
    }
    b.about("V: 60: STOP 1, with the value rdi");
    for (long value : new long[] {0, 7, -1, Long.MIN_VALUE, Long.MAX_VALUE}) {
      b.program("syscall", "nop");
      b.works.set(0, 60);
      b.works.set(7, value);
      b.stops(1, 9, 1, value);
      b.register(0, 60);
      b.register(1, TEXT + 2);
      b.register(16, TEXT + 2);
      b.register(19, 1);
    }
  }

  private static void asked() {
    b.about("14: 0 for another k");
    b.program("nop", "nop");
    b.stops(2, 2, 0, 0);
    for (int k : new int[] {-1, 20, 21, 100, Integer.MIN_VALUE, Integer.MAX_VALUE}) {
      b.register(k, 0);
    }
    b.register(19, 2);
    b.about("15: register k (0 .. 15), or IP (16): true; else false");
    for (int k : new int[] {-1, 17, 18, 19, 20, Integer.MIN_VALUE, Integer.MAX_VALUE}) {
      b.due("set " + k, b.works.set(k, 77), false);
    }
    b.register(17, 2);
    b.register(18, TEXT + 0x1000);
    b.register(19, 2);
    for (int k = 0; k <= 16; k++) {
      b.due("set " + k, b.works.set(k, Long.MIN_VALUE + k), true);
    }
    for (int k = 0; k <= 16; k++) {
      b.register(k, Long.MIN_VALUE + k);
    }
    b.about("16: NONE if it may not be read");
    b.due("text", b.works.peek(TEXT), 0x90);
    b.due("behind", b.works.peek(TEXT + 2), -1);
    b.about("V: CONDITIONS of bits: 44, 45, 47");
    b.program("bsf rax, rbx", "bsr rcx, rbx", "bt rbx, rdx", "bt ebx, edx", "bt ebx, 63", "bt rbx, 63", "bt ebx, 31", "bt ebx, 32");
    for (int bit = 0; bit < 64; bit++) {
      b.works.set(16, TEXT);
      b.works.set(3, 1L << bit);
      b.works.set(2, 64 + bit);
      b.stops(2, 2, 0, 0);
      b.register(0, bit);
      b.register(1, bit);
      b.due("carry", b.works.run(1), 1);
      b.register(17, 3);
      b.stops(1, 1, 0, 0);
      b.register(17, bit < 32 ? 3 : 2);
      boolean[] carries = {bit == 31, bit == 63, bit == 31, bit == 0};
      for (boolean carry : carries) {
        b.works.run(1);
        b.register(17, carry ? 3 : 2);
      }
    }
  }
}
