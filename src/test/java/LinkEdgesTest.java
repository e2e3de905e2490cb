/** Promises 8, 9 and 20, LINKING: the edges of what is taken and needed, of places, of values that waited, of faults. */
public final class LinkEdgesTest {
  private static final Bench b = new Bench();
  private static final long TEXT = Bench.TEXT;
  private static final String[] SECTIONS = {"text", "rodata", "data", "bss"};

  public static void main(String[] args) {
    startsAt();
    standsFor();
    weakZero();
    libraries();
    libraryChains();
    neededSections();
    neededChains();
    sixteens();
    pages();
    emptySections();
    allUnits();
    wholeImage();
    fourBytes();
    distances();
    eightBytes();
    widths();
    faultOrder();
    doubles();
    missing();
    relinked();
    b.end();
  }

  private static void startsAt() {
    b.about("IV: 1 start is no global label of a unit taken");
    String[][] none = {{""}, {"start: nop"}, {"weak start", "start: nop"}, {"global start", "weak start", "start: nop"},
        {"global start"}, {"start equ 5"}, {"global Start, starts", "Start: starts: nop"}, {"global a.start", "a: .start: nop"},
        {"dq start", "keep"}};
    for (String[] lines : none) {
      b.fresh();
      b.taken(0, lines);
      b.linkFails(1, 0, -1);
    }
    b.fresh();
    b.due("library", b.unit(true, "global start", "start: nop"), 0);
    b.linkFails(1, 0, -1);
    b.taken(1, "nop");
    b.linkFails(1, 0, -1);
    b.taken(2, "global start");
    b.links(1);
    for (int s = 0; s < 4; s++) {
      b.fresh();
      b.taken(0, "section " + SECTIONS[s], "resb 3", "global start", "start: resb 1");
      b.links(4);
      b.due("start", b.works.load(), TEXT + 3);
      b.due("read", b.works.peek(TEXT + 3), 0);
      b.due("write", b.works.poke(TEXT + 3, 1), s >= 2);
      b.stops(0, 1, 4, TEXT + 3);
      b.register(18, TEXT + 0x1000);
    }
  }

  /** Where x of the first unit is, with what it and others say of x. */
  private static void standsFor() {
    b.about("IV: a label that is not weak stands for itself");
    String[] heads = {"", "global x"};
    for (String head : heads) {
      b.fresh();
      b.taken(0, head, "global start", "start: mov rax, x", "x: nop");
      b.taken(1, "keep", "weak x", "x: nop");
      b.due("library", b.unit(true, "global x", "x: nop"), 2);
      b.links(0x11);
      runOne(TEXT + 10);
    }
    b.about("IV: every other one for the first global label, else the first weak one");
    String[] first = {"weak x\nx: nop", "weak x\nglobal x\nx: nop", "weak x", "global x", "nop", "weak x\nglobal x"};
    for (String one : first) {
      b.fresh();
      b.taken(0, "weak x", "nop", "x: nop", "keep");
      b.taken(1, "global start", "start: mov rax, x", one);
      b.taken(2, "weak x", "x: nop", "keep");
      boolean label = one.contains(":");
      int length = 10 + (label || one.equals("nop") ? 1 : 0);
      b.links(0x10 + length + (length < 16 ? 16 - length : 0) + 1);
      runOne(TEXT + 1);
      b.taken(3, "nop", "nop", "global x", "x: nop", "keep");
      b.links(0x33);
      runOne(TEXT + 0x32);
    }
    b.about("IV: by both: weak");
    b.fresh();
    b.taken(0, "global start", "start: mov rax, x");
    b.taken(1, "global x", "weak x", "x: nop", "keep");
    b.taken(2, "global x", "x: nop", "keep");
    b.links(0x21);
    runOne(TEXT + 0x20);
    b.about("IV: a label that is neither is no label for others");
    b.fresh();
    b.taken(0, "global start", "start: mov rax, x");
    b.taken(1, "x: nop", "keep");
    b.linkFails(3, 2, 0);
    b.taken(2, "keep", "weak x", "x: nop");
    b.links(0x21);
    runOne(TEXT + 0x20);
  }

  /** The first step leaves a value in rax. */
  private static void runOne(long want) {
    b.works.load();
    b.stops(1, 1, 0, 0);
    b.register(0, want);
  }

  private static void weakZero() {
    b.about("IV: else, if its own unit names it by weak, for the address 0");
    b.fresh();
    b.taken(0, "global start", "weak x", "start: mov rax, x + 7", "lea rax, [rel x]", "mov eax, x - 1", "lea rax, [x + 5]", "call x");
    b.links(10 + 7 + 5 + 8 + 5);
    runOne(7);
    b.stops(1, 1, 0, 0);
    b.register(0, 0);
    b.stops(1, 1, 0, 0);
    b.register(0, 0xffffffffL);
    b.stops(1, 1, 0, 0);
    b.register(0, 5);
    b.stops(1, 2, 4, 0);
    b.about("IV: its own unit: for others it is missing");
    b.taken(1, "keep", "dq 0", "dq x");
    b.linkFails(3, 3, 1);
    b.works.clear();
    b.taken(0, "global start", "start: nop", "dq x");
    b.taken(1, "weak x", "keep", "dq x");
    b.linkFails(3, 3, 0);
    b.about("IV: a symbol that stands for 0 makes nothing needed, and is no symbol()");
    b.works.clear();
    b.taken(0, "global start", "weak x, y", "start: dq x, y");
    b.links(16);
    b.due("x", b.symbol("x"), -1);
  }

  private static void libraries() {
    b.about("IV: the first library unit with a global or weak label that a unit that is taken misses");
    String[] uses = {"dq x", "global x", "jmp x", "section data\ndq x\nsection text", "mov rax, [rbx + x]"};
    for (String use : uses) {
      b.fresh();
      b.due("library", b.unit(true, "weak x", "x: nop", "keep"), 0);
      b.due("library", b.unit(true, "global x", "x: ud2", "keep"), 1);
      b.taken(2, "global start", "start: nop", use);
      b.due("links", b.link(), true);
      b.due("x", b.symbol("x"), TEXT);
      b.works.load();
      b.due("of the first", b.works.peek(TEXT), 0x90);
      b.due("the second is not taken", b.works.where(TEXT + 0x10) / 65536, 2);
    }
    b.about("IV: not as weak, not what it has or defines itself");
    String[] none = {"weak x\ndq x", "x: dq x", "x equ 5\ndq x", "nop", "weak x\nglobal x\ndq x", "weak x\nx: dq x",
        "global x\nx: dq x", "y: .x: dq y.x", "dq X"};
    for (String use : none) {
      b.fresh();
      b.due("library", b.unit(true, "global x, X", "keep", "x: nop"), 0);
      b.due("library", b.unit(true, "weak X", "X: resb 1"), 1);
      b.taken(2, "global start", "start: nop", use);
      b.due("links", b.link(), true);
      b.due("start", b.symbol("start"), TEXT + (use.equals("dq X") ? 16 : 0));
    }
    b.about("IV: and nobody that is taken has");
    b.fresh();
    b.due("library", b.unit(true, "global x, y", "x: keep", "y: nop"), 0);
    b.taken(1, "global start", "start: dq x");
    b.taken(2, "weak x", "x: nop");
    b.links(0x11);
    b.due("start", b.symbol("start"), TEXT);
    b.about("IV: a label of others that is not for all is not what they have");
    b.taken(3, "y: dq y");
    b.links(0x11);
    b.taken(4, "dq y");
    b.taken(5, "y: dq y");
    b.links(0x18);
    b.due("start", b.symbol("start"), TEXT + 16);
    b.about("IV: one misses it that another one names by weak, whatever the order");
    for (int turn = 0; turn < 2; turn++) {
      b.fresh();
      b.due("library", b.unit(true, "global x", "x: keep", "nop"), 0);
      b.taken(1, "global start", "start: nop", turn == 0 ? "weak x" : "dq x");
      b.taken(2, turn == 0 ? "dq x" : "weak x");
      b.due("links", b.link(), true);
      b.due("start", b.symbol("start"), TEXT + 16);
    }
    b.about("IV: what a library that is not taken misses takes none");
    b.fresh();
    b.due("library", b.unit(true, "global z", "z: dq x"), 0);
    b.due("library", b.unit(true, "global x", "x: keep", "nop"), 1);
    b.taken(2, "global start", "start: nop");
    b.links(1);
    b.due("start", b.symbol("start"), TEXT);
  }

  private static void libraryChains() {
    b.about("IV: then again and again, till there is none");
    for (int turn = 0; turn < 2; turn++) {
      b.fresh();
      for (int i = 0; i < 31; i++) {
        int me = turn == 0 ? i : 30 - i;
        b.due("library", b.unit(true, "global x" + me, "x" + me + ": dq x" + (me + 1)), i);
      }
      b.taken(31, "global start, x31", "start: mov rax, x0", "x31: nop");
      b.links(0x10 * 31 + 11);
      b.works.load();
      long at = TEXT;
      for (int i = 0; i < 31; i++) {
        long next = i == 30 ? TEXT + 0x10 * 31 + 10 : turn == 0 ? TEXT + 0x10 * (i + 1) : TEXT + 0x10 * (29 - i);
        int me = turn == 0 ? i : 30 - i;
        b.due("wait of " + i, b.number(TEXT + 0x10 * me, 8), next);
      }
    }
    b.about("IV: a name that all 32 units have, and the first alone misses");
    b.fresh();
    b.taken(0, "global start", "start: dq x");
    for (int i = 1; i < 31; i++) {
      b.taken(i, i % 2 == 0 ? "x: nop" : "weak x");
    }
    b.due("library", b.unit(true, "global x", "x: nop"), 31);
    b.links(0x11);
    b.due("x", b.symbol("x"), TEXT + 0x10);
    b.about("IV: the first one each time: what is taken first may have what the next one would be taken for");
    b.fresh();
    b.due("library", b.unit(true, "global b, c", "b: nop", "c: nop"), 0);
    b.due("library", b.unit(true, "global c", "c: keep", "ud2"), 1);
    b.taken(2, "global start", "start: dq c, b");
    b.links(0x20);
    b.due("c", b.symbol("c"), TEXT + 1);
    b.works.clear();
    b.due("library", b.unit(true, "global c", "c: nop"), 0);
    b.due("library", b.unit(true, "global b, c", "b: nop", "c: nop"), 1);
    b.taken(2, "global start", "start: dq c, b");
    b.linkFails(2, 3, 1);
  }

  private static void neededSections() {
    b.about("IV: needed are the sections that say keep, that with start, and those of whose places some needed section waits for");
    String[] waits = {"dq x", "dd x", "mov rax, x", "mov eax, [x]", "lea rax, [rel x]", "call x", "jmp x", "push x + 1", "dq x - 5"};
    for (int s = 0; s < 4; s++) {
      for (String wait : waits) {
        b.fresh();
        b.taken(0, "global start", "start: " + wait, "section " + SECTIONS[s], s == 0 ? "x: resb 8" : "resb 1\nx: resb 8");
        b.taken(1, "section " + SECTIONS[s], "resb 77");
        b.due("links", b.link(), true);
        b.works.load();
        int size = b.works.size(0, 0);
        long x = s == 0 ? TEXT + size - 8 : TEXT + 0x1000 + 1;
        b.due("readable", b.works.peek(x), 0);
        b.due("its end", b.works.peek(x + 8), -1);
      }
    }
    b.about("IV: SPANs wait for none, short jumps neither");
    b.fresh();
    b.taken(0, "global start", "start: dq x - y", "mov eax, y - x", "section data", "x: nop", "y: jmp x");
    b.links(13);
    b.about("IV: the others are left out, and all that is in them");
    b.fresh();
    b.taken(0, "section data", "nop", "section text", "nop", "x: jmp $", "section rodata", "db 1");
    b.taken(1, "global start", "start: nop");
    b.links(1);
    b.due("where", b.works.where(TEXT), 65536 + 2);
    b.about("IV: keep: this unit's present section");
    for (int s = 0; s < 4; s++) {
      b.fresh();
      b.taken(0, "global start", "start: nop");
      b.taken(1, "resb 3", "section rodata", "resb 3", "section data", "resb 3", "section bss", "resb 3", "section " + SECTIONS[s],
          "keep", "keep", "section text");
      b.links(s == 0 ? 0x13 : 0x1003);
    }
    b.fresh();
    b.taken(0, "global start", "start: nop", "section data", "resb 3");
    b.due("a library that is not taken", b.unit(true, "keep", "nop", "section data", "keep", "resb 3"), 1);
    b.links(1);
  }

  private static void neededChains() {
    b.about("IV: those of whose places some needed section waits for, whatever the order");
    for (int turn = 0; turn < 2; turn++) {
      b.fresh();
      for (int i = 0; i < 31; i++) {
        int me = turn == 0 ? i : 30 - i;
        b.taken(i, "global x" + me, "x" + me + ": dq x" + (me + 1), "section data", "resb 9");
      }
      b.taken(31, "global start, x31", "start: mov rax, x0", "section data", "x31: nop");
      b.links(0x1001);
      b.works.load();
      b.due("first", b.number(TEXT, 8), turn == 0 ? TEXT + 0x10 : TEXT + 0x1000);
      b.due("last", b.number(TEXT + 0x10 * 30, 8), turn == 0 ? TEXT + 0x1000 : TEXT + 0x10 * 29);
    }
    b.about("IV: sections of one unit that wait for each other");
    b.fresh();
    b.taken(0, "section data", "a: dq c", "section rodata", "c: dq d", "section bss", "d: resb 1", "section text", "global start",
        "start: dq a");
    b.links(0x2011);
    b.fresh();
    b.taken(0, "section data", "a: dq c", "section rodata", "c: dq a", "section text", "global start", "start: nop");
    b.links(1);
  }

  private static void sixteens() {
    b.about("IV: each at the next multiple of 16 behind the one before (a multiple at which something ends is the next one)");
    int[] sizes = {0, 1, 15, 16, 17, 31, 32, 33};
    for (int s = 0; s < 4; s++) {
      for (int size : sizes) {
        b.fresh();
        b.taken(0, "section " + SECTIONS[s], "global start, a", "a: resb " + size, "start: resb 1");
        b.taken(1, "section " + SECTIONS[s], "keep", "global c", "c: resb 1");
        int second = (size + 1 + 15) / 16 * 16;
        b.links(second + 1);
        b.due("a", b.symbol("a"), TEXT);
        b.due("c", b.symbol("c"), TEXT + second);
      }
    }
    b.about("IV: then (at a multiple of 16) bss");
    for (int size : sizes) {
      b.fresh();
      b.taken(0, "global start", "start: nop", "section data", "keep", "resb " + size, "section bss", "keep", "global c", "c: resb 1");
      int at = 0x1000 + (size + 15) / 16 * 16;
      b.links(at + 1);
      b.due("c", b.symbol("c"), TEXT + at);
    }
  }

  private static void pages() {
    b.about("IV: at the next multiple of 4096 behind them");
    int[] sizes = {1, 4095, 4096, 4097, 8191, 8192, 8193};
    for (int size : sizes) {
      int page = (size + 4095) / 4096 * 4096;
      for (int s = 1; s < 4; s++) {
        b.fresh();
        b.taken(0, "global start, c", "start: resb " + size, "section " + SECTIONS[s], "keep", "c: resb 1");
        b.links(page + 1);
        b.due("c", b.symbol("c"), TEXT + page);
      }
      for (int s = 2; s < 4; s++) {
        b.fresh();
        b.taken(0, "global start, c", "start: nop", "section rodata", "keep", "resb " + size, "section " + SECTIONS[s], "keep", "c: resb 1");
        b.links(0x1000 + page + 1);
        b.due("c", b.symbol("c"), TEXT + 0x1000 + page);
      }
    }
    b.about("IV: of sections that are not needed there is nothing");
    b.fresh();
    b.taken(0, "section data", "global start", "start: resb 1");
    b.links(1);
    b.due("data begins where the text would", b.symbol("start"), TEXT);
    b.works.load();
    b.register(18, TEXT + 0x1000);
  }

  private static void emptySections() {
    b.about("IV: a needed section of no bytes has its place");
    b.fresh();
    b.taken(0, "global start", "start:");
    b.links(0);
    b.taken(1, "section rodata", "keep");
    b.links(0);
    b.works.clear();
    b.taken(0, "global start", "start: nop", "section rodata", "keep");
    b.links(0x1000);
    b.taken(1, "section data", "keep");
    b.links(0x1000);
    b.taken(2, "section bss", "keep", "global e", "e:");
    b.links(0x1000);
    b.due("e", b.symbol("e"), TEXT + 0x1000);
    b.works.load();
    b.due("not to be read", b.works.peek(TEXT + 0x1000), -1);
    b.register(18, TEXT + 0x1000);
    b.works.clear();
    b.taken(0, "global start", "start: nop", "section data", "keep", "resb 1", "section bss", "keep");
    b.links(0x1010);
    b.works.load();
    b.due("all between", b.works.poke(TEXT + 0x100f, 5), true);
    b.due("behind", b.works.poke(TEXT + 0x1010, 5), false);
    b.works.clear();
    b.taken(0, "global start", "start: nop");
    b.taken(1, "keep");
    b.links(0x10);
    b.works.load();
    b.due("text to the last one's end", b.works.peek(TEXT + 15), 0);
    b.due("behind", b.works.peek(TEXT + 16), -1);
    b.about("IV: a label of no bytes, and its section");
    b.works.clear();
    b.taken(0, "global start, e", "start: dq e", "section bss", "e:");
    b.links(0x1000);
    b.works.load();
    b.due("e", b.number(TEXT, 8), TEXT + 0x1000);
  }

  private static void allUnits() {
    b.about("IV: units in the order in which they were read, each with all its sections");
    b.fresh();
    for (int i = 0; i < 32; i++) {
      String start = i == 31 ? "global start\nstart:\n" : "";
      b.taken(i, start + "keep", "db " + (i + 1), "section rodata", "keep", "db " + (i + 51) + ", 1", "section data", "keep",
          "db 1, 2, " + (i + 101), "section bss", "keep", "resb 4");
    }
    b.links(0x2000 + 0x200 + 0x1f0 + 4);
    b.works.load();
    for (int i = 0; i < 32; i++) {
      b.due("text of " + i, b.works.peek(TEXT + 16 * i), i + 1);
      b.due("rodata of " + i, b.works.peek(TEXT + 0x1000 + 16 * i), i + 51);
      b.due("data of " + i, b.works.peek(TEXT + 0x2002 + 16 * i), i + 101);
      b.due("behind it", b.works.peek(TEXT + 0x2003 + 16 * i), 0);
    }
    b.about("IV: a name that all 32 units have");
    for (int which : new int[] {0, 15, 31}) {
      NativeWorks before = b.works;
      b.fresh();
      for (int i = 0; i < 32; i++) {
        b.taken(i, i == 7 ? "global start\nstart: mov rax, x\nmov rbx, y" : "keep\ndq x", i == which ? "global x\nx: nop" : "nop",
            i == 0 || i == 31 ? "weak y\ny: nop" : "");
      }
      b.due("links", b.link(), true);
      b.works.load();
      b.stops(2, 2, 0, 0);
      b.due("x", b.symbol("x"), b.works.register(0));
      b.due("in its unit", b.works.where(b.works.register(0)) / 65536, which);
      b.due("y in the first", b.works.where(b.works.register(3)), which == 0 ? 6 : 5);
      b.works = before;
    }
    b.due("the last byte of bss", b.works.poke(TEXT + 0x23f3, 1), true);
    b.due("behind it", b.works.poke(TEXT + 0x23f4, 1), false);
  }

  private static void wholeImage() {
    b.about("IV: 5 the image, as link() tells it, is above 131072 bytes");
    b.fresh();
    b.taken(0, "global start", "start: resb 65536", "section data", "keep", "resb 65536");
    b.links(131072);
    b.taken(1, "section bss", "keep");
    b.links(131072);
    b.taken(2, "section bss", "keep", "resb 1");
    b.linkFails(5, 0, -1);
    b.due("the image before stays", b.works.load(), TEXT);
    b.register(18, TEXT + 0x20000);
    b.due("its last byte", b.works.poke(TEXT + 0x1ffff, 7), true);
    b.due("behind", b.works.poke(TEXT + 0x20000, 7), false);
    b.about("IV: as link() tells it: to the end of the last section");
    b.works.clear();
    b.taken(0, "global start", "start: nop", "section bss", "keep", "resb 65536");
    b.taken(1, "section bss", "keep", "resb 61439");
    b.links(131071);
    b.taken(2, "section bss", "keep");
    b.links(131072);
    b.taken(3, "section bss", "keep", "resb 16");
    b.linkFails(5, 0, -1);
    b.works.clear();
    b.taken(0, "global start", "start: nop", "section bss", "keep", "resb 65536");
    b.taken(1, "section bss", "keep", "resb 61440");
    b.links(131072);
    b.works.clear();
    b.taken(0, "global start", "start: nop", "section bss", "keep", "resb 65536");
    b.taken(1, "section bss", "keep", "resb 61441");
    b.linkFails(5, 0, -1);
    b.about("IV: of units whose sections are left out there may be more");
    b.works.clear();
    b.taken(0, "global start", "start: nop");
    for (int i = 1; i < 32; i++) {
      b.taken(i, "section bss", "resb 65536");
    }
    b.links(1);
    b.works.clear();
    b.taken(0, "global start", "start: nop");
    for (int i = 1; i < 32; i++) {
      b.taken(i, "section bss", "keep", "resb 65536");
    }
    b.linkFails(5, 0, -1);
  }

  /** A line of a unit whose start is at the text's beginning, x 8 bytes behind it, and the line itself 16 bytes. */
  private static void fits(boolean fits, String line) {
    b.fresh();
    b.taken(0, "global start", "start: dq 0", "x: dq 0", line);
    if (fits) {
      b.due("fits: " + line, b.link(), true);
    } else {
      b.linkFails(4, 4, 0);
    }
  }

  private static void fourBytes() {
    b.about("IV: 4 bytes must have it with its sign");
    long x = TEXT + 8;
    long most = Integer.MAX_VALUE;
    long least = Integer.MIN_VALUE;
    String[] lines = {"dd x + ", "mov eax, x + ", "mov eax, [rbx + x + ", "push x + ", "add rax, x + ", "mov dword [rbx], x + ",
        "mov qword [rbx], x + ", "imul eax, ebx, x + ", "mov eax, [x + "};
    for (String line : lines) {
      String end = line.contains("[") && !line.contains("]") ? "]" : "";
      fits(true, line + (most - x) + end);
      fits(false, line + (most - x + 1) + end);
      fits(true, line + "(" + (least - x) + ")" + end);
      fits(false, line + "(" + (least - x - 1) + ")" + end);
      fits(false, line + "(1 << 63)" + end);
    }
    b.about("IV: of SPANs, too");
    fits(true, "dd x - start + " + (most - 8));
    fits(false, "dd x - start + " + (most - 7));
    fits(true, "dd start - x - " + (-least - 8));
    fits(false, "dd start - x - " + (-least - 7));
    fits(false, "mov eax, x - start + 0xffffffff");
    b.about("IV: 8 bytes have all");
    fits(true, "dq x + (1 << 63)");
    fits(true, "mov rax, x + (1 << 63)");
    fits(true, "dq x - start + (1 << 63)");
  }

  private static void distances() {
    b.about("IV: of rel and distances, less the address of the next instruction");
    long most = Integer.MAX_VALUE;
    long least = Integer.MIN_VALUE;
    String[] lines = {"lea rax, [rel x + ", "mov dword [rel x + ", "call x + ", "jmp x + ", "jz x + ", "cmp byte [rel x + "};
    String[] ends = {"]", "], 5", "", "", "", "], 5"};
    int[] lengths = {7, 10, 5, 5, 6, 7};
    for (int i = 0; i < lines.length; i++) {
      long off = 8 - (16 + lengths[i]);
      fits(true, lines[i] + (most - off) + ends[i]);
      fits(false, lines[i] + (most - off + 1) + ends[i]);
      fits(true, lines[i] + "(" + (least - off) + ")" + ends[i]);
      fits(false, lines[i] + "(" + (least - off - 1) + ")" + ends[i]);
      b.fresh();
      b.taken(0, "global start", "start: dq 0", "x: dq 0", lines[i] + "1000" + ends[i], "nop");
      b.link();
      b.works.load();
      int at = 16 + (i == 0 ? 3 : i == 4 || i == 1 || i == 5 ? 2 : 1);
      b.due("its value", b.number(TEXT + at, 4), 1000 + off & 0xffffffffL);
    }
    b.about("IV: of CONSTANTS, too");
    fits(true, "call 5");
    fits(true, "jmp " + (most + TEXT + 16 + 5));
    fits(false, "jmp " + (most + TEXT + 16 + 5 + 1));
    fits(false, "call " + (least + TEXT + 16 + 5 - 1));
    fits(true, "jz 0");
    fits(false, "lea rax, [rel 0x80000000 + 0x400017]");
    fits(true, "lea rax, [rel 0x7fffffff + 0x400017]");
    fits(false, "lea rax, [rel x - start + (1 << 40)]");
  }

  private static void eightBytes() {
    b.about("BYTES: io and dq, all 8 bytes of a value");
    b.fresh();
    b.taken(0, "global start", "start: mov rax, x - 0x500000", "mov rbx, x - 0x500000", "nop", "dq x - 0x500000", "db 0x77", "x: nop");
    b.links(10 + 10 + 1 + 8 + 1 + 1);
    b.works.load();
    long x = TEXT + 30;
    b.due("mov", b.number(TEXT + 2, 8), x - 0x500000);
    b.due("what follows", b.works.peek(TEXT + 10), 0x48);
    b.stops(3, 3, 0, 0);
    b.register(0, x - 0x500000);
    b.register(3, x - 0x500000);
    b.due("dq", b.number(TEXT + 21, 8), x - 0x500000);
    b.due("what follows", b.works.peek(TEXT + 29), 0x77);
  }

  private static void widths() {
    b.about("IV: what WAITS gets its value, and what stands behind it stays");
    b.fresh();
    b.taken(0, "global start", "start: jmp x", "db 0x77", "jz x", "db 0x77", "call x", "db 0x77", "mov eax, x", "db 0x77",
        "mov byte [x], 0x66", "db 0x77", "dd x", "db 0x77", "push x", "db 0x77", "mov dword [x], y", "db 0x77", "section data", "x: y: nop");
    b.links(0x1001);
    b.works.load();
    int[] ends = {5, 12, 18, 24, 33, 38, 44, 56};
    for (int end : ends) {
      b.due("behind " + end, b.works.peek(TEXT + end), 0x77);
    }
    b.due("the number behind a displacement", b.works.peek(TEXT + 32), 0x66);
  }

  private static void faultOrder() {
    b.about("IV: the first FAULT: 1, 2, then 3 and 4 by units and lines, in a line as it stands, then 5");
    String[] head = {"global start", "start: nop"};
    b.fresh();
    b.taken(0, "keep", "dq gone", "dd $ + 0x7fffffff", "section bss", "keep", "resb 65536");
    b.taken(1, "section bss", "keep", "resb 65536", "global x", "x:");
    b.linkFails(1, 0, -1);
    b.taken(2, head);
    b.taken(3, "global x", "x:");
    b.linkFails(2, 2, 3);
    b.works.clear();
    b.taken(0, head);
    b.taken(1, "keep", "dd $ + 0x7fffffff", "dq gone", "section bss", "keep", "resb 65536");
    b.taken(2, "section bss", "keep", "resb 65536");
    b.linkFails(4, 2, 1);
    b.works.clear();
    b.taken(0, "section data", "keep", "nop", "dq gone", "section text", head[0], head[1]);
    b.taken(1, "keep", "dd $ + 0x7fffffff");
    b.linkFails(3, 4, 0);
    b.works.clear();
    b.taken(0, "section data", "nop", "dq gone", "section text", head[0], head[1]);
    b.taken(1, "keep", "dd $ + 0x7fffffff");
    b.linkFails(4, 2, 1);
    b.about("IV: in a line as it stands");
    String[] lines = {"dd start + 0x7fffffff, gone", "dd gone, start + 0x7fffffff", "mov dword [start + 0x7fffffff], gone",
        "mov dword [gone], start + 0x7fffffff", "dq 5, gone, start"};
    int[] kinds = {4, 3, 4, 3, 3};
    for (int i = 0; i < lines.length; i++) {
      b.fresh();
      b.taken(0, head[0], head[1], lines[i]);
      b.linkFails(kinds[i], 3, 0);
    }
    b.about("IV: a symbol that is missing, whatever its value");
    b.fresh();
    b.taken(0, head[0], head[1], "dd gone + (1 << 63)");
    b.linkFails(3, 3, 0);
    b.about("IV: without a fault, 0");
    b.works.clear();
    b.taken(0, head);
    b.links(1);
    b.latestFault(0, 0, -1);
  }

  private static void doubles() {
    b.about("IV: 2 the first unit with one that an earlier unit has, and the least line of such labels there");
    String[][] orders = {{"a", "c"}, {"c", "a"}};
    for (String[] order : orders) {
      b.fresh();
      b.taken(0, "global start, a, c", "start: a: c: nop");
      b.taken(1, "nop");
      b.taken(2, "global " + order[0] + ", " + order[1] + ", d", "d: nop", "", "a: nop", "c: nop");
      b.linkFails(2, 4, 2);
      b.fresh();
      b.taken(0, "global start, a, c", "start: a: c: nop");
      b.taken(1, "global " + order[0] + ", " + order[1], "nop", "c: nop", "a: nop");
      b.linkFails(2, 3, 1);
    }
    b.fresh();
    b.taken(0, "global start", "start: nop");
    b.taken(1, "global a", "a: nop");
    b.taken(2, "global c", "c: nop");
    b.taken(3, "global c", "nop", "c: nop");
    b.taken(4, "global a", "a: nop");
    b.linkFails(2, 3, 3);
    b.about("IV: of start, too");
    b.fresh();
    b.taken(0, "global start", "start: nop");
    b.taken(1, "nop", "global start", "start: nop");
    b.linkFails(2, 3, 1);
    b.about("IV: labels that are weak, not for others, or of libraries that are not taken are none");
    b.fresh();
    b.taken(0, "global start, a", "start: a: nop");
    b.taken(1, "weak a", "a: nop");
    b.taken(2, "a: nop");
    b.taken(3, "global a", "weak a", "a: nop");
    b.taken(4, "global a");
    b.due("library", b.unit(true, "global a", "a: nop"), 5);
    b.links(1);
    b.about("IV: also where their sections are left out");
    b.fresh();
    b.taken(0, "global start", "start: nop", "section data", "global a", "a: nop");
    b.taken(1, "section bss", "global a", "a: resb 1");
    b.linkFails(2, 3, 1);
    b.about("IV: a library that is taken for another one");
    b.fresh();
    b.taken(0, "global start, a", "start: call z", "a: nop");
    b.due("library", b.unit(true, "global a, z", "", "z: nop", "a: nop"), 1);
    b.linkFails(2, 4, 1);
  }

  private static void missing() {
    b.about("IV: what waits in needed sections: 3 a symbol that is missing");
    String[] uses = {"dq gone", "dd gone", "call gone", "jmp gone", "jz gone", "mov rax, gone", "mov eax, [gone]", "lea rax, [rel gone]",
        "mov dword [rbx], gone", "push gone - 5"};
    for (String use : uses) {
      b.fresh();
      b.taken(0, "global start", "start: nop", use);
      b.linkFails(3, 3, 0);
      b.fresh();
      b.taken(0, "global start", "start: nop", "section data", use);
      b.links(1);
      b.taken(1, "keep", "nop", use);
      b.linkFails(3, 3, 1);
    }
    b.about("IV: (also one that global names, and nothing uses) waits for nothing");
    b.fresh();
    b.taken(0, "global start, gone", "start: nop");
    b.links(1);
    b.about("IV: a CONSTANT is no label");
    b.fresh();
    b.taken(0, "global start", "start: dq gone");
    b.taken(1, "gone equ 5", "keep");
    b.linkFails(3, 2, 0);
  }

  private static void relinked() {
    b.about("8: all units, those that came later, too");
    b.fresh();
    b.taken(0, "global start", "start: dq x");
    b.linkFails(3, 2, 0);
    b.taken(1, "weak x", "x: nop");
    b.links(0x11);
    b.due("library", b.unit(true, "global x", "x: nop"), 2);
    b.links(0x11);
    b.taken(3, "global x", "x: nop", "nop");
    b.links(0x12);
    b.due("x", b.symbol("x"), TEXT + 0x10);
    b.about("8: a smaller image behind a larger one");
    b.works.clear();
    b.taken(0, "global start, old", "start: nop", "rept 500", "dq -1", "endr", "old: int3");
    b.links(4002);
    b.works.load();
    b.due("old", b.symbol("old"), TEXT + 4001);
    b.works.clear();
    b.taken(0, "global start", "start: nop", "section bss", "keep", "resb 8");
    b.taken(1, "keep");
    b.links(0x1008);
    b.due("where of what is gone", b.works.where(TEXT + 4001), -1);
    b.due("symbol of what is gone", b.symbol("old"), -1);
    b.due("the machine has the image before", b.works.peek(TEXT + 4001), 0xcc);
    b.works.load();
    b.due("a gap is 0", b.works.peek(TEXT + 15), 0);
    b.due("no text there", b.works.peek(TEXT + 16), -1);
    b.due("bss is 0", b.works.peek(TEXT + 0x1000), 0);
    b.works.set(16, TEXT + 4001);
    b.stops(0, 1, 4, TEXT + 4001);
    b.fresh();
    b.taken(0, "global first, start", "first: start: nop");
    b.links(1);
    b.due("first", b.symbol("first"), TEXT);
    b.works.clear();
    b.taken(0, "global start", "start: nop");
    b.links(1);
    b.due("first of an image before", b.symbol("first"), -1);
    b.about("10: the sections are where this image has them");
    int[] sizes = {1, 5000, 9000, 1, 5000};
    for (int size : sizes) {
      int page = (size + 4095) / 4096 * 4096;
      b.works.clear();
      b.taken(0, "global start", "start: resb " + size, "section rodata", "keep", "db 7", "section data", "keep", "db 8", "section bss",
          "keep", "resb 1");
      b.links(page + 4096 + 0x11);
      b.works.load();
      b.due("below rodata", b.works.peek(TEXT + page - 1), size == page ? 0 : -1);
      b.due("rodata", b.works.peek(TEXT + page), 7);
      b.due("behind rodata", b.works.peek(TEXT + page + 1), -1);
      b.due("below data", b.works.peek(TEXT + page + 4095), -1);
      b.due("data", b.works.peek(TEXT + page + 4096), 8);
      b.due("bss", b.works.poke(TEXT + page + 4096 + 16, 1), true);
      b.due("behind bss", b.works.poke(TEXT + page + 4096 + 17, 1), false);
    }
    b.about("9: names of images before don't take room");
    for (int i = 0; i < 8; i++) {
      b.works.clear();
      b.taken(0, "macro m", "global a" + i + "\\@", "a" + i + "\\@:", "endm", "global start", "start: nop", "rept 1000", "m", "endr");
      b.links(1);
      b.due("last", b.symbol("a" + i + "999"), TEXT + 1);
      b.due("gone", b.symbol("a" + (i - 1) + "999"), -1);
    }
  }
}
