/** Promises 8, 9 and 20: units taken, sections needed, places, values that waited, and the faults of linking. */
public final class LinkTest {
  private static final Bench b = new Bench();

  public static void main(String[] args) {
    starts();
    libraries();
    weak();
    needed();
    layout();
    gaps();
    waits();
    doubles();
    missing();
    tooLong();
    names();
    b.end();
  }

  private static void starts() {
    b.fresh();
    b.linkFails(1, 0, -1);
    b.unit(false, "start: nop");
    b.linkFails(1, 0, -1);
    b.unit(false, "weak start", "start: nop");
    b.linkFails(1, 0, -1);
    b.unit(true, "global start", "start: nop");
    b.linkFails(1, 0, -1);
    b.unit(false, "global start", "nop", "start: nop");
    b.links(2);
    b.due("kind", b.works.fault(0), 0);
    b.due("line", b.works.fault(1), 0);
    b.due("unit", b.works.fault(2), -1);
    b.due("start", b.symbol("start"), 0x400001);
    b.works.clear();
    b.linkFails(1, 0, -1);
    b.due("the image stays", b.symbol("start"), 0x400001);
    b.due("its load", b.works.load(), 0x400001);
    // Missing in a unit that is taken, so the library that has it is taken.
    b.fresh();
    b.unit(true, "global start", "start: nop");
    b.unit(false, "global start");
    b.links(1);
    b.fresh();
    b.unit(false, "section data", "global start", "db 1", "start: nop");
    b.links(2);
    b.due("start in data", b.works.load(), 0x400001);
    b.due("runs not there", b.works.run(1), 0);
    b.due("stop", b.works.stop(0), 4);
    b.due("its text", b.works.where(0x400001), -1);
    b.fresh();
    b.unit(false, "global start", "weak start", "start: nop");
    b.linkFails(1, 0, -1);
  }

  private static void libraries() {
    b.fresh();
    b.unit(true, "global b", "b: nop");
    b.unit(false, "global start", "start: call a");
    b.unit(true, "global a", "a: call b");
    b.unit(true, "global a", "a: ud2");
    b.unit(true, "global never", "never: ud2");
    b.links(0x25);
    b.due("b", b.symbol("b"), 0x400000);
    b.due("start", b.symbol("start"), 0x400010);
    b.due("a", b.symbol("a"), 0x400020);
    b.due("never", b.symbol("never"), -1);
    // Nobody takes a library for what a unit that is taken has, or misses as weak, or has for itself alone.
    b.fresh();
    b.unit(false, "global start", "weak w", "start: call w", "dq l", "l:");
    b.unit(true, "global w, x", "w: call x");
    b.unit(true, "global l", "l: nop");
    b.links(13);
    b.due("w", b.symbol("w"), -1);
    // A weak label of a library does, too; of two the first one.
    b.fresh();
    b.unit(false, "global start", "start: call w");
    b.unit(true, "weak w", "w: nop");
    b.unit(true, "global w", "w: nop");
    b.links(0x11);
    b.due("weak w", b.symbol("w"), 0x400010);
    // Once the second unit is taken, its global label goes ahead of the weak one.
    b.fresh();
    b.unit(false, "global start", "start: call w", "call v");
    b.unit(true, "weak w", "w: nop");
    b.unit(true, "global w, v", "w: nop", "v: nop");
    b.links(0x12);
    b.due("global w", b.symbol("w"), 0x400010);
    b.due("v", b.symbol("v"), 0x400011);
    // What an expression names is missed even if its section is left out.
    b.fresh();
    b.unit(false, "global start", "start: nop", "section data", "dq x");
    b.unit(true, "global x", "x: keep", "resb 3");
    b.links(0x13);
  }

  private static void weak() {
    b.fresh();
    b.unit(false, "weak w", "global start", "start: mov rax, w", "weak v", "mov rbx, v", "w: nop", "lea rcx, [rel v]");
    b.unit(false, "global w", "nop", "w: nop");
    b.links(0x22);
    b.works.load();
    b.works.run(2);
    b.due("w", b.works.register(0), 0x400021);
    b.due("v", b.works.register(3), 0);
    b.works.run(2);
    b.due("rel v", b.works.register(1), 0);
    // A jump to a weak label goes where its name stands for.
    b.fresh();
    b.unit(false, "global start", "weak w", "start: jmp w", "w: nop");
    b.unit(false, "global w", "w: int3");
    b.links(0x11);
    b.works.load();
    b.due("steps", b.works.run(2), 2);
    b.due("stop", b.works.stop(0), 6);
    // Of weak ones the first, and a span stays within its unit.
    b.fresh();
    b.unit(false, "weak w", "w: nop", "keep");
    b.unit(false, "weak w", "global start", "start: mov rax, w", "w: nop", "dq w - start");
    b.links(0x10 + 10 + 1 + 8);
    b.works.load();
    b.works.run(1);
    b.due("first weak w", b.works.register(0), 0x400000);
    b.due("span", b.number(0x40001b, 8), 10);
  }

  private static void needed() {
    b.fresh();
    b.unit(false, "global start", "start: mov rax, a", "section data", "nop", "section rodata", "dq start", "keep",
        "section bss", "b: resb 8");
    b.unit(false, "global a, c", "section data", "a: dq c", "section bss", "c: resb 4", "section rodata", "db 1");
    // text 10; rodata of the first 8; data of the second 8; bss of the second 4 behind it.
    b.links(0x2000 + 0x10 + 4);
    b.due("a", b.symbol("a"), 0x402000);
    b.due("c", b.symbol("c"), 0x402010);
    // Spans make nothing needed, nor do short jumps.
    b.fresh();
    b.unit(false, "global start", "start: nop", "dq x - y", "section data", "x: nop", "y: nop");
    b.links(9);
    // A weak one that is there makes its section needed.
    b.fresh();
    b.unit(false, "global start", "weak x", "start: call x");
    b.unit(false, "global x", "section data", "x: db 1");
    b.links(0x1001);
    // Sections that wait in circles are left out.
    b.fresh();
    b.unit(false, "global start", "start: nop", "section data", "a: dq b", "section rodata", "b: dq a");
    b.links(1);
    b.fresh();
    b.unit(false, "global start", "start: nop");
    b.unit(true, "global x", "x: nop", "keep");
    b.links(1);
  }

  private static void layout() {
    b.fresh();
    b.unit(false, "global start", "start: nop", "section bss", "keep", "resb 3");
    b.links(0x1003);
    b.fresh();
    b.unit(false, "global start", "start: nop", "section rodata", "keep");
    b.links(0x1000);
    b.fresh();
    b.unit(false, "global start", "start: nop", "section data", "keep", "db 1", "section bss", "keep", "resb 1");
    b.links(0x1011);
    b.fresh();
    b.unit(false, "global start", "start: nop", "section rodata", "keep", "db 1", "section data", "keep", "db 1");
    b.links(0x2001);
    b.fresh();
    b.unit(false, "global start", "start: nop", "resb 4095", "section rodata", "keep", "resb 4096", "section bss",
        "keep", "resb 5");
    b.links(0x2005);
    b.fresh();
    b.unit(false, "global start", "start: resb 16", "section data", "keep", "resb 16");
    b.unit(false, "keep", "resb 1", "section data", "keep", "resb 15");
    b.unit(false, "keep", "resb 1", "section data", "keep", "resb 1", "section bss", "keep", "resb 1");
    b.unit(false, "keep", "section bss", "keep");
    b.links(0x1000 + 0x40);
  }

  /** Nothing of an image before shows in the gaps of the next one. */
  private static void gaps() {
    b.fresh();
    b.unit(false, "global start", "start: nop", "rept 20", "dd -1", "endr", "int3");
    b.links(82);
    b.works.load();
    b.works.clear();
    b.unit(false, "global start", "start: nop", "call x", "section data", "keep", "db 1", "section bss", "keep", "resb 3");
    b.unit(false, "global x", "x: nop");
    b.links(0x1013);
    b.works.load();
    b.due("x", b.symbol("x"), 0x400010);
    for (int i = 6; i < 16; i++) {
      b.due("gap", b.works.peek(0x400000 + i), 0);
      b.due("where", b.works.where(0x400000 + i), -1);
    }
    b.due("behind", b.works.where(0x400051), -1);
    b.works.set(16, 0x400051);
    b.due("no step", b.works.run(1), 0);
    b.due("stop", b.works.stop(0), 4);
    b.due("gap of data", b.works.peek(0x40100f), 0);
    b.due("between text and data", b.works.peek(0x400fff), -1);
    b.works.clear();
    b.unit(false, "global start", "start: nop", "section rodata", "keep", "db 7");
    b.links(0x1001);
    b.works.load();
    b.due("rodata", b.works.peek(0x401000), 7);
    b.due("between text and rodata", b.works.peek(0x400fff), -1);
    b.works.clear();
    b.unit(false, "global start", "start: nop");
    b.links(1);
    b.works.load();
    b.due("no rodata", b.works.peek(0x401000), -1);
    // A unit with a fault has no labels.
    b.fresh();
    b.unit(false, "global start", "start: call x");
    b.unit(false, "global x", "x: nop", "foo");
    b.unit(false, "nop");
    b.linkFails(3, 2, 0);
  }

  private static void waits() {
    b.fresh();
    b.unit(false, "global start", "start: mov rax, x + 3", "mov eax, [x]", "mov eax, [rel x + 1]", "call x - 2",
        "dd x, x + 1, $", "dq x, $ - start, 0x400000", "jmp 0x400000", "cmp dword [rel x], 5", "lea rax, [rel 0]",
        "mov eax, x", "section data", "x: dq start");
    b.links(0x1008);
    b.works.load();
    long x = 0x401000;
    b.due("mov rax", b.number(0x400002, 8), x + 3);
    b.due("mov eax, [x]", b.number(0x40000a + 3, 4), x);
    b.due("rel", b.number(0x400011 + 2, 4), x + 1 - 0x400017);
    b.due("call", b.number(0x400017 + 1, 4), x - 2 - 0x40001c);
    b.due("dd x", b.number(0x40001c, 4), x);
    b.due("dd x + 1", b.number(0x400020, 4), x + 1);
    b.due("dd $", b.number(0x400024, 4), 0x40001c);
    b.due("dq x", b.number(0x400028, 8), x);
    b.due("dq $ - start", b.number(0x400030, 8), 0x28);
    b.due("jmp", (int) b.number(0x400041, 4), 0x400000 - 0x400045);
    b.due("cmp rel", b.number(0x400047, 4), x - 0x40004c);
    b.due("lea rel 0", (int) b.number(0x40004f, 4), -0x400053);
    b.due("mov eax, x", b.number(0x400054, 4), x);
    b.due("dq start", b.number(x, 8), 0x400000);
    // 4 bytes must have it with its sign.
    b.fresh();
    b.unit(false, "global start", "start: nop", "nop", "dd start + 0x7fbfffff");
    b.links(6);
    b.fresh();
    b.unit(false, "global start", "start: nop", "nop", "dd start + 0x7fc00000");
    b.linkFails(4, 4, 0);
    b.fresh();
    b.unit(false, "global start", "start: nop", "mov eax, [start - 0x80000000 - 0x400000]");
    b.links(8);
    b.fresh();
    b.unit(false, "global start", "start: nop", "mov eax, [start - 0x80000000 - 0x400001]");
    b.linkFails(4, 3, 0);
    b.fresh();
    b.unit(false, "global start", "start: dd start - $ + 0x80000000");
    b.linkFails(4, 2, 0);
    b.fresh();
    b.unit(false, "global start", "start: dq start - $ + 0x80000000", "section data", "dd start");
    b.links(8);
  }

  private static void doubles() {
    b.fresh();
    b.unit(false, "global start, a, c", "start: nop", "c: a: nop");
    b.unit(false, "nop", "a: c: nop");
    b.unit(false, "weak a, c", "a: c: nop");
    b.unit(true, "global a, c, d", "a: c: d: nop");
    b.links(2);
    b.unit(false, "global a, c", "nop", "c: nop", "nop", "a: nop");
    b.linkFails(2, 3, 4);
    b.unit(false, "global a", "a:", "nop");
    b.linkFails(2, 3, 4);
    b.fresh();
    b.unit(false, "global start", "start: nop");
    b.unit(false, "global x", "x: nop", "dq missing", "keep");
    b.unit(false, "global b, x", "b: nop", "", "x:");
    b.linkFails(2, 4, 2);
  }

  private static void missing() {
    b.fresh();
    b.unit(false, "global start", "start: nop", "nop", "call x", "dd start + 0x7fffffff");
    b.linkFails(3, 4, 0);
    b.fresh();
    b.unit(false, "global start", "start: nop", "dd start + 0x7fffffff, x");
    b.linkFails(4, 3, 0);
    b.fresh();
    b.unit(false, "global start", "start: nop", "dd x, start + 0x7fffffff");
    b.linkFails(3, 3, 0);
    b.fresh();
    b.unit(false, "global start", "start: nop", "mov qword [y], z");
    b.linkFails(3, 3, 0);
    b.fresh();
    b.unit(false, "global start", "start: nop", "section data", "dq x");
    b.links(1);
    b.fresh();
    b.unit(false, "global start", "start: nop");
    b.unit(false, "nop", "keep", "macro m", "nop", "dq x", "endm", "nop", "m");
    b.linkFails(3, 8, 1);
    b.fresh();
    b.unit(false, "keep", "dq x");
    b.unit(false, "global start", "start: nop");
    b.linkFails(3, 2, 0);
    // Labels that other units do not see are missing there.
    b.fresh();
    b.unit(false, "global start", "start: call x");
    b.unit(false, "x: nop");
    b.linkFails(3, 2, 0);
    b.fresh();
    b.unit(false, "global start", "start: call x");
    b.unit(false, "x equ 5", "nop");
    b.linkFails(3, 2, 0);
  }

  private static void tooLong() {
    b.fresh();
    b.unit(false, "global start", "start: resb 65536", "section bss", "keep", "resb 65536");
    b.links(131072);
    b.unit(false, "section bss", "keep", "db \"\"");
    b.unit(false, "section bss", "keep", "resb 1");
    b.linkFails(5, 0, -1);
    b.due("the image before stays", b.works.load(), 0x400000);
    b.due("break", b.works.register(18), 0x420000);
    b.fresh();
    b.unit(false, "global start", "start: resb 65536", "section bss", "keep", "resb 65536");
    b.unit(false, "section bss", "keep", "resb 1", "section data", "keep", "dq x");
    b.linkFails(3, 6, 1);
  }

  private static void names() {
    b.fresh();
    b.due("no image", b.symbol("start"), -1);
    b.unit(false, "global start, a, .l, other, gone", "weak w", "start: nop", ".l: nop", "a: local: nop", "w: nop",
        "section data", "gone: db 1", "k equ 5", "global .l");
    b.unit(false, "weak a", "a: nop", "keep");
    b.due("not linked yet", b.symbol("start"), -1);
    b.links(0x11);
    b.due("start", b.symbol("start"), 0x400000);
    b.due("a", b.symbol("a"), 0x400002);
    b.due("weak", b.symbol("w"), 0x400003);
    b.due("not global", b.symbol("local"), -1);
    b.due("left out", b.symbol("gone"), -1);
    b.due("missing", b.symbol("other"), -1);
    b.due("constant", b.symbol("k"), -1);
    b.due("empty", b.symbol(""), -1);
    b.due("longer", b.symbol("starts"), -1);
    b.due("shorter", b.symbol("star"), -1);
    b.due("l of start is not named", b.symbol("start.l"), -1);
    b.feed("start");
    try {
      b.due("first bytes", b.works.symbol(5), 0x400000);
    } catch (java.util.NoSuchElementException e) {
      b.due("first bytes", "thrown", "an address");
    }
    b.due("the tape is empty", b.works.feed(0, 0, 0, 0, 0), 20);
    b.fresh();
    b.unit(false, "global start", "start: .l: nop", "global .l");
    b.links(1);
    b.due("local", b.symbol("start.l"), 0x400000);
    b.due("where", b.works.where(0x400000), 2);
    b.due("where not", b.works.where(0x400001), -1);
    b.due("where below", b.works.where(0x3fffff), -1);
    b.due("where far", b.works.where(0x400000L + (1L << 32)), -1);
    b.works.clear();
    b.due("where stays", b.works.where(0x400000), 2);
    b.due("symbol stays", b.symbol("start.l"), 0x400000);
    b.fresh();
    b.unit(false, "nop", "db 1", "nop", "section data", "nop");
    b.unit(false, "", "global start", "start: db 1", "nop", "int3", "section data", "keep", "nop");
    b.links(0x1001);
    b.due("data", b.works.where(0x400000), -1);
    b.due("nop", b.works.where(0x400001), 65536 + 4);
    b.due("int3", b.works.where(0x400002), 65536 + 5);
    b.due("in data", b.works.where(0x401000), -1);
  }
}
