import java.util.NoSuchElementException;

/** Promises 1 to 11: the edges of what a call takes, what it refuses, and what stays as it was then. */
public final class CallEdgesTest {
  private static final Bench b = new Bench();
  private static final int[] ODD = {Integer.MIN_VALUE, -2, -1, 4, 5, 32, Integer.MAX_VALUE};

  public static void main(String[] args) {
    fresh();
    fullTape();
    nearest();
    behindFirst();
    emptyTape();
    mostUnits();
    refusedUnits();
    clearing();
    faults();
    sizes();
    octets();
    images();
    symbols();
    places();
    b.end();
  }

  private static void fresh() {
    b.about("1: an empty tape, no units, no image");
    b.fresh();
    b.due("tape", b.works.input(100), 0);
    for (int i : ODD) {
      b.due("size", b.works.size(i, 0), -1);
      b.due("octet", b.works.octet(i, 0, 0), -1);
      b.due("where", b.works.where(i), -1);
    }
    b.due("symbol", b.symbol("start"), -1);
    b.due("load", load(), -1);
    b.latestFault(0, 0, -1);
    b.taken(0);
  }

  private static long load() {
    try {
      return b.works.load();
    } catch (IllegalStateException e) {
      return -1;
    }
  }

  private static int unit(int n) {
    try {
      return b.works.unit(n, false);
    } catch (IllegalArgumentException e) {
      return -1;
    }
  }

  private static long symbol(int n) {
    try {
      return b.works.symbol(n);
    } catch (NoSuchElementException e) {
      return -1;
    }
  }

  private static void fullTape() {
    b.about("2: NONE, changing nothing, if it would have more than 65536");
    b.fresh();
    b.feed("db 1, 2, 3;");
    int filled = 20;
    for (int i = 0; i < 3275; i++) {
      filled = b.works.feed(-1, -1, -1, -1, -1);
    }
    b.due("the last that fits", filled, 65520);
    b.due("one more", b.works.feed(0, 0, 0, 0, 0), -1);
    b.due("and again", b.works.feed(0, 0, 0, 0, 0), -1);
    b.due("what was there is there", unit(10), 0);
    b.due("its bytes", b.bytes(0, 0), "010203");
    b.due("the tape is empty", b.works.feed(0, 0, 0, 0, 0), 20);
  }

  private static void nearest() {
    b.about("3, 9, 11: n counts as the nearest of 0 .. all");
    int[] n = {Integer.MIN_VALUE, -1, 0, 1, 19, 20, 21, Integer.MAX_VALUE};
    int[] all = {0, 0, 0, 1, 19, 20, 20, 20};
    for (int i = 0; i < n.length; i++) {
      b.fresh();
      b.works.feed(0x64622031, 0x2c312c31, 0x2c312c31, 0x2c312c31, 0x2c312c31);
      b.due("input of " + n[i], b.works.input(n[i]), all[i]);
      b.feed("db \"0123456789abcde\"");
      // The text is whole with all of its 20 bytes alone.
      b.due("unit of " + n[i], unit(n[i]), all[i] == 0 || all[i] == 20 ? 0 : -1);
      b.fresh();
      b.unit(false, "global start, startsomewhereoutth", "start: startsomewhereoutth: nop");
      b.link();
      b.feed("startsomewhereoutth:");
      b.due("symbol of " + n[i], symbol(n[i]), all[i] == 19 ? Bench.TEXT : -1);
    }
  }

  /** What stands on the tape behind the first n bytes is of no matter. */
  private static void behindFirst() {
    b.about("3: the first n bytes of the tape are the source");
    b.fresh();
    b.feed("if 1\n\n\n\n\n\n\n\n\n\n\n\n\n\n\n\n");
    b.due("one line", unit(5), -1);
    b.latestFault(6, 1, 0);
    b.feed("if 1\n\n\n\n\n\n\n\n\n\n\n\n\n\n\n\n");
    b.due("one line", unit(4), -1);
    b.latestFault(6, 1, 0);
    b.feed("if 1\n\n\n\n\n\n\n\n\n\n\n\n\n\n\n\n");
    b.due("two lines", unit(6), -1);
    b.latestFault(6, 2, 0);
    b.feed("db 12345678901234567");
    b.due("a number", unit(4), 0);
    b.due("its byte", b.bytes(0, 0), "01");
    b.feed("a: nop b: foo 123456");
    b.due("a line", unit(6), 1);
    b.due("its byte", b.bytes(1, 0), "90");
    b.feed("if 0 endif endif nop");
    b.due("no end", unit(4), -1);
    b.latestFault(6, 1, 2);
  }

  private static void emptyTape() {
    b.about("3, 9, 11: the tape is empty then, in any case");
    b.fresh();
    b.feed("global start\nstart: ");
    unit(1000);
    b.due("behind unit()", b.works.feed(0, 0, 0, 0, 0), 20);
    unit(1);
    b.due("behind a unit() refused", b.works.feed(0, 0, 0, 0, 0), 20);
    b.due("symbol refused", symbol(5), -1);
    b.due("behind symbol()", b.works.feed(0, 0, 0, 0, 0), 20);
    b.works.input(-1);
    b.due("behind input() of nothing", b.works.feed(0, 0, 0, 0, 0), 20);
    b.link();
    b.works.clear();
    load();
    b.due("behind others it is as it was", b.works.feed(0, 0, 0, 0, 0), 40);
    b.due("what comes behind it", b.works.input(3), 3);
    b.feed("start");
    b.due("symbol", symbol(5), Bench.TEXT);
    b.due("is alone there", b.works.feed(0, 0, 0, 0, 0), 20);
  }

  private static void mostUnits() {
    b.about("3: there are 32 (kind 5, line 0, unit 32, whatever the source)");
    b.fresh();
    for (int i = 0; i < 32; i++) {
      b.taken(i, "db " + i);
    }
    b.refused(5, 0, 32, "nop");
    b.refused(5, 0, 32);
    b.refused(5, 0, 32, "nop", "foo", "\u0001");
    b.refused(5, 0, 32, "if 1");
    b.due("a library", b.unit(true, "nop"), -1);
    b.latestFault(5, 0, 32);
    b.due("there is no such unit", b.works.size(32, 0), -1);
    b.due("the last one stays", b.bytes(31, 0), "1f");
    b.works.clear();
    b.latestFault(5, 0, 32);
    b.taken(0, "nop");
  }

  private static void refusedUnits() {
    b.about("3: or it has a fault; there is no such unit then");
    b.fresh();
    b.taken(0, "db 7");
    for (int i = 0; i < 40; i++) {
      b.refused(2, 2, 1, "nop", "foo");
    }
    b.due("no such unit", b.works.size(1, 0), -1);
    b.due("no octet of it", b.works.octet(1, 0, 0), -1);
    b.due("the one before stays", b.bytes(0, 0), "07");
    b.taken(1, "db 8");
    b.due("its bytes", b.bytes(1, 0), "08");
    b.about("3: nor anything that its last line had");
    b.fresh();
    b.refused(7, 1, 0, "mov eax, [rbx + 0x80000000]");
    b.taken(0, "mov eax, 5", "push rax");
    b.refused(2, 1, 1, "mov eax, [rax + rcx + rdx]");
    b.taken(1, "mov eax, [rax + rcx]");
    b.works.clear();
    b.refused(2, 2, 0, "c equ 77", "foo");
    b.taken(0, "global start", "start: dq start");
    b.links(8);
    b.works.load();
    b.due("start", b.number(Bench.TEXT, 8), Bench.TEXT);
    b.about("3: nor any name of it");
    b.fresh();
    b.taken(0, "global a, start", "start: a: nop");
    b.refused(2, 3, 1, "b: c: d: e: nop", "dq a, start, f, g, h", "foo");
    b.taken(1, "z: y: x: w: v: u: nop", "keep", "dq a, start, x");
    b.refused(2, 2, 2, "a: global a", "foo");
    b.refused(2, 2, 2, "dq a, x", "foo");
    b.taken(2, "y: v: keep", "dq y, a");
    b.links(0x40);
    b.works.load();
    b.due("a", b.number(Bench.TEXT + 17, 8), Bench.TEXT);
    b.due("start", b.number(Bench.TEXT + 25, 8), Bench.TEXT);
    b.due("x", b.number(Bench.TEXT + 33, 8), Bench.TEXT + 16);
    b.due("a again", b.number(Bench.TEXT + 0x38, 8), Bench.TEXT);
  }

  private static void clearing() {
    b.about("4: all units are gone; image, symbol(), where(), machine and fault() stay");
    b.fresh();
    b.taken(0, "global start, x", "start: nop", "x: jmp x");
    b.taken(1, "nop");
    b.links(3);
    b.works.load();
    b.stops(4, 4, 0, 0);
    b.works.stopAt(Bench.TEXT, true);
    b.refused(2, 1, 2, "foo");
    b.works.clear();
    b.latestFault(2, 1, 2);
    b.due("size", b.works.size(0, 0), -1);
    b.due("size", b.works.size(1, 0), -1);
    b.due("octet", b.works.octet(0, 0, 0), -1);
    b.due("symbol", b.symbol("x"), Bench.TEXT + 1);
    b.due("where", b.works.where(Bench.TEXT + 1), 3);
    b.register(16, Bench.TEXT + 1);
    b.register(19, 4);
    b.stops(3, 3, 0, 0);
    b.due("a place to stop at", b.works.stopAt(Bench.TEXT, true), false);
    b.due("load", load(), Bench.TEXT);
    b.linkFails(1, 0, -1);
    b.due("the image is still there", load(), Bench.TEXT);
    b.works.clear();
    b.works.clear();
    b.taken(0, "x: nop");
    b.about("4: what was room for units is room again");
    for (int i = 0; i < 20; i++) {
      b.works.clear();
      b.taken(0, "rept 4096", "dd -1", "endr", "rept 1024", "dd x - 1", "endr", "macro m", "a\\@:", "endm", "rept 1000", "m",
          "endr", "section data", "rept 64", "dq -1, -1, -1, -1", "endr");
      b.due("the last byte", b.works.octet(0, 2, 2047), 255);
      b.due("a byte", b.works.octet(0, 0, 16383), 255);
      b.due("what waits", b.works.octet(0, 0, 16384), 0);
    }
  }

  private static void faults() {
    b.about("5: of the latest unit() or link()");
    b.fresh();
    b.latestFault(0, 0, -1);
    b.refused(2, 3, 0, "nop", "", "foo");
    b.taken(0, "nop");
    b.linkFails(1, 0, -1);
    b.taken(1, "global start", "start: nop");
    b.refused(7, 1, 2, "db 256");
    b.links(1);
    b.latestFault(0, 0, -1);
    b.taken(2, "", "keep", "", "dq x");
    b.linkFails(3, 4, 2);
    b.about("5: other calls leave it");
    b.works.feed(0, 0, 0, 0, 0);
    b.symbol("none");
    load();
    b.run(0);
    b.run(1);
    b.works.size(77, 0);
    b.works.clear();
    b.latestFault(3, 4, 2);
    b.about("5: NONE for another what");
    for (int what : new int[] {-1, 3, 4, Integer.MIN_VALUE, Integer.MAX_VALUE}) {
      b.due("what " + what, b.works.fault(what), -1);
    }
  }

  private static void sizes() {
    b.about("6: NONE if there is none such");
    b.make("resb 1", "section rodata", "resb 2", "section data", "resb 3", "section bss", "resb 4");
    b.taken(1);
    for (int s = 0; s < 4; s++) {
      b.due("section " + s, b.works.size(0, s), s + 1);
      b.due("an empty one " + s, b.works.size(1, s), 0);
      b.due("no unit", b.works.size(2, s), -1);
      b.due("no unit", b.works.size(-1, s), -1);
    }
    for (int s : ODD) {
      b.due("section " + s, b.works.size(0, s), -1);
    }
    b.due("no unit and no section", b.works.size(2, 4), -1);
  }

  private static void octets() {
    b.about("7: NONE if there is none such");
    b.make("db 0, 255, 128", "section rodata", "db 7", "section data", "db 8", "section bss", "resb 2");
    b.taken(1);
    int[] sizes = {3, 1, 1, 2};
    int[] last = {128, 7, 8, 0};
    for (int s = 0; s < 4; s++) {
      b.due("last of " + s, b.works.octet(0, s, sizes[s] - 1), last[s]);
      b.due("behind it", b.works.octet(0, s, sizes[s]), -1);
      b.due("ahead", b.works.octet(0, s, -1), -1);
      b.due("far", b.works.octet(0, s, Integer.MAX_VALUE), -1);
      b.due("far", b.works.octet(0, s, Integer.MIN_VALUE), -1);
      b.due("of none", b.works.octet(1, s, 0), -1);
    }
    b.due("0", b.works.octet(0, 0, 0), 0);
    b.due("255", b.works.octet(0, 0, 1), 255);
    for (int odd : ODD) {
      b.due("section " + odd, b.works.octet(0, odd, 0), -1);
      b.due("unit " + odd, b.works.octet(odd, 0, 0), -1);
    }
    b.about("7: bytes of bss are 0, whatever other units have");
    b.make("section bss", "resb 3");
    b.taken(1, "db 7, 8, 9");
    for (int i = 0; i < 3; i++) {
      b.due("of bss", b.works.octet(0, 3, i), 0);
    }
    b.about("7: as it was assembled (what waits is 0)");
    b.make("mov eax, x", "mov dword [x], 0x11223344", "lea rcx, [rel x]", "jmp x", "jz x", "call x", "dd x - 1", "dq $ - 1",
        "a: dd b - a", "b: jmp a", "jnz b");
    b.due("bytes", b.bytes(0, 0), "b800000000" + "c7042500000000" + "44332211" + "488d0d00000000" + "e900000000"
        + "0f8400000000" + "e800000000" + "00000000" + "0000000000000000" + "00000000" + "ebfa75fc");
    b.links(-101);
    b.due("link() changes none of them", b.works.octet(0, 0, 1), 0);
  }

  private static void images() {
    b.about("8: there is a fault; the image before stays");
    b.fresh();
    b.linkFails(1, 0, -1);
    b.due("no image yet", load(), -1);
    b.taken(0, "global start, y", "nop", "start: nop", "y: nop");
    b.links(3);
    b.taken(1, "keep", "dq x");
    b.linkFails(3, 2, 1);
    b.due("start", load(), Bench.TEXT + 1);
    b.due("symbol", b.symbol("y"), Bench.TEXT + 2);
    b.due("where", b.works.where(Bench.TEXT + 2), 4);
    b.due("break", b.works.register(18), 0x401000);
    b.works.clear();
    b.taken(0, "nop", "nop", "nop", "nop", "nop", "global start", "start: nop", "dd start + 0x7fffffff");
    b.linkFails(4, 8, 0);
    b.due("start", load(), Bench.TEXT + 1);
    b.due("where", b.works.where(Bench.TEXT + 3), -1);
    b.about("8: the addresses from 0x400000 to the end of the last section");
    b.works.clear();
    b.taken(0, "global start", "start:");
    b.links(0);
    b.due("start of no bytes", load(), Bench.TEXT);
    b.due("nothing to read", b.works.peek(Bench.TEXT), -1);
    b.stops(0, 1, 4, Bench.TEXT);
    b.register(18, Bench.TEXT);
  }

  private static void symbols() {
    b.about("9: a global or weak label by which units taken are linked");
    b.fresh();
    b.taken(0, "global start, a, both, lost", "weak w, both, gone", "start: nop", "a: nop", "w: nop", "both: nop", "l: nop");
    b.taken(1, "weak w, a", "a: w: nop", "keep");
    b.due("a library that is not taken", b.unit(true, "global lib", "lib: nop", "keep"), 2);
    b.due("no image", b.symbol("start"), -1);
    b.links(0x11);
    b.due("global", b.symbol("a"), Bench.TEXT + 1);
    b.due("the first weak one", b.symbol("w"), Bench.TEXT + 2);
    b.due("by both", b.symbol("both"), Bench.TEXT + 3);
    b.due("neither", b.symbol("l"), -1);
    b.due("missing", b.symbol("lost"), -1);
    b.due("missing and weak", b.symbol("gone"), -1);
    b.due("not taken", b.symbol("lib"), -1);
    b.due("no name", b.symbol(""), -1);
    b.about("9: there is none such (also its section was left out)");
    b.works.clear();
    b.taken(0, "global start, x", "start: nop", "section data", "x: nop");
    b.taken(1, "weak x", "x: nop", "keep");
    b.links(0x11);
    b.due("the global one is left out", b.symbol("x"), -1);
    b.about("9: of this image alone");
    b.due("of an image before", b.symbol("a"), -1);
    b.due("of an image before", b.symbol("w"), -1);
    b.due("start", b.symbol("start"), Bench.TEXT);
    b.about("9: names of 126 letters, 1024 of them");
    String x = Bench.times(57, "x");
    b.works.clear();
    // Names with numbers of four digits; the first thousand numbers are not used.
    b.taken(0, "macro n", "endm", "rept 1000", "n", "endr", "macro m", "global ." + x + "_\\@", "." + x + "_\\@: nop", "endm",
        "global start", "start:", Bench.times(63, "y") + ":", "rept 1022", "m", "endr");
    b.links(1022);
    b.due("first", b.symbol(Bench.times(63, "y") + "." + x + "_1000"), Bench.TEXT);
    b.due("last", b.symbol(Bench.times(63, "y") + "." + x + "_2021"), Bench.TEXT + 1021);
    b.due("behind it", b.symbol(Bench.times(63, "y") + "." + x + "_2022"), -1);
    b.due("one letter less", b.symbol(Bench.times(63, "y") + "." + x + "_202"), -1);
  }

  private static void places() {
    b.about("20: NONE if none does");
    b.fresh();
    b.due("no image", b.works.where(Bench.TEXT), -1);
    b.taken(0, "global start", "start: mov eax, 5", "db 0x90", "nop", "section data", "keep", "nop", "section rodata", "keep", "nop");
    b.due("not linked", b.works.where(Bench.TEXT), -1);
    b.links(0x2001);
    b.due("first", b.works.where(Bench.TEXT), 2);
    b.due("within it", b.works.where(Bench.TEXT + 1), -1);
    b.due("db", b.works.where(Bench.TEXT + 5), -1);
    b.due("last", b.works.where(Bench.TEXT + 6), 4);
    b.due("behind", b.works.where(Bench.TEXT + 7), -1);
    b.due("rodata", b.works.where(Bench.TEXT + 0x1000), -1);
    b.due("data", b.works.where(Bench.TEXT + 0x2000), -1);
    for (long far : new long[] {Bench.TEXT - 1, 0, -1, Long.MIN_VALUE, Long.MAX_VALUE, Bench.TEXT + 131071,
        Bench.TEXT + 131072, Bench.TEXT + (1L << 32), Bench.TEXT - (1L << 32), Bench.TEXT + (1L << 63)}) {
      b.due("at " + far, b.works.where(far), -1);
    }
    b.about("20: 65536 * the unit + the line, told as for faults");
    b.works.clear();
    for (int i = 0; i < 31; i++) {
      b.taken(i, "nop");
    }
    b.taken(31, "", "global start", "macro m", "nop", "rept 2", "nop", "endr", "endm", "start: m", "jmp start");
    b.links(5);
    int[] lines = {9, 9, 9, 10};
    for (int i = 0; i < 4; i++) {
      b.due("instruction " + i, b.works.where(Bench.TEXT + i), 65536 * 31 + lines[i]);
    }
    b.due("within the last", b.works.where(Bench.TEXT + 4), -1);
  }
}
