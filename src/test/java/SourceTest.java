/** Promise 3 and 5: tokens, expressions, statements, and the faults of each line in their order. */
public final class SourceTest {
  private static final Bench b = new Bench();

  public static void main(String[] args) {
    tokens();
    names();
    expressions();
    data();
    values();
    sections();
    order();
    newNames();
    room();
    ends();
    b.end();
  }

  private static void tokens() {
    b.code("", "");
    b.code("90", "nop");
    b.code("9090", "nop ; mov rax, \u00e9 \u0001", "\tnop");
    b.code("3b", "db ';' ; x");
    b.code("3b3a", "db \";\", ':'");
    b.code("0a0900615c27", "db '\\n', '\\t', '\\0', '\\a', '\\\\', '\\''");
    b.code("22", "db '\"'");
    b.code("7e7e20", "db '~', \"~ \"");
    b.code("2722610a", "db \"'\\\"a\\n\"");
    b.code("0f0f1f05", "db 0xf, 0xF, 0x1F, 0b101");
    b.code("ffffffffffffffff", "dq 18446744073709551615");
    b.code("ffffffffffffffff", "dq 0xffffffffffffffff");
    b.code("ffffffffffffffff", "dq 0b" + Bench.times(64, "1"));
    b.code("07", "db 000000000000000000000000000007");
    b.fault("1@1", "dq 18446744073709551616");
    b.fault("1@1", "dq 0x10000000000000000");
    b.fault("1@1", "dq 0b1" + Bench.times(64, "0"));
    b.fault("1@1", "db 0x");
    b.fault("1@1", "db 0b2");
    b.fault("1@1", "db 0X1");
    b.fault("1@1", "db 12ab");
    b.fault("1@1", "db 1.5");
    b.fault("1@1", "db 'a'b");
    b.fault("1@1", "db ''");
    b.fault("1@1", "db '''");
    b.fault("1@1", "db 'ab'");
    b.fault("1@1", "db '\t'");
    b.fault("1@1", "db \"\t\"");
    b.fault("1@1", "db \"abc");
    b.fault("1@1", "db \"abc\\\"");
    b.fault("1@1", "db '\\\t'");
    b.fault("1@1", "db \"\\\t\"");
    b.fault("1@1", "db \"\\\u00e9\"");
    b.fault("none", "zaZA_09.: nop");
    b.fault("1@1", "a@: nop");
    b.fault("1@1", "a`: nop");
    b.fault("1@1", "a{: nop");
    b.fault("1@1", "db \"\u00e9\"");
    b.fault("1@2", "nop", "nop\u0001");
    b.fault("1@1", "nop\r");
    b.fault("1@1", "db 1 < 2");
    b.fault("1@1", "db 1 > 2");
    b.fault("1@1", "db 1 = 2");
    b.fault("1@1", "nop !");
    b.fault("1@1", "\\x");
    b.fault("none", Bench.times(63, "a") + ": nop");
    b.fault("1@1", Bench.times(64, "a") + ": nop");
    b.fault("none", "nop ;" + Bench.times(1019, "x"));
    b.fault("5@1", "nop ;" + Bench.times(1020, "x"));
    b.fault("5@2", "nop", Bench.times(1025, "\u0001"));
    b.code("9090", "nop", "", "", "nop");
  }

  private static void names() {
    b.code("0000000000000000", "a: dq .x", ".x:");
    // .x behind b is b.x, a.x is another one.
    b.code("ebfeebfceb00", "a:", ".x: jmp .x", "jmp a.x", "b: jmp .x", ".x:");
    b.fault("3@3", "a: nop", ".x: nop", ".x: nop");
    b.fault("none", "a: nop", ".x: nop", "b: nop", ".x: nop");
    b.fault("3@4", "a: nop", ".x: nop", "b: nop", "a.x: nop");
    b.fault("none", ".x: nop", "a: nop", ".x: nop");
    b.fault("3@2", ".x: nop", ".x: nop");
    b.fault("none", "a: b: c: nop");
    b.fault("3@1", "a: b: a: nop");
    b.code("90", "a : nop");
    b.code("ebfeebfc", "a: .b: jmp a.b", "jmp .b");
    b.code("05", ".n equ 5", "db .n");
    b.code("0506", "a:", ".n equ 5", "db .n", "b:", ".n equ 6", "db .n");
  }

  private static void expressions() {
    b.code("07", "db 1 + 2 * 3");
    b.code("09", "db (1 + 2) * 3");
    b.code("05", "db 10 - 3 - 2");
    b.code("02", "db 20 / 5 / 2");
    b.code("07", "db 1 | 2 ^ 4");
    b.code("0403", "db 6 & 1 << 2, 3 ^ 2 & 4");
    b.code("0d", "db 12 | 13 ^ 9 & 12 ^ 4");
    b.code("18", "db 3 << 1 + 2");
    b.code("0c", "db 4 ^ 2 << 2");
    b.code("01", "db 3 & 1 << 0");
    b.code("fdff", "db -3, ~0");
    b.code("03", "db - - 3");
    b.code("05", "db + 5");
    b.code("02fc", "db -~1, ~+3");
    b.code("fd", "db -7 / 2");
    b.code("ff", "db -7 % 2");
    b.code("01", "db 7 % -2");
    b.code("0000000000000080", "dq 0x8000000000000000 / -1");
    b.code("0000000000000000", "dq 0x8000000000000000 % -1");
    b.code("02", "db 1 << 65");
    b.code("ffffffffffffff7f", "dq -1 >> 1");
    b.code("01", "db (((((((((((((((((((((((((((((((((((((((((1)))))))))))))))))))))))))))))))))))))))))");
    b.code("01", "db " + Bench.times(500, "(") + "1" + Bench.times(500, ")"));
    b.code("f7", "db " + Bench.times(500, "-~") + "+(0 - 509)");
    b.fault("4@1", "db 1 / 0");
    b.fault("4@1", "db 1 % (2 - 2)");
    b.fault("1@1", "db 1 +");
    b.fault("1@1", "db (1");
    b.fault("1@1", "db 1)");
    b.fault("1@1", "db 1 2");
    b.fault("1@1", "db");
    b.fault("1@1", "db 1,");
    b.fault("1@1", "db ,1");
    b.fault("1@1", "db rax");
    b.fault("1@1", "db byte");
    b.fault("1@1", "db rep");
    b.fault("1@1", "db \"a\" + 1");
    b.fault("1@1", "dw \"a\"");
    b.fault("1@1", "db * 2");
  }

  private static void data() {
    b.code("01ff80", "db 1, 255, -128");
    b.fault("7@1", "db 256");
    b.fault("7@1", "db -129");
    b.code("ffff0080", "dw 65535, -32768");
    b.fault("7@1", "dw 65536");
    b.fault("7@1", "dw -32769");
    b.code("ffffffff00000080", "dd 0xffffffff, -0x80000000");
    b.fault("7@1", "dd 0x100000000");
    b.fault("7@1", "dd -0x80000001");
    b.code("efcdab8967452301", "dq 0x123456789abcdef - 0x0 + 0x0");
    b.code("", "db \"\"");
    b.code("6162016364", "db \"ab\", 1, \"cd\"");
    b.code("000000", "resb 3");
    b.code("", "resb 0");
    b.fault("7@1", "resb -1");
    b.fault("7@1", "resb 65537");
    b.fault("none", "resb 65536");
    b.code("01909090", "db 1", "align 4");
    b.code("01020304", "db 1, 2, 3, 4", "align 4");
    b.code("01", "db 1", "align 1");
    b.fault("7@1", "align 0");
    b.fault("7@1", "align 8192");
    b.fault("7@1", "align 6");
    b.fault("none", "align 4096");
    b.fault("1@1", "align");
    b.fault("1@1", "resb 1, 2");
    b.make("section data", "db 1", "align 4", "section bss", "resb 5", "align 8");
    b.due("data", b.bytes(0, 2), "01000000");
    b.due("bss", b.works.size(0, 3), 8);
    b.due("a byte of bss", b.works.octet(0, 3, 7), 0);
    b.fault("none", "section bss", "db \"\"");
    b.fault("2@2", "section bss", "db 1");
    b.fault("2@2", "section bss", "nop");
    b.fault("2@2", "section bss", "dd x");
    b.fault("2@2", "section bss", "jmp x");
  }

  private static void values() {
    b.code("0000000000000000", "dq x");
    b.code("00000000", "dd x + 5");
    b.code("00000000", "dd 5 + x - 3");
    b.code("0000000000000000", "a: dq $ - a");
    b.code("00000000", "a: dd b - a + 4", "b:");
    b.fault("4@1", "db x");
    b.fault("4@1", "dw x");
    b.fault("4@1", "dq 5 - x");
    b.fault("4@1", "dq x + y");
    b.fault("4@1", "dq -x");
    b.fault("4@1", "dq ~x");
    b.fault("none", "dq +x");
    b.fault("4@1", "dq x * 1");
    b.fault("4@1", "dq x | 0");
    b.fault("4@1", "dq x << 0");
    b.fault("4@1", "a: dq a - a - a");
    b.fault("4@1", "a: dq a + (a - a)");
    b.fault("none", "a: dq (a - $) + 1 - 2");
    b.fault("none", "a: dq 3 + (a - $)");
    b.fault("4@1", "a: x equ a - a");
    b.fault("4@1", "resb x");
    b.fault("4@1", "align x");
    b.fault("4@1", "x equ y");
    b.fault("4@1", "x equ x");
    b.fault("4@1", "x equ $");
    b.fault("4@1", "if x");
    b.fault("4@1", "rept x");
    b.code("0a", "x equ 3", "y equ x * 2 + 4", "db y");
    b.fault("4@1", "dq a - b", "a:", "section data", "b:");
    b.fault("4@2", "a: nop", "dq a - b");
    b.fault("4@2", "nop", "dq $ - b", "section data", "b:");
    b.fault("none", "dq a - b", "a:", "b:");
    b.fault("4@1", "mov eax, a - b");
    // A fault of a line goes ahead of the first span without a section.
    b.fault("2@2", "dq a - b", "foo");
  }

  private static void sections() {
    b.make("db 1", "section rodata", "db 2", "section data", "db 3", "section bss", "resb 1", "section text", "db 4");
    b.due("text", b.bytes(0, 0), "0104");
    b.due("rodata", b.bytes(0, 1), "02");
    b.due("data", b.bytes(0, 2), "03");
    b.due("bss", b.works.size(0, 3), 1);
    b.fault("1@1", "section code");
    b.fault("1@1", "section");
    b.fault("1@1", "section .text");
    b.fault("1@1", "section text data");
    b.fault("1@1", "section 5");
    b.fault("none", "text: rodata: data: bss: nop");
    b.fault("1@1", "keep 5");
    b.fault("none", "keep");
    b.fault("1@1", "global");
    b.fault("1@1", "global a b");
    b.fault("1@1", "global a,");
    b.fault("1@1", "weak 5");
    b.fault("none", "global a, b, .c", "weak a, d");
  }

  /** In one line the faults are looked for in their order. */
  private static void order() {
    b.fault("1@1", "add: foo \u0001");
    b.fault("6@1", "add: endif");
    b.fault("6@1", "add: if 1");
    b.fault("3@1", "add: foo");
    b.fault("3@1", "rax: foo");
    b.fault("3@1", "byte: foo");
    b.fault("3@1", "equ: foo");
    b.fault("3@1", "rep: foo");
    b.fault("2@1", "foo +");
    b.fault("2@1", "rax");
    b.fault("2@1", "byte 5");
    b.fault("2@1", "Nop");
    b.fault("1@1", "5");
    b.fault("1@1", ": nop");
    b.fault("1@1", "[rax]");
    b.fault("1@1", "mov rax, 5/0 +");
    b.fault("4@1", "mov [rax], 5/0");
    b.fault("4@1", "db 300, 5/0");
    b.fault("2@1", "mov [0x123456789], 5");
    b.fault("7@1", "mov byte [0x123456789], 5");
    b.fault("2@2", "section bss", "db 300");
    b.fault("4@2", "section bss", "db 5/0");
    b.fault("2@1", "foo", "5");
    b.fault("1@2", "nop", "5", "foo");
    // Only lines that are read have faults.
    b.fault("none", "if 0", "foo", "5 \u0001", Bench.times(1030, "x"), "endif");
    b.fault("none", "rept 0", "foo", "endr");
    b.fault("none", "macro m", "foo", "endm");
  }

  private static void newNames() {
    b.fault("3@2", "a:", "a equ 5");
    b.fault("3@2", "a equ 5", "a:");
    b.fault("3@2", "a equ 5", "a equ 5");
    b.fault("3@3", "macro a", "endm", "a:");
    b.fault("3@3", "macro a", "endm", "a equ 5");
    b.fault("3@3", "macro a", "endm", "macro a");
    b.fault("3@2", "a:", "macro a");
    b.fault("3@2", "a equ 5", "macro a");
    b.fault("3@1", "add equ 5");
    b.fault("3@1", "if equ 5");
    b.fault("3@1", "equ equ 5");
    b.fault("3@1", "rep equ 5");
    b.fault("3@1", "rax equ 5");
    b.fault("3@1", "macro add");
    b.fault("3@1", "macro qword");
    b.fault("3@1", "macro r8d");
    b.fault("3@2", "dq a", "a equ 5");
    b.fault("3@2", "global a", "a equ 5");
    b.fault("3@2", "weak a", "a equ 5");
    b.fault("3@2", "a equ 5", "global b, a");
    b.fault("3@2", "a equ 5", "weak a");
    b.fault("3@2", "a equ 5", "global b + a");
    b.fault("none", "dq a", "global a", "weak a", "a:");
    b.fault("none", "dq a", "macro a", "endm");
    b.fault("3@4", "x:", ".a:", "y:", "macro x.a");
    b.fault("none", "x:", ".a:", "macro .a", "endm");
    b.fault("1@1", "a equ");
    b.fault("1@1", "a equ 5 6");
    b.fault("2@1", "equ 5");
    b.fault("none", "b: a equ 5");
    b.fault("1@1", "macro");
    b.fault("1@1", "macro 5");
    b.fault("1@1", "macro m 5");
    b.fault("1@1", "macro m a b");
    b.fault("1@1", "macro m a,");
    b.fault("1@1", "macro m, a");
    b.fault("none", "macro m rax, if, .x, rax", "endm");
    b.fault("none", "global rax, add");
    b.fault("none", "dq add");
  }

  private static void room() {
    b.fault("none", "rept 4096", "db \"\"", "resb 0", "endr");
    b.fault("5@5", "rept 4096", "db \"\"", "align 1", "endr", "nop");
    b.fault("5@1", "rept 4096", "resb 0", "resb 0", "resb 0", "endr");
    String[] macro = {"macro m", "a\\@: endm_: nop", "endm"};
    b.fault("3@5", macro[0], macro[1], macro[2], "m", "m");
    b.fault("none", "macro m", "a\\@:", "endm", "rept 1024", "m", "endr");
    b.fault("5@7", "macro m", "a\\@:", "endm", "rept 1024", "m", "endr", "b:");
    b.fault("5@7", "macro m", "a\\@:", "endm", "rept 1024", "m", "endr", "global b");
    b.fault("5@7", "macro m", "a\\@:", "endm", "rept 1024", "m", "endr", "b equ 5");
    b.fault("5@7", "macro m", "a\\@:", "endm", "rept 1024", "m", "endr", "dq b");
    b.fault("5@7", "macro m", "a\\@:", "endm", "rept 1024", "m", "endr", "dq b + 1");
    b.fault("4@7", "macro m", "a\\@:", "endm", "rept 1024", "m", "endr", "dq b + c");
    b.fault("none", "macro m", "a\\@:", "endm", "rept 1024", "m", "endr", "dq a5");
    // A label without room is none: it is no second one, and no latest one.
    b.fault("2@7", "macro m", "a\\@:", "endm", "rept 1024", "m", "endr", "b: b: foo");
    b.fault("3@8", "macro m", "a\\@:", "endm", "rept 1023", "m", "endr", ".x:", "b: .x:");
    b.fault("2@7", "macro m", "a\\@:", "endm", "rept 1024", "m", "endr", "b: mov b");
    b.fault("none", "rept 4096", "dd x", "endr");
    b.fault("5@4", "rept 4096", "dd x", "endr", "dd x");
    b.fault("5@4", "rept 4096", "dd x", "endr", "jmp $");
    b.fault("none", "rept 4096", "jmp $", "endr");
    b.fault("5@4", "rept 4096", "jmp $", "endr", "jz $");
    b.fault("5@4", "rept 4096", "jmp $", "endr", "call x");
    b.fault("5@5", "rept 4095", "jmp $", "endr", "jmp $", "mov dword [x], 5");
    b.fault("5@4", "rept 4095", "jmp $", "endr", "mov dword [x], y");
    b.fault("none", "rept 2048", "mov dword [x], y", "endr");
    b.fault("none", "resb 65536", "section rodata", "resb 65536");
    b.fault("5@4", "resb 65536", "section rodata", "resb 65536", "db 1", "", "");
    b.fault("5@4", "resb 65536", "section rodata", "resb 65536", "nop", "", "");
    b.fault("5@4", "resb 65536", "section rodata", "resb 65536", "resb 1", "", "");
    b.fault("5@4", "resb 65536", "section rodata", "resb 65532", "call x", "", "");
    b.fault("none", "resb 65536", "section rodata", "resb 65536", "section bss", "resb 65536");
    b.fault("5@5", "resb 65536", "section rodata", "resb 65535", "nop", "nop");
    // Bytes of jumps and align show at the end: the first statement behind which a section is too long.
    b.fault("5@2", "resb 65535", "jmp $", "section rodata", "resb 65535");
    b.fault("5@5", "section data", "resb 65535", "section text", "resb 65535", "jz $ - 200", "nop");
    b.fault("5@6", "resb 65536", "section rodata", "resb 65535", "section data", "jmp $", "align 1");
    b.fault("5@3", "resb 65535", "align 4096", "db 1");
    b.fault("5@2", "resb 65535", "jmp $ + 99999", "align 4", "nop");
    b.fault("5@3", "section bss", "resb 65536", "resb 1", "resb 1");
    b.fault("none", "section bss", "resb 65536");
    moreUnits();
  }

  private static void moreUnits() {
    b.make("resb 65536");
    b.due("second", b.unit(false, "resb 65535", "section data"), 1);
    b.due("one byte is left", b.unit(false, "nop", "nop"), -1);
    b.due("kind", b.works.fault(0), 5);
    b.due("line", b.works.fault(1), 2);
    b.due("unit", b.works.fault(2), 2);
    b.due("a jump is told at the last line", b.unit(false, "jmp $", "", "; here"), -1);
    b.due("kind", b.works.fault(0), 5);
    b.due("line", b.works.fault(1), 3);
    b.due("third", b.unit(false, "nop"), 2);
    b.works.clear();
    b.due("room again", b.unit(false, "resb 65536", "section data", "resb 65536"), 0);
    b.due("none more", b.unit(false, "nop"), -1);
    b.works.clear();
    b.due("as many waits as can be", b.unit(false, "rept 4096", "dd x", "endr"), 0);
    b.works.clear();
    b.due("and again", b.unit(false, "rept 4096", "dd x", "endr"), 0);
    b.works.clear();
    b.due("as many statements as can be", b.unit(false, "rept 4096", "resb 0", "resb 0", "endr"), 0);
    b.works.clear();
    b.due("and again", b.unit(false, "rept 4096", "resb 0", "resb 0", "endr"), 0);
    b.works.clear();
    // A unit with a fault leaves no trace of what it named, defined or put.
    for (int i = 0; i < 3; i++) {
      b.due("a fault", b.unit(false, "macro m", "a\\@: dd -1, b", "endm", "rept 1000", "m", "endr",
          "section data", "resb 65536", "rept 3000", "dd b", "resb 0", "endr", "foo"), -1);
      b.due("kind", b.works.fault(0), 2);
    }
    b.due("after faults", b.unit(false, "macro m", "a\\@:", "endm", "rept 1023", "m", "endr", "rept 4095", "dd b",
        "resb 0", "endr", "dd b", "section data", "resb 65536"), 0);
    b.due("data is 0", b.works.octet(0, 2, 65535) + b.works.octet(0, 2, 0) + b.works.octet(0, 0, 0), 0);
    b.works.clear();
    b.due("minus ones", b.unit(false, "rept 4096", "dd -1", "endr"), 0);
    b.works.clear();
    b.due("nothing", b.unit(false, "resb 16384"), 0);
    b.due("shows of them", b.works.octet(0, 0, 0) + b.works.octet(0, 0, 16383), 0);
    b.make("rept 4095", "dd x", "endr");
    b.due("second", b.unit(false, "dd x"), 1);
    b.due("no room for what waits", b.unit(false, "nop", "dd x"), -1);
    b.due("line", b.works.fault(1), 2);
    for (int i = 2; i < 32; i++) {
      b.due("unit", b.unit(false, "nop"), i);
    }
    b.due("33rd", b.unit(false, "foo"), -1);
    b.due("kind", b.works.fault(0), 5);
    b.due("line", b.works.fault(1), 0);
    b.due("unit", b.works.fault(2), 32);
    b.due("tape", b.works.feed(0, 0, 0, 0, 0), 20);
  }

  private static void ends() {
    b.fault("6@1", "if 1");
    b.fault("6@2", "if 1", "", "");
    b.fault("6@2", "if 0", "foo");
    b.fault("6@3", "nop", "rept 2", "foo");
    b.fault("6@2", "macro m", "foo");
    b.fault("6@4", "if 1", "else", "foo", "foo");
    b.fault("2@2", "if 1", "foo");
    b.fault("6@1", "if 1\n");
    b.fault("6@2", "dq a - b", "if 1");
  }
}
