/** Promise 3, FAULTS: what there is room for, in a unit and in all units that are there, and how long sections may be. */
public final class RoomEdgesTest {
  private static final Bench b = new Bench();
  private static final String[] SECTIONS = {"text", "rodata", "data", "bss"};

  public static void main(String[] args) {
    statements();
    statementsOfAll();
    symbols();
    symbolsOfAll();
    noLabel();
    waits();
    waitsOfAll();
    bytes();
    bytesOfAll();
    bytesAtTheEnd();
    putBytes();
    sections();
    order();
    b.end();
  }

  /** A statement, 4096 times and once more. */
  private static void statements() {
    b.about("5: more than 8192 statements with bytes (also 0 of them: db to align, instructions)");
    String[] counted = {"db 1", "db \"\"", "dw 1", "dd 1", "dq 1", "resb 0", "resb 1", "align 1", "nop", "jmp $", "jz $", "ret",
        "mov eax, 5", "rep movsb", "db 1, 2, 3"};
    for (String one : counted) {
      b.fault("none", "rept 4095", "db \"\"", "resb 0", "endr", "db \"\"", one);
      b.fault("5@7", "rept 4095", "db \"\"", "resb 0", "endr", "db \"\"", one, one);
      b.fault("5@8", "rept 4095", "db \"\"", "resb 0", "endr", "db \"\"", one, "", "nop");
    }
    b.fault("none", "section bss", "rept 4096", "resb 0", "align 1", "endr");
    b.fault("5@6", "section bss", "rept 4096", "resb 0", "align 1", "endr", "resb 0");
    b.about("5: others are no statements with bytes");
    String[] others = {"x:", "x equ 5", "section data", "global x", "weak x", "keep", "if 1\nendif", "rept 0\nendr",
        "macro m\nendm", "", "; db 5"};
    for (String one : others) {
      b.fault("none", "rept 4096", "db \"\"", "resb 0", "endr", one);
    }
  }

  private static void statementsOfAll() {
    b.about("5: statements in all units that are there");
    b.fresh();
    b.taken(0, "rept 4096", "resb 0", "endr");
    b.taken(1, "rept 4095", "resb 0", "endr");
    b.refused(5, 2, 2, "nop", "nop");
    b.refused(5, 2, 2, "nop", "db \"\"");
    b.taken(2, "nop");
    b.refused(5, 1, 3, "resb 0");
    b.taken(3, "x:");
    b.works.clear();
    b.taken(0, "rept 4096", "resb 0", "nop", "endr");
    b.refused(5, 1, 1, "nop");
    b.about("5: a unit with a fault is not there");
    b.works.clear();
    b.refused(2, 4, 0, "rept 4096", "nop", "endr", "foo");
    b.taken(0, "rept 4096", "resb 0", "nop", "endr");
  }

  private static void symbols() {
    b.about("5: more than 1024 symbols (labels, what equ, global, weak name or an expression names)");
    String[] head = {"macro m", "a\\@:", "endm", "rept 1023", "m", "endr"};
    String[] ones = {"x:", "x equ 5", "global x", "weak x", "dq x", "dq 5 + x - 2", "mov eax, [rbx + x]", "mov eax, [rel x]",
        "mov eax, x", "push x", "jmp x", "jz x", "call x", ".x:", "dq add", "global rax"};
    for (String one : ones) {
      String all = String.join("\n", head) + "\n";
      b.fault("none", all + one);
      b.fault("5@8", all + "y:\n" + one);
      b.fault("5@8", all + one + "\ny:");
    }
    String[] last = {"global x, y", "weak x, y", "x: y:", "dq x, y", "mov dword [x], y", "x: global y"};
    for (String one : last) {
      b.fault("5@7", String.join("\n", head) + "\n" + one);
    }
    b.about("5: one that is there already is no more");
    b.fault("none", String.join("\n", head) + "\nx: global x, a1, a2\nweak x\ndq x, a0, x - a1\njmp x");
    b.about("5: names of macros and P, and registers, are none");
    b.fault("none", String.join("\n", head) + "\nx:\nmacro y z\nendm\ny 5\nmov rax, [rbx]");
    b.fault("none", String.join("\n", head) + "\nx:\nif 0\nglobal y\nelse\nendif\nrept 0\ny:\nendr");
  }

  private static void symbolsOfAll() {
    b.about("5: symbols by units, in all units that are there");
    b.fresh();
    b.taken(0, "macro m", "a\\@:", "endm", "rept 1000", "m", "endr");
    b.refused(5, 7, 1, "macro m", "a\\@:", "endm", "rept 24", "m", "endr", "a24:");
    b.taken(1, "macro m", "a\\@:", "endm", "rept 22", "m", "endr");
    b.refused(5, 1, 2, "a0: a1: a2: nop");
    b.taken(2, "global a0", "weak a1");
    b.refused(5, 1, 3, "global a0");
    b.taken(3, "nop");
    b.works.clear();
    b.taken(0, "macro m", "a\\@:", "endm", "rept 1024", "m", "endr");
    b.refused(5, 1, 1, "b:");
    b.works.clear();
    b.refused(2, 7, 0, "macro m", "a\\@:", "endm", "rept 1024", "m", "endr", "foo");
    b.taken(0, "macro m", "b\\@:", "endm", "rept 1024", "m", "endr");
  }

  private static void noLabel() {
    b.about("5: a label that has no room counts as none in its line, also ahead of a LOCAL one");
    String full = "macro m\na\\@:\nendm\nrept 1024\nm\nendr\n";
    b.fault("5@7", full + "x: x:");
    b.fault("5@7", full + "x: x: nop");
    b.fault("2@7", full + "x: x: foo");
    b.fault("1@7", full + "x: nop +");
    b.fault("6@7", full + "x: endif");
    b.fault("3@7", full + "x: a0:");
    b.fault("3@7", full + "x: add:");
    b.fault("4@7", full + "x: dq 1 / 0");
    b.fault("7@7", full + "x: db 256");
    b.fault("5@7", full + "x: x equ 5");
    b.fault("5@7", full + "x: .y:");
    // The latest label is a1023: with x as none there is a1023.y already.
    String local = "macro m\na\\@:\nendm\nrept 1023\nm\nendr\n.y:\n";
    b.fault("3@8", local + "x: .y:");
    b.fault("3@8", local + "x: .y equ 5");
    b.fault("5@8", local + "x: .z:");
  }

  private static void waits() {
    b.about("5: more than 4096 values that WAIT and distances of jmp and jC (short ones, too)");
    String[] ones = {"dd x", "dq x", "dd $", "dq $ - $", "mov eax, x", "mov rax, x", "mov eax, [x]", "mov eax, [rbx + x]",
        "mov eax, [rel x]", "mov eax, [rel 5]", "push x", "call x", "call $", "call 5", "jmp $", "jmp x", "jmp 5", "jz $", "jz x",
        "jmp $ - $", "lea rax, [rel $]", "add rax, x"};
    for (String one : ones) {
      b.fault("none", "rept 4095", "dd x", "endr", one);
      b.fault("5@4", "rept 4096", "dd x", "endr", one);
    }
    b.fault("none", "rept 4096", "jmp $", "endr");
    b.fault("5@4", "rept 4096", "jmp $", "endr", "jnz $");
    b.fault("none", "rept 4094", "dd x", "endr", "mov dword [x], x");
    b.fault("5@4", "rept 4095", "dd x", "endr", "mov dword [x], x");
    b.fault("5@4", "rept 4095", "dd x", "endr", "dq x, 1, x");
    b.about("5: constants don't WAIT");
    String[] others = {"dd 5", "dq 5", "mov eax, 5", "mov rax, [rbx + 1000]", "push 5", "ret 5", "jmp rax", "call [rbx]",
        "mov eax, [5]", "shl eax, 5", "c equ 5\ndq c"};
    for (String one : others) {
      b.fault("none", "rept 4096", "dd x", "endr", one);
    }
    b.fault("none", "rept 4096", "mov eax, 5", "endr", "dd x", "mov eax, [rbx + 5]");
    b.fault("none", "rept 4096", "mov eax, [rbx + 5]", "endr", "dd x");
  }

  private static void waitsOfAll() {
    b.about("5: what WAITs in all units that are there, short jumps, too");
    b.fresh();
    b.taken(0, "rept 4000", "jmp $", "endr");
    b.taken(1, "rept 95", "dd x", "endr");
    b.refused(5, 2, 2, "dd x", "dd x");
    b.refused(5, 1, 2, "dd x, 5, x");
    b.taken(2, "dd x");
    b.refused(5, 2, 3, "dd 5", "jz $");
    b.taken(3, "dd 5");
    b.works.clear();
    b.refused(7, 4, 0, "rept 4096", "dd x", "endr", "db 256");
    b.taken(0, "rept 4096", "dd x", "endr");
  }

  private static void bytes() {
    b.about("5: more than 131072 bytes of text, rodata and data");
    String full = "resb 65536\nsection rodata\nresb 65535\nsection data\n";
    b.fault("none", full + "db 1");
    b.fault("none", full + "resb 1\n\n");
    String[] ones = {"db 1, 2", "dw 1", "dd x", "dq 5", "resb 2", "mov eax, 5", "call x", "push 5"};
    for (String one : ones) {
      b.fault("5@5", full + one + "\n\nsection text");
    }
    b.fault("5@6", full + "nop\nnop\n");
    b.fault("5@6", full + "db 1\nresb 1\n");
    b.fault("none", full + "db 1\nresb 0\ndb \"\"\nalign 1");
    b.about("5: bss has none of them");
    b.fault("none", full + "db 1\nsection bss\nresb 65536");
    b.about("5: without those of jmp and jC of E, and of align: they show at the last line");
    b.fault("5@7", full + "jmp $\n\n;");
    b.fault("5@7", full + "jz $\n\n;");
    b.fault("5@7", full + "db 1\nalign 2\n;");
    b.fault("2@6", full + "jmp $\nfoo");
    b.fault("5@6", full + "jmp $\ndb 1, 2");
    b.about("5: jmp and call to what is no E, and call of E, are counted");
    b.fault("5@5", full + "jmp rax\n\n;");
    b.fault("5@5", full + "call x\n\n;");
  }

  private static void bytesOfAll() {
    b.about("5: bytes in all units that are there");
    b.fresh();
    b.taken(0, "resb 65536");
    b.taken(1, "section data", "resb 65535", "section bss", "resb 65536");
    b.refused(5, 3, 2, "", "nop", "nop", "");
    b.refused(5, 1, 2, "dw 5", "");
    b.refused(5, 3, 2, "jmp $", "", ";");
    b.refused(5, 3, 2, "db 5", "align 2", ";");
    b.refused(5, 2, 2, "jmp $", "db 5, 6", ";");
    b.taken(2, "nop");
    b.refused(5, 1, 3, "nop", "");
    b.refused(5, 2, 3, "jmp $", ";");
    b.taken(3, "section bss", "resb 65536");
    b.taken(4, "x:");
    b.due("the last byte", b.works.octet(2, 0, 0), 0x90);
    b.works.clear();
    b.taken(0, "resb 65536", "section rodata", "resb 65536");
    b.refused(5, 1, 1, "db 1", "", "");
    b.works.clear();
    b.refused(2, 4, 0, "resb 65536", "section rodata", "resb 65536", "foo");
    b.taken(0, "resb 65536", "section rodata", "resb 65536");
  }

  private static void bytesAtTheEnd() {
    b.about("5 at the last line, if text, rodata and data of all units have more than 131072 bytes");
    b.fresh();
    b.taken(0, "resb 65536", "section rodata", "resb 65500");
    b.taken(1, "align 4096");
    b.taken(2, "db 1", "align 32");
    b.taken(3, "jmp $", "jz $");
    b.refused(5, 3, 4, "jmp $", "", ";");
    b.refused(5, 4, 4, "db 1", "align 2", "", ";");
    b.refused(5, 2, 4, "db 1", ";");
    b.works.clear();
    b.taken(0, "section data", "resb 65534", "section rodata", "resb 65536");
    b.refused(5, 2, 1, "jmp $ + 200", ";");
    b.taken(1, "jmp $ + 100");
    b.refused(5, 1, 2, "jmp $");
    b.refused(5, 1, 2, "nop", "");
    b.taken(2, "section bss", "resb 4", "align 4096");
    b.about("5: what such a unit had is room again, and no more than that");
    b.works.clear();
    b.taken(0, "resb 65536", "section data", "resb 60000");
    for (int i = 0; i < 30; i++) {
      b.refused(5, 3, 1, "resb 5536", "jmp $", ";");
    }
    b.refused(5, 2, 1, "resb 5536", "nop", "");
    b.taken(1, "resb 5535", "nop");
    b.refused(5, 1, 2, "nop", "");
  }

  /** As many bytes as there can be are all there. */
  private static void putBytes() {
    b.about("STATEMENTS: bytes, as many as there is room for");
    b.fresh();
    for (int i = 0; i < 3; i++) {
      b.taken(0, "rept 4096", "dq -1, -2", "endr", "section data", "rept 4096", "dq -3, -4", "endr");
      b.due("size", b.works.size(0, 0) + b.works.size(0, 2), 131072);
      for (int k = 0; k < 65536; k += 8192) {
        b.due("text", b.works.octet(0, 0, k), 255);
        b.due("text", b.works.octet(0, 0, k + 8), 254);
        b.due("data", b.works.octet(0, 2, k), 253);
        b.due("data", b.works.octet(0, 2, k + 8), 252);
      }
      b.due("last of text", b.works.octet(0, 0, 65535), 255);
      b.due("last of data", b.works.octet(0, 2, 65535), 255);
      b.works.clear();
    }
    String wide = "dq " + Bench.times(15, "-1, ") + "-1";
    b.taken(0, "rept 4096", "nop", "endr", "rept 3000", "nop", "endr", "section rodata", "rept 480", wide, "endr", "section data",
        "rept 480", wide, "endr");
    for (int s = 0; s < 3; s++) {
      int size = s == 0 ? 7096 : 61440;
      b.due("size", b.works.size(0, s), size);
      b.due("first", b.works.octet(0, s, 0), s == 0 ? 0x90 : 255);
      b.due("last", b.works.octet(0, s, size - 1), s == 0 ? 0x90 : 255);
    }
    for (int i = 0; i < 20; i++) {
      b.works.clear();
      b.refused(2, 4, 0, "rept 4096", "dq -1, -1", "endr", "foo");
      b.taken(0, "resb 5", "db 7");
      b.due("0", b.works.octet(0, 0, 4), 0);
      b.due("7", b.works.octet(0, 0, 5), 7);
    }
  }

  private static void sections() {
    b.about("5 for the first statement behind which a section has more than 65536 bytes");
    for (int s = 0; s < 4; s++) {
      String head = "section " + SECTIONS[s];
      b.fault("none", head, "resb 65536");
      b.fault("none", head, "resb 65535", "resb 1");
      b.fault("none", head, "resb 65536", "resb 0", "align 4096");
      b.fault("5@3", head, "resb 65536", "resb 1", "resb 0");
      b.fault("5@4", head, "resb 65535", "resb 1", "resb 1");
      b.fault("5@4", head, "resb 1", "align 2", "resb 65535");
      b.fault("none", head, "resb 1", "align 2", "resb 65534");
      b.fault("5@3", head, "resb 61441", "resb 4096");
      b.fault("none", head, "resb 61441", "align 4096");
      b.fault("none", head, "resb 61440", "align 4096", "resb 4096");
      b.fault("5@4", head, "resb 61441", "align 4096", "resb 1");
    }
    b.fault("none", "resb 65535", "nop");
    b.fault("5@3", "resb 65535", "nop", "nop");
    b.fault("5@2", "resb 65535", "dw 5");
    b.fault("none", "resb 65534", "jmp $");
    b.fault("5@2", "resb 65535", "jmp $");
    b.fault("none", "resb 65531", "jmp x");
    b.fault("5@2", "resb 65532", "jmp x");
    b.about("5: the first statement, whatever its section");
    b.fault("5@6", "section data", "resb 65536", "section bss", "resb 65536", "section data", "db \"\", 1", "section bss", "resb 1");
    b.fault("5@6", "section data", "resb 65536", "section bss", "resb 65536", "resb 0", "resb 1", "section data", "db 1");
    b.about("5: behind a SPAN whose places are not in one section");
    b.fault("4@4", "section bss", "resb 65536", "section data", "dq x - y", "section bss", "resb 1");
    b.fault("4@5", "section bss", "resb 65536", "resb 1", "section data", "dq x - y");
    b.about("5: ahead of the bytes of all units");
    b.fault("5@5", "resb 65536", "section data", "resb 65535", "section text", "jmp $", "section data", "jmp $", "");
  }

  private static void order() {
    b.about("5 ROOM is looked for behind all others in a line");
    String full = "rept 4096\nresb 0\nresb 0\nendr\n";
    String[] kinds = {"1", "6", "3", "2", "1", "4", "2", "7"};
    String[] lines = {"db \u0001", "endif", "add: nop", "foo", "nop +", "db 1 / 0", "mov [rax], 5", "db 256"};
    for (int i = 0; i < kinds.length; i++) {
      b.fault(kinds[i] + "@5", full + lines[i]);
    }
    b.fault("5@5", full + "db 1");
    b.about("ahead of what is told behind all lines");
    b.fault("5@8", full + "section data\nif 1\n\ndb 1\n\n");
  }
}
