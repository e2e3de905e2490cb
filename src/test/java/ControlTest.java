/** Promise 3: if, rept and macro, and what is told of the lines that they read. */
public final class ControlTest {
  private static final Bench b = new Bench();

  public static void main(String[] args) {
    conditions();
    conditionFaults();
    repeats();
    macros();
    wordsByArguments();
    arguments();
    replacements();
    ends();
    nesting();
    lines();
    b.end();
  }

  private static void conditions() {
    b.code("01", "if 1", "db 1", "endif");
    b.code("", "if 0", "db 1", "endif");
    b.code("0104", "if -1", "db 1", "else", "db 2", "endif", "db 4");
    b.code("0204", "if 0", "db 1", "else", "db 2", "endif", "db 4");
    b.code("02", "x equ 5", "if x - 5", "db 1", "else", "if x", "db 2", "else", "db 3", "endif", "endif");
    b.code("03", "if 0", "if 1", "else", "endif", "db 1", "else", "db 3", "endif");
    b.code("03", "\t if 0", " rept 2", " endif", " db 3");
    b.code("03", "if 0", "macro m", "endif", "db 3");
    b.code("", "if 0", "iff", "elsewhere", "endif_x", "else.", "endif");
    b.code("07", "if 0", "x: endif", "y: else", "endif", "db 7");
    b.code("07", "if 0", "endif: foo", "db 7");
    b.code("07", "if 0", "endif(", "db 7");
    b.code("0708", "if 0", "if (", "else", "endif;", "else: 5", "db 7", "endif", "db 8");
  }

  private static void conditionFaults() {
    b.fault("1@1", "if");
    b.fault("1@1", "if 1 2", "endif");
    b.fault("1@2", "if 1", "endif 5");
    b.fault("1@2", "if 1", "else 5", "endif");
    b.fault("none", "if 0", "endif 5");
    b.fault("none", "if 1", "else", "endif 5");
    b.fault("1@3", "if 0", "else 5", "endif 5");
    b.fault("6@1", "endif");
    b.fault("6@1", "else");
    b.fault("6@1", "endif 5");
    b.fault("6@1", "x: if 1", "endif");
    b.fault("6@2", "if 1", "x: endif");
    b.fault("6@3", "if 0", "else", "else", "endif");
    b.fault("none", "if 1", "else", "else", "endif");
  }

  private static void repeats() {
    b.code("010101", "rept 3", "db 1", "endr");
    b.code("", "rept 0", "db 1", "endr");
    b.code("0102020102" + "0203", "rept 2", "db 1", "rept 2", "db 2", "endr", "endr", "db 3");
    b.code("0101", "rept 2", "if 1", "db 1", "else", "db 2", "endif", "endr");
    b.code("01", "rept 1", "db 1", "endr foo");
    b.code("", "rept 4096", "endr");
    b.code("", "rept 4096", "rept 4096", "endr", "endr");
    b.fault("7@1", "rept 4097", "endr");
    b.fault("7@1", "rept -1", "endr");
    b.fault("1@1", "rept", "endr");
    b.fault("1@1", "rept 1, 2", "endr");
    b.fault("6@1", "endr");
    b.fault("6@1", "x: rept 1", "endr");
    b.fault("2@2", "nop", "rept 2", "nop", "foo", "endr");
    b.fault("3@2", "nop", "rept 2", "x: nop", "endr");
    b.fault("6@1", "rept 2", "if 1", "endr", "endif");
    b.fault("6@1", "rept 1", "if 0", "endr", "endif");
    b.fault("6@2", "if 1", "rept 1", "endif", "endr");
    b.fault("6@2", "if 1", "rept 1", "else", "endr", "endif");
    b.fault("6@1", "rept 1", "macro m", "endm", "endr");
    b.fault("none", "rept 0", "macro m", "endm", "endr");
    b.fault("1@1", "rept 1", "if", "endif", "endr");
    b.fault("6@1", "rept 1", "if", "endr");
  }

  private static void macros() {
    b.code("0102", "macro m", "db 1", "db 2", "endm", "m");
    b.code("0505", "macro m a", "db \\a", "endm", "m 5", "x: m 5");
    b.code("070807", "macro m a, b", "db \\a, \\b", "endm", "macro n x", "m \\x, 8", "db \\x", "endm", "n 7");
    // n is 0; m is 1, n in it 2; m is 3, n in it 4.
    b.code("00" + "010201" + "030403", "macro m", "db \\@", "n", "db \\@", "endm", "macro n", "db \\@", "endm",
        "n", "m", "m");
    b.code("ebfeebfe", "macro m", "l\\@: jmp l\\@", "endm", "m", "m");
    b.make("macro m", "db \\@", "endm", "m", "m");
    b.due("counted anew in each unit", b.unit(false, "macro m", "db \\@", "endm", "m"), 1);
    b.due("the first is 0", b.bytes(1, 0), "00");
    b.due("macros of a unit are its own", b.unit(false, "m"), -1);
    b.fault("2@1", "m", "macro m", "endm");
    b.fault("6@4", "macro m", "macro n", "endm", "m");
    b.fault("6@1", "endm");
    b.fault("6@1", "x: macro m", "endm");
    b.code("03", "macro m", "if 0", "endm", "db 3");
    b.fault("6@4", "macro m", "if 0", "endm", "m", "endif");
    b.fault("6@4", "macro m", "if 1", "endm", "m", "endif");
    b.fault("6@4", "macro m", "rept 1", "endm", "m", "endr");
    b.fault("6@4", "macro m", "rept foo +", "endm", "m", "endr");
    b.fault("6@4", "macro m", "endif", "endm", "m");
    b.fault("6@5", "macro m", "endif", "endm", "if 1", "m", "endif");
    b.fault("6@4", "macro m", "endr", "endm", "m");
    b.fault("2@4", "macro m", "foo", "endm", "m");
    b.fault("1@4", "macro m", "db \\x", "endm", "m");
    b.code("03020a", "macro m n", "if \\n - 1", "db \\n", "m \\n - 1", "endif", "endm", "m 3", "db 10");
  }

  /** The words of if, rept and macro may come by arguments; their ends are found as the source stands. */
  private static void wordsByArguments() {
    b.code("0103", "macro m w", "\\w 1", "db 1", "else", "db 2", "endif", "db 3", "endm", "m if");
    b.code("0101", "macro m w", "\\w 2", "db 1", "endr", "endm", "m rept");
    b.fault("6@4", "macro m w", "\\w", "endm", "m endr");
    b.fault("6@4", "macro m w", "\\w n", "endm", "m macro");
    b.code("0105", "macro m w", "if 1", "\\w 1", "db 1", "endif", "endm", "m if", "db 5");
  }

  private static void arguments() {
    String[] m = {"macro m a, b, c", "db \\a 0, \\b 0, \\c 9", "endm"};
    b.code("000009", m[0], m[1], m[2], "m 1 *, 2 *");
    b.code("010209", m[0], m[1], m[2], "m  1 +\t,\t2 +  ; , 7");
    b.code("000009", m[0], m[1], m[2], "m");
    b.code("000009", m[0], m[1], m[2], "m ; nothing");
    b.code("000009", m[0], m[1], m[2], "m ,,");
    b.code("000009" + "030009", m[0], m[1], m[2], "m ,,", "m 3 +");
    b.code("010209" + "000009", m[0], m[1], m[2], "m 1 +, 2 +", "m");
    b.fault("6@4", m[0], m[1], m[2], "m ,,,");
    b.fault("6@3", "macro n", "endm", "n 1");
    b.fault("6@3", "macro n", "endm", "n ,");
    b.fault("6@3", "macro n", "endm", "add: n 1");
    b.fault("1@3", "macro n", "endm", "n ?");
    b.fault("1@3", "macro n a", "endm", "n 'a'b");
    b.fault("1@5", "macro n a", "db \\a", "endm", "n 5", "db \\a");
    b.code("2c3b0b", "macro m a", "db \\a", "endm", "m (',')", "m ';'", "db 11");
    b.code("2c", "macro m a", "db \\a", "endm", "m ','");
    b.code("612c62", "macro m a", "db \\a", "endm", "m \"a,b\"");
    b.code("8b04888b0c88", "macro m a, b", "mov \\a, \\b", "endm", "m eax, [rax + rcx*4]", "m ecx, [rax + rcx*4]");
    // What closes nothing does not matter; ) and ] close either of ( and [.
    String[] second = {"macro m a, b", "if 0", "\\a", "endif", "db \\b", "endm"};
    b.code("05", second[0], second[1], second[2], second[3], second[4], second[5], "m ) ], 5");
    b.code("05", second[0], second[1], second[2], second[3], second[4], second[5], "m ( 1, 2 ], 5");
    b.code("05", second[0], second[1], second[2], second[3], second[4], second[5], "m [ ( 1, 2 ) , 3 ), 5");
    b.fault("6@3", "macro m a", "endm", "m ( 1 ) ), 5");
    b.fault("none", "macro m a", "endm", "m ( 1 , 5");
    b.code("0f", "macro m a", "db \\a", "endm", "m(15)");
    b.code("0f", "macro m a, b", "db \\b", "endm", "m,15");
  }

  private static void replacements() {
    b.code("0c0d", "macro m a, ab", "db \\a, \\ab", "endm", "m 12, 13");
    b.code("0d0c", "macro m ab, a", "db \\a, \\ab", "endm", "m 12, 13");
    // What follows the longest that fits stays behind it.
    b.code("785a", "macro m a, ab", "db \\a0, \\ab0", "endm", "m 12, 9");
    b.code("01", "macro m a, a", "db \\a", "endm", "m 1, 2");
    b.code("3163", "macro m a", "db \"\\a\", 'c' ; \\a", "endm", "m 1");
    b.code("61", "macro m n", "db '\\n'", "endm", "m a");
    b.code("0a", "macro m a", "db '\\n'", "endm", "m 5");
    // Each \\ is looked at by itself: the first one stays, the second has a parameter behind it.
    b.code("61", "macro m n", "db '\\\\n'", "endm", "m a");
    b.code("5c", "macro m n", "db '\\\\'", "endm", "m a");
  }

  private static void ends() {
    b.code("0102", "macro m", "rept 2", "db 1", "if 0", "endr", "endif", "endm", "db 1, 2");
    b.fault("6@8", "macro m", "rept 2", "db 1", "if 0", "endr", "endif", "endm", "m");
    b.code("01", "macro m", "macro n", "endm", "db 1");
    b.fault("6@4", "macro m", "macro n", "endm", "endm");
  }

  private static void nesting() {
    b.code("01", Bench.times(20, "if 1\n") + "db 1\n" + Bench.times(20, "endif\n"));
    b.fault("6@21", Bench.times(21, "if 1\n") + "db 1\n" + Bench.times(21, "endif\n"));
    b.fault("6@21", Bench.times(20, "if 1\n") + "rept 0\nendr\n" + Bench.times(20, "endif\n"));
    b.fault("6@21", Bench.times(20, "if 1\n") + "if 0\nendif\n" + Bench.times(20, "endif\n"));
    b.fault("6@23", "macro m\nendm\n" + Bench.times(20, "if 1\n") + "m\n" + Bench.times(20, "endif\n"));
    b.fault("none", "macro m\nendm\n" + Bench.times(19, "if 1\n") + "m\nm\n" + Bench.times(19, "endif\n"));
    b.fault("none", Bench.times(20, "if 0\nelse\n") + Bench.times(20, "endif\n"));
    b.fault("6@41", Bench.times(21, "if 0\nelse\n") + Bench.times(21, "endif\n"));
    b.code("01", Bench.times(20, "rept 1\n") + "db 1\n" + Bench.times(20, "endr\n"));
    b.fault("6@1", Bench.times(21, "rept 1\n") + "db 1\n" + Bench.times(21, "endr\n"));
    b.fault("6@4", "macro m", "m", "endm", "m");
    // Ten macros and ten times if are 20.
    b.code("090807060504030201", "macro m n", "if \\n", "db \\n", "m \\n - 1", "endif", "endm", "m 9");
    b.fault("6@7", "macro m n", "if \\n", "db \\n", "m \\n - 1", "endif", "endm", "m 10");
  }

  private static void lines() {
    // Of 65536 lines rept is one, and the rest are those that it reads and those behind it.
    b.fault("none", "rept 4095\n" + Bench.times(16, "\n") + "endr\n" + Bench.times(15, "\n"));
    b.fault("5@34", "rept 4095\n" + Bench.times(16, "\n") + "endr\n" + Bench.times(16, "\n"));
    b.fault("5@1", "rept 4096\n" + Bench.times(16, "\n") + "endr\n");
    b.fault("none", "rept 4095\nif 1\n" + Bench.times(14, "\n") + "else\nfoo\nendif\nendr\n" + Bench.times(15, "\n"));
    b.fault("5@36", "rept 4095\nif 1\n" + Bench.times(14, "\n") + "else\nfoo\nendif\nendr\n" + Bench.times(16, "\n"));
    b.fault("none", "rept 4095\nif 0\nfoo\nendif\n" + Bench.times(15, "\n") + "endr\n" + Bench.times(15, "\n"));
    b.fault("5@36", "rept 4095\nif 0\nfoo\nendif\n" + Bench.times(15, "\n") + "endr\n" + Bench.times(16, "\n"));
    // The length counts in the source and as read.
    String longest = "db 1 ;" + Bench.times(1018, "x");
    b.fault("none", "macro m a", longest, "endm", "m");
    b.fault("5@4", "macro m a", longest + "x", "endm", "m");
    b.fault("none", "macro m a", longest.substring(0, 1020) + "\\a", "endm", "m 1234");
    b.fault("5@4", "macro m a", longest.substring(0, 1020) + "\\a", "endm", "m 12345");
    b.fault("5@4", "macro m a", longest + "\\a", "endm", "m");
    b.fault("none", "macro m a", longest + "x", "endm");
    // Of lines that are read within others the outermost line is told.
    b.fault("2@7", "macro m", "rept 2", "foo", "endr", "endm", "nop", "m");
    b.make("global start", "macro m", "nop", "nop", "endm", "start:", "m", "rept 2", "m", "endr", "nop");
    b.due("link", b.link(), true);
    int[] due = {7, 7, 8, 8, 8, 8, 11};
    for (int i = 0; i < 7; i++) {
      b.due("where " + i, b.works.where(0x400000 + i), due[i]);
    }
  }
}
