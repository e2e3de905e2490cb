/** Promise 3, if, rept and macro: the edges of their words, of what they read, and of what they replace. */
public final class ControlEdgesTest {
  private static final Bench b = new Bench();

  public static void main(String[] args) {
    conditions();
    elses();
    repeats();
    words();
    goneThrough();
    sameLines();
    twenty();
    arguments();
    missingArguments();
    closing();
    parameters();
    counts();
    stays();
    macroNames();
    mostLines();
    tellsOutermost();
    ends();
    b.end();
  }

  private static void conditions() {
    b.about("if: the first if E is not 0");
    String[] holds = {"1", "-1", "2", "1 << 63", "0xffffffffffffffff", "1 << 32", "0x100"};
    for (String e : holds) {
      b.code("01", "if " + e, "db 1", "else", "db 2", "endif");
    }
    for (String e : new String[] {"0", "-0", "1 - 1", "1 << 63 << 1", "0x8000000000000000 * 2"}) {
      b.code("02", "if " + e, "db 1", "else", "db 2", "endif");
    }
    b.about("if: else may be missing");
    b.code("0103", "if 1", "db 1", "endif", "db 3");
    b.code("03", "if 0", "db 1", "endif", "db 3");
    b.about("if: no lines between");
    b.code("03", "if 1", "endif", "db 3");
    b.code("03", "if 0", "endif", "db 3");
    b.code("03", "if 1", "else", "endif", "db 3");
    b.code("03", "if 0", "else", "endif", "db 3");
  }

  private static void elses() {
    b.about("if: else and endif that are read stand alone, else fault 1");
    for (String behind : new String[] {" 1", " x", " nop", ":", ",", " else", " endif", "(", " equ"}) {
      String want = behind.equals(":") || behind.equals(" equ") ? "3" : "1";
      b.fault(want + "@2", "if 1", "else" + behind, "endif");
      b.fault(want + "@2", "if 1", "endif" + behind, "endif");
      b.fault("none", "if 0", "foo", "else" + behind, "endif");
      b.fault("none", "if 0", "foo", "endif" + behind);
      b.fault("none", "if 1", "else", "foo", "endif" + behind);
      b.fault(want + "@4", "if 0", "else", "nop", "endif" + behind, "endif");
    }
    b.code("01", "if 1 ; x", "db 1", "else ; x", "db 2", "endif ; x");
    b.about("if: endr, endm and what one goes on behind are not looked at");
    b.code("0101", "rept 2", "db 1", "endr foo \u0001 '");
    b.code("05", "macro m", "db 5", "endm foo \u0001 '", "m");
    b.code("02", "if 0", "else \u0001 '", "db 2", "endif");
    b.code("02", "if 1", "db 2", "else", "endif \u0001 '");
    b.code("", "if 0", "endif \u0001" + Bench.times(2000, "x"));
    b.about("6: a second else that is read");
    b.fault("6@4", "if 0", "else", "nop", "else", "endif");
    b.fault("6@4", "if 0", "else", "nop", "else foo", "endif");
    b.fault("none", "if 1", "nop", "else", "else", "else", "endif");
    b.code("0204", "if 0", "db 1", "else", "if 0", "db 3", "else", "db 2", "endif", "db 4", "endif");
    b.about("6: an end or else without a beginning");
    b.fault("6@1", "else");
    b.fault("6@1", "endif");
    b.fault("6@1", "endr");
    b.fault("6@1", "endm");
    b.fault("6@3", "if 1", "endif", "endif");
    b.fault("6@3", "if 1", "endif", "else");
    b.fault("6@4", "if 1", "else", "endif", "else");
    b.fault("6@3", "rept 2", "endr", "endr");
    b.fault("6@3", "macro m", "endm", "endm");
    b.fault("6@1", "endr foo +");
    b.fault("6@1", "endm 5");
    b.fault("6@2", "if 1", "endr", "endif");
  }

  private static void repeats() {
    b.about("rept: the lines between are read so many times, 0 .. 4096");
    for (int times : new int[] {0, 1, 2, 4095, 4096}) {
      b.make("rept " + times, "db 1", "endr");
      b.due("times", b.works.size(0, 0), times);
    }
    for (String times : new String[] {"4097", "-1", "1 << 63", "1 << 32", "0x100000001", "65536", "-4096"}) {
      b.fault("7@1", "rept " + times, "db 1", "endr");
    }
    b.about("rept: E is looked at even where it is read not at all");
    b.fault("7@1", "rept 4097", "endr");
    b.fault("1@1", "rept", "endr");
    b.about("rept: no lines between, and 0 times");
    b.code("07", "rept 4096", "endr", "db 7");
    b.code("07", "rept 0", "foo \u0001", "endr", "db 7");
    b.code("07", "rept 0", "rept 5", "endr", "foo", "endr", "db 7");
  }

  private static void words() {
    b.about("the words if else endif rept endr macro endm stand first in their line (without a label)");
    String[] all = {"if 1", "else", "endif", "rept 1", "endr", "macro m", "endm"};
    for (String word : all) {
      b.fault("6@1", "x: " + word, "endif", "endr", "endm");
      b.fault("6@1", "x: y: " + word + " foo +", "endif", "endr", "endm");
      b.fault("6@1", "add: " + word);
    }
    b.about("a label stands ahead of N of a macro");
    b.code("ebfe", "macro m", "jmp x", "endm", "x: m");
    b.about("6 is looked for ahead of 3, 2 and 1, behind 1 of tokens");
    b.fault("6@1", "endif foo +");
    b.fault("1@1", "endif \u0001");
    b.fault("1@1", "x: if '");
    b.fault("5@1", "endif" + Bench.times(1020, " "));
    b.fault("6@1", "nop: if foo");
  }

  private static void goneThrough() {
    b.about("lines are gone through as they stand, and looked at for these words behind BLANKS at their beginning");
    b.code("07", "if 0", "\t \tendif", "db 7");
    b.code("07", "if 0", "xendif", "endifx", "endif_", "endif.", "endif0", "_endif", "x: endif", "\"endif", ";endif", "endif",
        "db 7");
    b.code("07", "if 0", "endif;", "db 7");
    b.code("07", "if 0", "endif\"", "db 7");
    b.code("07", "if 0", "endif\u0001", "db 7");
    b.code("07", "if 0", "endif:", "db 7");
    b.code("07", "if 0", "endif equ 5", "db 7");
    b.code("07", "if 0", "Endif", "ENDIF", "endi", "end", "endif", "db 7");
    b.code("0707", "rept 2", "db 7", "\tendr");
    b.about("the first one at which as many of its own sort as began behind it have ended");
    b.code("07", "if 0", "if", "if foo", "endif", "endif", "endif", "db 7");
    b.code("07", "if 0", "if 1", "else", "endif", "else", "db 7", "endif");
    b.fault("6@3", "if 0", "if 1", "endif");
    b.fault("6@4", "if 0", "if", "if", "endif");
    b.fault("6@4", "rept 0", "rept", "rept", "endr");
    b.code("", "rept 0", "rept", "endr", "endr");
    b.fault("6@3", "rept 0", "rept", "endr");
    b.about("of its own sort: others don't count");
    b.code("07", "if 0", "rept 2", "macro m", "endif", "db 7");
    b.code("07", "rept 0", "if 1", "macro m", "else", "endr", "db 7");
    b.code("07", "macro m", "if 1", "rept 2", "endm", "db 7");
    b.about("macro does not count");
    b.code("07", "macro m", "macro n", "macro o", "endm", "db 7");
    b.fault("6@4", "macro m", "macro n", "endm", "endm");
    b.about("nothing is replaced in them");
    b.fault("6@5", "macro m w", "if 0", "\\w", "endm", "m endif");
    b.code("07", "macro m w", "if 0", "\\w", "endif", "endm", "m else", "db 7");
  }

  private static void sameLines() {
    b.about("6: an end that is not in the same lines, of an if, also one that holds: at it");
    for (String e : new String[] {"1", "0", "", "foo +", "1 2"}) {
      b.fault("6@5", "macro m", "nop", "if " + e, "endm", "m", "endif");
      b.fault("6@1", "rept 1", "if " + e, "endr", "endif");
      b.fault("6@2", "nop", "rept 1", "nop", "if " + e, "else", "endr", "endif");
    }
    b.fault("none", "macro m", "if 1", "endif", "endm", "m");
    b.about("6: of a rept");
    for (String e : new String[] {"1", "0", "", "foo +", "5000"}) {
      b.fault("6@5", "macro m", "nop", "rept " + e, "endm", "m", "endr");
    }
    b.fault("none", "macro m", "rept 1", "endr", "endm", "m");
    b.code("0101", "rept 1", "rept 2", "db 1", "endr", "endr");
    b.about("6: of an else that is read in lines of a macro or rept");
    b.fault("6@7", "macro m w", "\\w 1", "\\w 1", "endif", "else", "endm", "m if", "nop");
    b.about("6: of a rept that an argument tells, in the lines of a rept");
    b.fault("6@6", "macro m w", "rept 1", "\\w 1", "endr", "endm", "m rept", "nop");
    b.fault("none", "macro m w", "rept 1", "\\w 1", "endr", "endm", "m db");
    b.about("6: ahead of its grammar, behind its tokens");
    b.fault("1@4", "macro m", "if \u0001", "endm", "m");
    b.about("at the source's own lines it is told at the last line");
    b.fault("6@3", "nop", "if 1", "nop");
    b.fault("6@3", "nop", "if 0", "foo");
    b.fault("6@3", "nop", "rept 1", "foo");
    b.fault("6@3", "nop", "macro m", "foo");
    b.fault("1@2", "nop", "if", "nop");
    b.about("what begins in the lines of a macro or rept ends there, too");
    b.fault("6@5", "macro m", "endif", "endm", "if 1", "m", "endif");
    b.fault("6@5", "macro m", "else", "endm", "if 1", "m", "endif");
    b.fault("6@2", "if 1", "rept 1", "endif", "endr");
    b.fault("6@2", "if 1", "rept 1", "else", "endr", "endif");
    b.fault("6@4", "macro m", "endr", "endm", "m");
    b.fault("6@4", "macro m", "endm foo", "x:", "endm");
    b.about("6: macro does not stand in the lines of a macro or rept that are read");
    b.fault("6@1", "rept 1", "macro m", "endm", "endr");
    b.fault("6@1", "rept 1", "macro", "endr");
    b.fault("6@4", "macro m", "macro n", "endm", "m");
    b.code("05", "if 1", "macro m", "db 5", "endm", "endif", "m");
    b.fault("2@5", "if 0", "macro m", "endm", "endif", "m");
  }

  /** One line for each of what is begun, so many times. */
  private static String many(int times, String line) {
    return Bench.times(times, line + "\n");
  }

  private static void twenty() {
    b.about("6: if, rept or N of a macro where 20 of these are being read already");
    String[] begins = {"if 1", "if 0\nelse", "rept 1"};
    String[] ends = {"endif", "endif", "endr"};
    for (int k = 0; k < 3; k++) {
      b.code("07", many(20, begins[k]) + "db 7\n" + many(20, ends[k]));
      int line = k == 0 ? 21 : k == 1 ? 41 : 1;
      b.fault("6@" + line, many(21, begins[k]) + "db 7\n" + many(21, ends[k]));
    }
    String head = "macro m\nendm\nmacro n\nm\nendm\n" + many(18, "if 1");
    String tail = many(18, "endif");
    b.fault("none", head + "n\n" + tail);
    b.fault("6@25", head + "if 1\nn\nendif\n" + tail);
    b.fault("none", head + "if 1\nif 1\nendif\nendif\n" + tail);
    b.fault("none", head + "rept 1\nm\nendr\n" + tail);
    b.fault("6@24", head + "rept 1\nn\nendr\n" + tail);
    b.fault("6@24", head + "rept 1\nrept 1\nrept 0\nendr\nendr\nendr\n" + tail);
    b.fault("6@24", head + "rept 1\nrept 1\nif 0\nendif\nendr\nendr\n" + tail);
    b.about("6: also one that does not hold or is read 0 times");
    b.fault("6@21", many(20, "if 1") + "if 0\nendif\n" + many(20, "endif"));
    b.fault("6@21", many(20, "if 1") + "rept 0\nendr\n" + many(20, "endif"));
    b.fault("6@21", many(20, "if 1") + "if +\nendif\n" + many(20, "endif"));
    b.about("6: what has ended is not being read");
    b.fault("none", many(20, "if 1\nendif"));
    b.fault("none", many(21, "if 1\nelse\nendif") + many(21, "if 0\nendif") + many(21, "rept 2\nendr") + many(20, "if 1")
        + many(20, "endif"));
    b.fault("none", many(19, "if 1") + many(20, "if 0\nendif") + many(20, "if 1\nelse\nendif") + many(20, "rept 1\nnop\nendr")
        + many(19, "endif"));
    b.about("6: a macro that reads itself");
    b.fault("6@4", "macro m", "m", "endm", "m");
    b.code("14", "macro m n", "if \\n - 10", "m \\n + 1", "else", "db \\n + \\n", "endif", "endm", "m 1");
    b.fault("6@8", "macro m n", "if \\n - 11", "m \\n + 1", "else", "db \\n + \\n", "endif", "endm", "m 1");
  }

  private static void arguments() {
    b.about("macro: more A than P");
    String[] none = {"macro m", "endm"};
    b.fault("none", none[0], none[1], "m");
    b.fault("6@3", none[0], none[1], "m x");
    b.fault("6@3", none[0], none[1], "m ,");
    b.fault("6@3", none[0], none[1], "m foo bar");
    b.fault("none", "macro m a, b", "endm", "m 1, 2");
    b.fault("none", "macro m a, b", "endm", "m 1,");
    b.fault("none", "macro m a, b", "endm", "m ,");
    b.fault("6@3", "macro m a, b", "endm", "m 1, 2,");
    b.fault("6@3", "macro m a, b", "endm", "m ,,");
    b.fault("6@3", "macro m a, b", "endm", "nop: m 1, 2, 3");
    b.fault("3@3", "macro m a, b", "endm", "nop: m 1, 2");
    b.about("macro: of each macro its own P");
    String many = "macro k a, b, c\nendm\nmacro m a\nendm\nmacro n\nendm\nmacro o a, b\nendm\n";
    b.fault("none", many + "k 1, 2, 3\nm 1\nn\no 1, 2");
    b.fault("6@9", many + "k 1, 2, 3, 4");
    b.fault("6@9", many + "m 1, 2");
    b.fault("6@9", many + "n 1");
    b.fault("6@9", many + "o 1, 2, 3");
    b.code("62", "macro m a", "db '\\b'", "endm", "macro n b", "endm", "m 5");
    b.fault("1@6", "macro m a", "db \\b", "endm", "macro n b", "endm", "m 5");
    b.code("0507", "macro m a", "db \\a", "endm", "macro n b", "m \\b", "endm", "n 5", "m 7");
    StringBuilder p = new StringBuilder("macro m a");
    StringBuilder a = new StringBuilder("m 1");
    for (int i = 1; i < 500; i++) {
      p.append(",a");
      a.append(",").append(i % 10);
    }
    b.about("macro: 500 of them, and of two alike the first one");
    b.code("01", p.toString(), "db \\a", "endm", a.toString());
    b.fault("6@4", p.toString(), "db \\a", "endm", a + ",5");
    p.append(",z");
    b.code("0109", p.toString(), "db \\a, \\z", "endm", a + ",9");
    b.about("macro: as many A as a line has, as deep as can be");
    b.fault("6@3", "macro m a\nendm\n" + many(19, "rept 1") + "m " + Bench.times(1022, ",") + "\n" + many(19, "endr"));
    b.fault("none", "macro m a\nendm\n" + many(19, "rept 1") + "m 5\n" + many(19, "endr"));
    b.about("macro: a line of A alone");
    b.fault("none", p.toString(), "endm", "m " + Bench.times(500, ","));
    b.fault("6@3", p.toString(), "endm", "m " + Bench.times(501, ","));
    b.fault("6@3", p.toString(), "endm", "m " + Bench.times(1022, ","));
  }

  private static void missingArguments() {
    b.about("macro: nothing if it is missing; N alone has no A");
    String[] m = {"macro m a, b", "db 1\\a, 2\\b", "endm"};
    b.code("0102", m[0], m[1], m[2], "m");
    b.code("0102", m[0], m[1], m[2], "m ; 5, 6");
    b.code("0102", m[0], m[1], m[2], "m ,");
    b.code("0b02", m[0], m[1], m[2], "m 1");
    b.code("0115", m[0], m[1], m[2], "m ,1");
    b.code("0b16", m[0], m[1], m[2], "m 1,2");
    b.about("macro: what one read had is not there for the next one");
    b.code("0b160102", m[0], m[1], m[2], "m 1,2", "m");
    b.code("0102" + "0b02" + "0b15" + "0102", "macro m a, b", "db 1\\a, 2\\b", "endm", "m", "m 1",
        "m 1, 1", "m ,");
    b.about("macro: without BLANKS at its ends, with those between");
    b.code("3120", "macro m a", "db \"\\a\", 32", "endm", "m \t 1 \t");
    b.code("3120203120", "macro m a", "db \"\\a \"", "endm", "m 1  1 ; 2");
    b.code("312b31", "macro m a", "db \"\\a\"", "endm", "m\t1+1");
  }

  private static void closing() {
    b.about("macro: an A is what stands between commas outside of ( ) [ ], characters and texts");
    String[] two = {"macro m a, b", "if 0", "\\a", "endif", "db \\b", "endm"};
    String[] firsts = {"(,)", "[,]", "(,]", "[,)", "((,),)", "[(,],)", "','", "\",\"", "'\\'', ','", ")", "]", "))]]", ") ]", "](,)",
        "()", "'('", "\"(\"", "'['", "')'", "\"\\\",\""};
    for (String first : firsts) {
      boolean commas = first.equals("'\\'', ','");
      b.code("05", two[0] + (commas ? ", c" : ""), two[1], two[2], two[3], commas ? "db \\c" : two[4], two[5],
          "m " + first + ", 5");
    }
    b.about("macro: ) and ] that close nothing don't matter, and either of them closes a ( or [");
    b.fault("none", "macro m a", "endm", "m ( , [ , ( , ] , [ , 5");
    b.fault("none", "macro m a, b", "endm", "m ) , (");
    b.fault("6@3", "macro m a", "endm", "m ) , (");
    b.fault("6@3", "macro m a", "endm", "m ( ) , )");
    b.fault("6@3", "macro m a", "endm", "m ) ) ( ) , 5");
    b.fault("none", "macro m a", "endm", "m ) ) ( , ) ");
    b.about("macro: a line with N has tokens");
    b.fault("1@3", "macro m a", "endm", "m ?");
    b.fault("1@3", "macro m a", "endm", "m \"");
    b.fault("1@3", "macro m a", "endm", "m \\a");
  }

  private static void parameters() {
    b.about("macro: the longest P that fits, of two alike the first one");
    String[] names = {"a, ab, abc", "abc, ab, a", "ab, a, abc", "abc, a, ab"};
    String[] values = {"1, 2, 3", "3, 2, 1", "2, 1, 3", "3, 1, 2"};
    for (int i = 0; i < 4; i++) {
      b.code("010203" + "2016", "macro m " + names[i], "db \\a, \\ab, \\abc, \\abc2, \\ab2", "endm", "m " + values[i]);
    }
  }

  private static void counts() {
    b.about("macro: \\@ by how many macros were read ahead of this one in the unit, decimal");
    b.make("macro n", "endm", "macro m", "dw \\@, 1\\@", "endm", "m", "rept 8", "n", "endr", "m", "m", "rept 88", "n", "endr", "m",
        "m", "rept 899", "n", "endr", "m");
    int[] due = {0, 10, 9, 19, 10, 110, 99, 199, 100, 1100, 1000, 11000};
    for (int i = 0; i < due.length; i++) {
      b.due("number " + i, b.works.octet(0, 0, 2 * i) + 256 * b.works.octet(0, 0, 2 * i + 1), due[i]);
    }
    b.about("macro: also behind one that was read within it");
    b.code("000102000300", "macro o", "db \\@", "endm", "macro n", "db \\@", "o", "endm", "macro m", "db \\@", "n", "db \\@", "o",
        "db \\@", "endm", "m");
    b.about("macro: a rept within it has its P and \\@");
    b.code("00050005" + "01060106", "macro m a", "rept 2", "db \\@, \\a", "endr", "endm", "m 5", "m 6");
    b.code("0005" + "0106" + "0005", "macro n a", "db \\@, \\a", "endm", "macro m a", "rept 1",
        "db \\@, \\a", "n 6", "db \\@, \\a", "endr", "endm", "m 5");
    b.about("macro: in no macro there is no \\@");
    b.fault("1@1", "db \\@");
    b.fault("1@1", "rept 1", "db \\@", "endr");
  }

  private static void stays() {
    b.about("macro: any other \\ stays");
    b.code("0a27", "macro m a", "db '\\n', '\\''", "endm", "m 1");
    b.fault("1@4", "macro m a", "db \\b", "endm", "m 1");
    b.fault("1@4", "macro m a", "db \\ a", "endm", "m 1");
    b.fault("1@4", "macro m ab", "db \\a", "endm", "m 1");
    b.fault("1@4", "macro m a", "db \\A", "endm", "m 1");
    b.fault("1@4", "macro m a", "db 5 \\", "endm", "m 1");
    b.code("05", "macro m a", "db 5 ; \\ \\b \\", "endm", "m 1");
    b.fault("1@4", "macro m", "db \\", "endm", "m");
    b.code("0505", "macro m a", "db \\a, \\a", "endm", "m 5");
    b.about("macro: what is put in is not replaced again");
    b.fault("1@6", "macro m a, b", "db \\a", "endm", "macro n", "endm", "m '\\b', 5\\b");
    b.code("62", "macro m a, b", "db \\a", "endm", "m '\\b', 5");
    b.about("macro: in words, names and labels, too");
    b.code("05" + "ebfe" + "90", "macro m w, l, o", "d\\w 5", "x\\l: jmp x\\l", "\\o", "endm", "m b, 7, nop");
    b.about("macro: lines without a macro have no P");
    b.fault("1@4", "macro m a", "endm", "m 5", "db \\a");
  }

  private static void macroNames() {
    b.about("macro: N is a NAME that is none yet, and no register or word");
    for (String name : new String[] {"text", "rodata", "data", "bss", "m", "_", ".", "start", "Nop", "macros", "jcxz", "movsw"}) {
      b.code("05", "macro " + name, "db 5", "endm", name);
    }
    String[] words = {"rax", "r15b", "byte", "rep", "equ", "if", "endm", "section", "align", "add", "cmpxchg", "cdq", "stosq", "jo",
        "jnz", "seto", "setnz", "cmovo", "cmovnz", "leave"};
    for (String name : words) {
      b.fault("3@1", "macro " + name, "endm");
      b.fault("3@1", name + ": nop");
      b.fault("3@1", name + " equ 5");
    }
    b.about("macro: its grammar");
    b.fault("1@1", "macro", "endm");
    b.fault("1@1", "macro 5", "endm");
    b.fault("1@1", "macro m a b", "endm");
    b.fault("1@1", "macro m,", "endm");
    b.fault("1@1", "macro m a,", "endm");
    b.fault("1@1", "macro m a,,b", "endm");
    b.fault("1@1", "macro m 5, a", "endm");
    b.fault("1@1", "macro m +, a", "endm");
    b.fault("1@1", "macro m a + b", "endm");
    b.fault("1@1", "macro m a b c", "endm");
    b.fault("1@1", "macro m a, b c, d", "endm");
    b.fault("1@1", "macro m (a)", "endm");
    b.fault("1@1", "macro m 5", "endm");
    b.fault("1@1", "macro m \"a\"", "endm");
    b.fault("3@1", "macro nop 5", "endm");
    b.fault("none", "macro m rax, if, a, a, .x", "endm");
  }

  private static void mostLines() {
    b.about("5: more than 65536 lines read in this unit");
    b.fault("none", "rept 4095\n" + Bench.times(16, "\n") + "endr\n" + Bench.times(15, "\n"));
    b.fault("5@34", "rept 4095\n" + Bench.times(16, "\n") + "endr\n" + Bench.times(16, "\n"));
    b.about("5: it goes ahead of all other faults of that line");
    b.fault("5@34", "rept 4095\n" + Bench.times(16, "\n") + "endr\n" + Bench.times(15, "\n") + "foo \u0001");
    b.fault("2@33", "rept 4095\n" + Bench.times(16, "\n") + "endr\n" + Bench.times(14, "\n") + "foo");
    b.about("5: not those that are gone through, nor endr, endm, and what a condition that is not so goes on behind");
    String[] sixteen = {
      "if 1\n" + Bench.times(14, "\n") + "endif\n",
      "if 1\n" + Bench.times(14, "\n") + "else\n" + Bench.times(5, "foo\n") + "endif\n",
      "if 0\n" + Bench.times(5, "foo\n") + "endif\n" + Bench.times(15, "\n"),
      "if 0\n" + Bench.times(5, "foo\n") + "else\n" + Bench.times(14, "\n") + "endif\n",
      "rept 0\nfoo\nendr\n" + Bench.times(15, "\n"),
      "rept 5\nendr\n" + Bench.times(15, "\n"),
      "rept 5\n\n\n\nendr\n"
    };
    for (String part : sixteen) {
      b.fault("none", "rept 4095\n" + part + "endr\n" + Bench.times(15, "\n"));
      int line = 1 + part.split("\n", -1).length + 16;
      b.fault("5@" + line, "rept 4095\n" + part + "endr\n" + Bench.times(16, "\n"));
    }
    b.about("5: N of a macro is one, its lines are others, macro is one");
    String macro = "macro m\n" + Bench.times(15, "\n") + "endm\n";
    b.fault("none", macro + "rept 4095\nm\nendr\n" + Bench.times(14, "\n"));
    b.fault("5@35", macro + "rept 4095\nm\nendr\n" + Bench.times(15, "\n"));
    b.about("5: told at the outermost line");
    b.fault("5@18", macro + "rept 4096\nm\nendr\n");
    b.about("5: counted anew in each unit");
    b.fresh();
    String most = "rept 4095\n" + Bench.times(16, "\n") + "endr\n" + Bench.times(15, "\n");
    b.taken(0, most);
    b.taken(1, most);
    b.refused(5, 34, 2, most + "\n");
    b.taken(2, most);
  }

  private static void tellsOutermost() {
    b.about("the first line read that has one; of what a macro or rept reads its own line in the source, the outermost one's");
    b.fault("2@10", "macro m", "rept 2", "foo", "endr", "endm", "nop", "if 1", "rept 1", "endr", "m", "foo", "endif");
    b.fault("2@3", "nop", "if 1", "foo", "endif", "foo");
    b.fault("2@1", "rept 1", "nop", "foo", "endr", "\u0001");
    b.fault("2@3", "rept 1", "endr", "foo");
    b.fault("2@5", "macro m", "foo", "endm", "if 1", "m", "endif");
    b.fault("7@6", "macro m a", "db \\a", "endm", "m 254", "m 255", "m 256", "m 257");
    b.about("of those told behind all lines, too");
    b.fault("4@5", "macro m", "nop", "dq x - $", "endm", "m", "nop");
    b.fault("5@2", "resb 65535", "rept 2", "nop", "endr", "nop");
  }

  private static void ends() {
    b.about("6 at the last line, if something is not ended, behind the faults of all lines");
    b.fault("6@4", "if 1", "nop", "", "nop");
    b.fault("6@4", "if 1\nif 0\nnop\n\n");
    b.fault("6@5", "if 1", "else", "foo", "foo", " ");
    b.fault("6@4", "if 0", "else", "nop", "nop");
    b.fault("2@4", "if 0", "else", "nop", "foo");
    b.fault("6@3", "rept 0", "nop", "nop");
    b.fault("6@2", "macro m", "m");
    b.fault("6@2", "if 1", "if 1");
    b.fault("none", "if 1", "if 1", "endif", "endif");
    b.about("what was not ended in one unit is not seen in the next one");
    String[][] open = {{"if 1", "nop"}, {"if 0", "nop"}, {"rept 2", "nop"}, {"macro m", "nop"}, {"if 1", "else"}, {"if 0", "else"},
        {"macro m", "endm\nrept 1\nm"}};
    b.fresh();
    for (String[] lines : open) {
      b.refused(6, String.join("\n", lines).split("\n").length, 0, lines);
      b.taken(0, "nop", "if 1", "db 1", "else", "db 2", "endif");
      b.due("size", b.works.size(0, 0), 2);
      b.works.clear();
    }
    b.about("ahead of a SPAN and of sections that are too long");
    b.fault("6@3", "dq x - y", "resb 65536", "if 1");
  }
}
