/** Promise 3, SOURCES: the edges of lines, tokens, expressions and values, told by the sentences that name them. */
public final class SourceEdgesTest {
  private static final Bench b = new Bench();

  public static void main(String[] args) {
    lines();
    comments();
    names();
    longNames();
    numbers();
    characters();
    texts();
    signs();
    locals();
    labels();
    operators();
    shifts();
    divisions();
    constants();
    spans();
    wide();
    longLines();
    b.end();
  }

  /** Just the first of a list of sources stands, or none of them. */
  private static void none(String want, String ahead, String[] parts, String behind) {
    for (String part : parts) {
      b.fault(want, ahead + part + behind);
    }
  }

  private static void lines() {
    b.about("I: behind a byte 10 at the end there is none; an empty source has none");
    b.fault("6@1", "if 1");
    b.fault("6@1", "if 1\n");
    b.fault("6@2", "if 1\n\n");
    b.fault("6@2", "if 1\n ");
    b.fault("6@3", "if 1\n\n\n");
    b.fault("6@3", "\n\nif 1");
    b.fault("2@2", "\nfoo");
    b.fault("2@2", "\nfoo\n");
    b.fault("none", "");
    b.fault("none", "\n");
    b.fault("none", "\n\n");
    b.code("90", "\n\nnop\n\n");
    b.about("I: BLANKS are 9 and 32");
    b.code("05", "\t \tdb\t5 \t");
    b.code("05", "x\t:\t y :db(5)");
    none("1@1", "nop", new String[] {"\u0000", "\u0008", "\u000b", "\u000c", "\r", "\u001f", "\u007f", "\u0080", "\u00a0", "\u00ff"},
        "");
  }

  private static void comments() {
    b.about("I: a ; outside of characters and texts begins a COMMENT");
    b.code("3b3b05", "db ';', \";\", 5;6");
    b.code("5c3b", "db '\\\\' ; '", "db ';'");
    b.code("223b", "db \"\\\";\"; \"");
    b.code("", ";", ";;", "; db 5", " ; '", "; \"");
    for (int c = 0; c < 256; c++) {
      if (c != 10) {
        b.code("05", "db 5;" + (char) c);
      }
    }
  }

  private static void names() {
    b.about("I: NAMES: letters, digits, _ and . , not beginning with a digit");
    String[] fine = {"a", "z", "A", "Z", "_", ".", "a0", "a9", "__", "..", "._.", "aA", "x.y"};
    none("none", "", fine, ": nop");
    none("1@1", "a", new String[] {"@", "`", "{", "!", "#", "?", "\\", "}", "=", "\"", "'"}, ": nop");
    none("1@1", "", new String[] {"0a", "9_", "5.", "1x"}, ": nop");
    b.about("I: a name that differs in one letter is another one");
    b.fault("none", "abc: abd: bbc: acc: ab: abcd: Abc: nop");
    String[] like = {"aBB", "ab", "a0", "aa", "a_", "a.", "abc"};
    for (String name : like) {
      b.fault("none", name + ": a: nop");
      b.fault("none", "a: " + name + ": nop");
    }
    b.about("I: LABELS (a NAME and : each)");
    none("1@1", "", new String[] {"5", "\"a\"", "'a'", "$", "(", "+", ":", "a: 5", "a: :"}, ": nop");
    b.about("I: at most 63 long");
    String most = Bench.times(62, "n");
    b.fault("none", most + "a: " + most + "b: nop");
    b.fault("1@1", most + "ab: nop");
    b.code("07", most + "a equ 7", "db " + most + "a");
    b.fault("1@1", most + "ab equ 7");
    b.fault("1@1", "db " + most + "ab");
    b.code("07", "macro " + most + "a " + most + "p", "db \\" + most + "p", "endm", most + "a 7");
    b.fault("1@1", "macro " + most + "ab", "endm");
    b.fault("1@1", "macro m " + most + "ab", "endm");
    b.fault("none", "global " + most + "a");
    b.fault("1@1", "global " + most + "ab");
    b.fault("1@1", most + "ab");
    b.fault("2@1", most + "a");
  }

  private static void longNames() {
    b.about("I: a LOCAL name counts as the latest label with it behind");
    String label = Bench.times(63, "L");
    String local = "." + Bench.times(61, "l");
    b.fault("none", label + ":", local + "a: " + local + "b: nop");
    b.fault("1@2", label + ":", local + "ab: nop");
    b.fault("3@2", label + ":", local + "a: " + local + "a: nop");
    b.fault("none", label + ": " + local + "a:", "M: " + local + "a: nop");
    b.code("ebfe" + "ebfc", label + ": " + local + "a: jmp " + local + "a", "jmp " + local + "a");
    b.make("global start", "start: nop", "keep", label + ":", "global " + local + "a", local + "a: nop");
    b.links(2);
    b.due("126 letters", b.symbol(label + local + "a"), Bench.TEXT + 1);
    b.due("125 letters", b.symbol(label + local), -1);
    b.due("127 letters", b.symbol(label + local + "aa"), -1);
  }

  private static void numbers() {
    b.about("I: NUMBERS below 2 to the power 64");
    b.code("ffffffffffffffff", "dq 18446744073709551615");
    b.code("feffffffffffffff", "dq 18446744073709551614");
    none("1@1", "dq ", new String[] {"18446744073709551616", "18446744073709551617", "18446744073709551620",
        "18446744073709551700", "20000000000000000000", "184467440737095516150", "99999999999999999999999999999999"}, "");
    b.code("ffffffffffffffff", "dq 0xffffffffffffffff");
    b.code("ffffffffffffffff", "dq 0x0000FFFFffffFFFFffff");
    none("1@1", "dq ", new String[] {"0x10000000000000000", "0x1ffffffffffffffff", "0xf0000000000000000"}, "");
    b.code("0000000000000080", "dq 0b1" + Bench.times(63, "0"));
    b.code("0100000000000080", "dq 0b0001" + Bench.times(62, "0") + "1");
    b.fault("1@1", "dq 0b1" + Bench.times(64, "0"));
    b.code("ffffffffffffffff", "dq 0b" + Bench.times(64, "1"));
    b.fault("1@1", "dq 0b" + Bench.times(65, "1"));
    b.fault("1@1", "dq 0b" + Bench.times(100, "1"));
    b.code("0500000000000000", "dq " + Bench.times(100, "0") + "5");
    b.about("I: 0x and hexadecimal digits (of both cases)");
    b.code("efcdabefcdab0000" + "9876543210000000", "dq 0xABCDEFabcdef", "dq 0x1032547698");
    none("1@1", "foo ", new String[] {"1x5", "1b1", "9x0", "2b0", "00x1", "00b1", "12ab", "0x1g", "0b12", "1_", "1.", "0b1x"}, "");
    none("1@1", "db ", new String[] {"0x", "0xg", "0xG", "0x/", "0x:", "0x@", "0x`", "0X1", "0xx1", "0x_", "0x."}, "");
    b.about("I: 0b and binary digits");
    b.code("050001", "db 0b101, 0b0, 0b01");
    none("1@1", "db ", new String[] {"0b", "0b2", "0b12", "0B1", "0b_", "0bb1"}, "");
    b.about("I: digits");
    b.code("000978", "db 0, 9, 0120");
    b.about("I: no letter, digit, _ or . stands directly behind a NUMBER");
    none("1@1", "db ", new String[] {"1a", "1Z", "1_", "1.", "0x1g", "0x1.", "0b1_", "0b1a", "'a'a", "'a'0", "'a'_", "'a'.",
        "'a'Z"}, "");
    b.about("I: what stands behind a TEXT is looked at as grammar, behind the word");
    b.fault("2@1", "foo \"a\"b");
    b.fault("1@1", "foo 'a'b");
    b.fault("2@1", "foo 'a''b'");
    b.fault("1@1", "db 'a''b'");
    b.fault("1@1", "db \"a\"\"b\"");
  }

  private static void characters() {
    b.about("I: one of 32 .. 126 but ' and \\");
    for (int c = 0; c < 256; c++) {
      if (c != 10) {
        String got = b.faultOf("db '" + (char) c + "'");
        boolean fine = c >= 32 && c <= 126 && c != '\'' && c != '\\';
        b.due("character " + c, got, fine ? "none" : "1@1");
        if (fine) {
          b.due("byte of " + c, b.works.octet(0, 0, 0), c);
        }
      }
    }
    b.about("I: an ESCAPE: \\n 10, \\t 9, \\0 0, \\ and any other character: that one");
    for (int c = 0; c < 256; c++) {
      if (c != 10) {
        String got = b.faultOf("db '\\" + (char) c + "'");
        boolean fine = c >= 32 && c <= 126;
        b.due("escape of " + c, got, fine ? "none" : "1@1");
        if (fine) {
          b.due("byte of it", b.works.octet(0, 0, 0), c == 'n' ? 10 : c == 't' ? 9 : c == '0' ? 0 : c);
        }
      }
    }
    none("1@1", "db ", new String[] {"'", "''", "'a", "'ab'", "'\\", "'\\'", "'\\n", "'\\nn'", "'''", "'\\\\\\'"}, "");
    b.code("62", "db 'a' + '\\0' + 1");
  }

  private static void texts() {
    b.about("I: TEXTS: such characters (here ' is one, \" is none) between two \" (none at all, too)");
    for (int c = 0; c < 256; c++) {
      if (c != 10) {
        String got = b.faultOf("db \"x" + (char) c + "\"");
        boolean fine = c >= 32 && c <= 126 && c != '"' && c != '\\';
        b.due("text with " + c, got, fine ? "none" : "1@1");
        if (fine) {
          b.due("byte of it", b.works.octet(0, 0, 1), c);
        }
      }
    }
    b.code("", "db \"\"");
    b.code("05", "db \"\", 5, \"\"");
    b.code("0a09002271275c", "db \"\\n\\t\\0\\\"\\q\\'\\\\\"");
    none("1@1", "db ", new String[] {"\"", "\"a", "\"a\\\"", "\"\\\\\\\"", "\"a\\", "\"\\\t\"", "\"a\tb\"", "\"\\\u001f\"",
        "\"\\\u007f\"", "\"\"\""}, "");
    b.fault("none", "db \"" + Bench.times(1019, "x") + "\"");
    b.due("its length", b.works.size(0, 0), 1019);
    b.fault("1@1", "db \"" + Bench.times(1020, "x"));
    b.fault("1@1", "db \"" + Bench.times(1019, "x") + "\\");
    b.fault("1@1", "db '" + Bench.times(1020, " "));
    b.fault("1@1", Bench.times(1023, " ") + "'");
    b.fault("1@1", Bench.times(1022, " ") + "'\\");
  }

  private static void signs() {
    b.about("I: SIGNS: , : [ ] ( ) + - * / % & | ^ ~ << >>, and $");
    // Tokens are looked at ahead of the word: what is a SIGN leaves fault 2.
    none("2@1", "foo ", new String[] {",", "5 :", "[", "]", "(", ")", "+", "-", "*", "/", "%", "&", "|", "^", "~", "<<", ">>",
        "$", "<<>>", "<<<<"}, "");
    none("1@1", "foo ", new String[] {"<", ">", "<>", "<<<", ">>>", "< <", "!", "\"", "#", "'", "=", "?", "@", "\\", "`", "{",
        "}", "."+ Bench.times(63, "x")}, "");
    b.code("0401", "db 1<<2,4>>2");
    b.code("0d", "db(1+2)*3+4");
    b.code("ebfe", "jmp$");
  }

  private static void locals() {
    b.about("I: the latest label of this unit; none at first");
    b.fresh();
    b.taken(0, "global start, .x", "start: .x: nop", "a: nop");
    b.taken(1, "keep", "global .x", ".x: nop", "b: nop");
    b.taken(2, "keep", "global .y", "b: .y: nop");
    b.links(0x21);
    b.due(".x of the second", b.symbol(".x"), Bench.TEXT + 16);
    b.due(".y of the third", b.symbol(".y"), -1);
    b.due("b.y", b.symbol("b.y"), -1);
    b.about("I: the latest label that does not begin so");
    b.code("05", "a:", ".b:", ".n equ 5", "db a.n");
    b.code("05", "a:", ".n equ 5", "x equ 7", "db .n");
    b.fault("4@4", "a:", ".n equ 5", "b:", "db .n");
    b.fault("3@3", "a:", ".n equ 5", ".n equ 6");
    b.fault("3@3", "a:", ".n equ 5", ".n: nop");
    b.fault("3@3", "a:", ".n equ 5", "global .n");
    b.fault("3@3", "a:", ".n equ 5", "weak b, .n");
    b.fault("3@3", "a:", "global .n", ".n equ 5");
    b.fault("3@3", "a:", "dq .n", ".n equ 5");
    b.fault("none", "a:", "dq .n", "b:", ".n equ 5");
    b.fault("none", "a:", ".n equ 5", "b:", "global .n");
    b.about("I: names of macros and P count as they stand");
    b.code("05", "a:", "macro .m .p", "db \\.p", "endm", "b:", ".m 5");
    b.fault("2@4", "a:", "macro .m", "endm", "a.m");
    b.fault("3@5", "a:", "macro .m", "endm", "b:", "macro .m");
    b.fault("none", "a:", "macro .m", "endm", ".m: nop");
  }

  private static void labels() {
    b.about("I: LABELS (any number of them), then perhaps a STATEMENT");
    b.fault("none", "a:b:c:d:");
    StringBuilder many = new StringBuilder();
    for (int i = 0; i < 256; i++) {
      many.append((char) ('a' + i % 16)).append((char) ('a' + i / 16)).append("_:");
    }
    b.code("90", many.substring(0, 4 * 255) + "nop");
    b.fault("none", many.toString());
    b.fault("3@2", many.toString(), "pp_: nop");
    b.about("I: NAME equ EXPRESSION is one, too (whatever the NAME is)");
    b.fault("3@1", "nop equ 5");
    b.fault("3@1", "endif equ 5");
    b.fault("3@1", "rax equ 5");
    b.fault("3@1", "rel equ 5");
    b.fault("3@3", "macro m", "endm", "m equ 5");
    b.code("05", "text equ 5", "db text");
  }

  private static void operators() {
    b.about("I: from what binds least: | ^ & << >> + - * / % and - ~ + in front");
    b.code("05", "db 6 ^ 3");
    b.code("07", "db 6 | 3");
    b.code("02", "db 6 & 3");
    String[] order = {"|", "^", "&", "<<", "+", "*"};
    long[] weak = {1 | 2, 1 ^ 2, 1 & 2, 1 << 2, 1 + 2, 1 * 2};
    for (int i = 0; i < order.length; i++) {
      for (int k = 0; k < order.length; k++) {
        // 12 ? 10 ! 3: what binds more goes first, of equal ones the left one.
        long value = k > i ? of(order[i], 12, of(order[k], 10, 3)) : of(order[k], of(order[i], 12, 10), 3);
        b.make("dq 12 " + order[i] + " 10 " + order[k] + " 3");
        b.due("value", quad(0), value);
      }
      b.due("one of them", of(order[i], 1, 2), weak[i]);
    }
    b.about("I: ( ) around, and nothing else");
    none("1@1", "db ", new String[] {"5 ()", "5 (+ 3)", "(5)(+ 3)", "(5, 5)", "(5 : 5)", "(5 [ 5)", "(5 5)", "()", "(5", "5)", "(5))", "((5)",
        "[5]", "(5]", "5 ~ 3", "5 ~", "~", "5 $", "$ 5", "(* 5)", "5 + * 3", "5 << >> 3", "(5 \"a\" 3)"}, "");
    b.about("I: equal ones from the left to the right");
    b.code("0507", "db 9 - 3 - 1, 9 - 3 + 1");
    b.code("0206", "db 12 / 3 / 2, 12 / 4 * 2");
    b.code("01" + "06", "db 15 % 8 % 2, 3 * 7 % 15");
    b.code("10" + "02", "db 1 << 2 << 2, 16 << 1 >> 4");
    b.about("I: - ~ + in front bind most");
    b.code("fc" + "f6" + "02", "db -1 * 4, ~1 * 5, -~1");
    b.code("02" + "fe", "db 1 - -1, 1 - +3");
    b.about("I: E of equ, resb, align, if, rept, of numbers, operands and rel are whole");
    b.code("0b", "x equ 1 | 2 ^ 8", "db x");
    b.code("000000", "resb 1 | 2");
    b.code("0190", "db 1", "align 2 | 0");
    b.code("07", "if 0 | 1", "db 7", "endif");
    b.code("070707", "rept 1 | 2", "db 7", "endr");
    b.code("b803000000" + "83c003" + "6a03", "mov eax, 1 | 2", "add eax, 1 | 2", "push 1 | 2");
    b.code("8b0500000000", "mov eax, [rel 1 | 2]");
    b.code("0300" + "03000000" + "0300000000000000", "dw 1 | 2", "dd 1 | 2", "dq 1 | 2");
  }

  private static long of(String sign, long x, long y) {
    switch (sign) {
      case "|":
        return x | y;
      case "^":
        return x ^ y;
      case "&":
        return x & y;
      case "<<":
        return x << y;
      case "+":
        return x + y;
      default:
        return x * y;
    }
  }

  /** The number of 8 bytes of the text. */
  private static long quad(int at) {
    long value = 0;
    for (int i = 7; i >= 0; i--) {
      value = value << 8 | b.works.octet(0, 0, at + i);
    }
    return value;
  }

  private static void shifts() {
    b.about("I: shifts are by the lowest 6 bits, >> without a sign");
    b.make("dq 1 << 63, 1 << 64, 1 << -1, 3 << 127, -1 >> 63, -1 >> 64, -1 >> 0, 0x8000000000000000 >> 1, 1 << 6");
    long[] due = {Long.MIN_VALUE, 1, Long.MIN_VALUE, Long.MIN_VALUE, 1, -1, -1, 1L << 62, 64};
    for (int i = 0; i < due.length; i++) {
      b.due("value " + i, quad(8 * i), due[i]);
    }
  }

  private static void divisions() {
    b.about("I: / and % go towards 0, with signs (the least number by -1 wraps; by 0 fault 4)");
    b.make("dq 7 / 2, -7 / 2, 7 / -2, -7 / -2, 7 % 2, -7 % 2, 7 % -2, -7 % -2, 1 << 63 / 1, (1 << 63) / -1",
        "dq (1 << 63) % -1, (1 << 63) / 1, 0xffffffffffffffff / 2, 0 / 5, (1 << 63) * -1, (1 << 63) - 1, -(1 << 63)");
    long[] due = {3, -3, -3, 3, 1, -1, 1, -1, Long.MIN_VALUE, Long.MIN_VALUE, 0, Long.MIN_VALUE, 0, 0, Long.MIN_VALUE,
      Long.MAX_VALUE, Long.MIN_VALUE};
    for (int i = 0; i < due.length; i++) {
      b.due("value " + i, quad(8 * i), due[i]);
    }
    none("4@1", "", new String[] {"dq 1 / 0", "dq 1 % 0", "dq 0 / 0", "x equ 1 / 0", "if 1 / 0", "rept 5 % 0", "resb 1 / 0",
        "align 1 % 0", "mov eax, 1 / 0", "mov eax, [rax + 1 / 0]", "mov eax, [rel 1 % 0]", "jmp 1 / 0", "db 1 | 1 / (2 - 2)"},
        "");
    b.about("I: numbers have 64 bits and wrap");
    b.make("dq 0xffffffffffffffff + 1, 0 - 1, 0x8000000000000000 + 0x8000000000000000, 0x100000000 * 0x100000000 + 3");
    long[] wrapped = {0, -1, 0, 3};
    for (int i = 0; i < wrapped.length; i++) {
      b.due("value " + i, quad(8 * i), wrapped[i]);
    }
  }

  private static void constants() {
    b.about("I: a NAME is a CONSTANT if equ defined it ahead, else a PLACE");
    b.code("05", "x equ 5", "db x");
    b.fault("4@1", "db x", "x equ 5");
    b.fault("3@2", "dq x", "x equ 5");
    b.fault("4@1", "x equ x");
    b.fault("4@2", "x equ 5", "y equ z");
    b.about("I: all else is of CONSTANTS alone");
    String[] odd = {"x * 1", "1 * x", "x / 1", "x % 1", "x & -1", "x | 0", "x ^ 0", "x << 0", "x >> 0", "0 << x", "-x", "~x",
      "0 - x", "x + x", "x + $", "- (x - y)", "~(x - y)", "(x - y) * 1", "(x - y) - x", "(x - y) - (x - y)", "(x - y) + x",
      "x + (x - y)", "(x - y) + (x - y)", "x - (x - y)", "5 - (x - y)", "$ - (x - y)", "(x - y) | 0"};
    none("4@1", "x: y: dq ", odd, "");
    String[] fine = {"x", "+x", "++x", "x + 1", "1 + x", "x - 1", "(x)", "+(x) + 1", "x - y", "x - y + 1", "1 + (x - y)",
      "(x - y) - 1", "+(x - y)", "x + 1 - y", "1 + x - y", "x - (y + 1)", "$", "$ + 1", "$ - x", "x - $", "$ - $", "x - x"};
    none("none", "x: y: dq ", fine, "");
    for (String e : odd) {
      b.fault("4@1", "x: y: dq " + e, "foo");
    }
    b.about("FAULTS: 4 a PLACE or SPAN where a CONSTANT must be");
    none("4@1", "x: ", new String[] {"db x", "dw x", "db $", "dw x - x", "db x - x", "z equ x", "z equ x - x", "z equ $",
        "resb x", "resb x - x", "align x", "align $ - x"}, "");
    none("4@1", "", new String[] {"if x", "rept x", "if $", "rept $ - $", "if x - x", "rept x - x"}, "");
  }

  private static void spans() {
    b.about("I: a SPAN: two places, and a constant");
    b.make("nop", "nop", "a: nop", "nop", "nop", "c: dq c - a, a - c, 3 + (c - a), c - a - 1, 1 + c - a + 1, $ - a, c - 1 - a",
        "dd c - a, a - c", "global start", "start: nop", "keep");
    b.links(2 + 3 + 56 + 8 + 1);
    b.works.load();
    long[] due = {3, -3, 6, 2, 5, 3, 2};
    for (int i = 0; i < due.length; i++) {
      b.due("span " + i, b.number(Bench.TEXT + 5 + 8 * i, 8), due[i]);
    }
    b.due("of 4 bytes", b.number(Bench.TEXT + 61, 4), 3);
    b.due("of 4 bytes", (int) b.number(Bench.TEXT + 65, 4), -3);
    b.about("FAULTS: 4 for the first SPAN of which not both places are in one section of this unit");
    b.fault("4@3", "a: nop", "section data", "dq a - $", "dq a - x");
    b.fault("4@2", "a: nop", "dq a - x");
    b.fault("4@2", "a: nop", "dq x - a");
    b.fault("4@1", "dq x - x");
    b.fault("4@2", "a: nop", "dq 3 + (a - c)", "section data", "c: nop");
    b.fault("4@2", "a: nop", "mov eax, [rbx + a - x]");
    b.fault("4@2", "a: nop", "jmp a - x");
    b.fault("4@2", "global a", "dq a - $");
    b.fault("none", "dq a - c", "section data", "a: nop", "section text", "nop", "section data", "c: nop");
    b.fault("none", "weak a", "a: nop", "dq a - $");
    b.about("FAULTS: then 4, behind the faults of lines and 6 at the last line");
    b.fault("7@2", "dq x - x", "db 256");
    b.fault("6@2", "dq x - x", "if 1");
    b.fault("4@2", "resb 65536", "dq x - x", "nop");
  }

  private static void wide() {
    b.about("STATEMENTS: numbers of 1, 2, 4, 8 bytes, the lowest first");
    b.code("12" + "3412" + "78563412" + "efcdab8967452301", "db 0x12", "dw 0x1234", "dd 0x12345678", "dq 0x0123456789abcdef");
    b.about("FAULTS: 7 CONSTANTS not -2^(n-1) .. 2^n - 1 with n bits");
    String[] words = {"db", "dw", "dd"};
    for (int i = 0; i < 3; i++) {
      int bits = 8 << i;
      b.fault("none", words[i] + " -" + (1L << bits - 1) + ", " + ((1L << bits) - 1) + ", 0, -1");
      b.fault("7@1", words[i] + " -" + ((1L << bits - 1) + 1));
      b.fault("7@1", words[i] + " " + (1L << bits));
      b.fault("7@1", words[i] + " 0, 0, " + (1L << bits));
      b.fault("7@1", words[i] + " 1 << 63");
      b.fault("7@1", words[i] + " 0x7fffffffffffffff");
    }
    b.fault("none", "dq 0xffffffffffffffff, 1 << 63");
    b.about("STATEMENTS: section S: text, rodata, data or bss (another S: fault 1)");
    none("1@1", "section ", new String[] {"", "code", "Text", "texts", "tex", ".text", "185", "186", "188", "0", "'t'", "\"text\"", "text data", "text,",
        "rax", "nop", "$", "(text)"}, "");
    b.about("STATEMENTS: global N, N, .. and weak N, N, ..");
    for (String word : new String[] {"global", "weak"}) {
      none("none", word + " ", new String[] {"a", "a, b", "a, a", "a, b, c, d", ".a", "nop", "rax", "byte"}, "");
      none("1@1", word, new String[] {"", " a,", " ,a", " a b", " a + b", " a : b", " a 5 b", " 5", " a, 5", " \"a\"", " a,,b", " (a)", " $"}, "");
    }
    none("1@1", "keep ", new String[] {"5", "a", ",", "text"}, "");
    b.about("STATEMENTS: resb E: 0 .. 65536");
    String[] sections = {"text", "rodata", "data", "bss"};
    for (int s = 0; s < 4; s++) {
      for (int size : new int[] {0, 1, 65535, 65536}) {
        b.make("section " + sections[s], "resb " + size);
        b.due("size of " + size, b.works.size(0, s), size);
        b.due("last byte", b.works.octet(0, s, size - 1), size == 0 ? -1 : 0);
      }
      for (String size : new String[] {"-1", "65537", "1 << 63", "1 << 32", "131072"}) {
        b.fault("7@2", "section " + sections[s], "resb " + size);
      }
    }
    b.about("STATEMENTS: align E: one of 1, 2, 4, .. 4096");
    for (int s = 0; s < 4; s++) {
      for (int size = 1; size <= 4096; size *= 2) {
        b.make("section " + sections[s], "align " + size, s == 3 ? "resb 1" : "db 1", "align " + size, "align " + size);
        b.due("size", b.works.size(0, s), size);
        if (size > 1) {
          b.due("byte", b.works.octet(0, s, 1), s == 0 ? 0x90 : 0);
          b.due("last byte", b.works.octet(0, s, size - 1), s == 0 ? 0x90 : 0);
        }
      }
    }
    b.code("01909090" + "02", "db 1", "align 4", "db 2", "align 1");
    none("7@1", "align ", new String[] {"0", "3", "5", "6", "7", "9", "12", "1000", "4095", "4097", "8192", "65536", "-1", "-4",
        "1 << 63", "1 << 32"}, "");
  }

  private static void longLines() {
    b.about("FAULTS: 5 a line of more than 1024 characters");
    b.fault("none", "nop" + Bench.times(1021, " "));
    b.fault("5@1", "nop" + Bench.times(1022, " "));
    b.fault("none", ";" + Bench.times(1023, "x"), ";" + Bench.times(1023, "\u00e9"));
    b.fault("5@2", "nop", ";" + Bench.times(1024, "x"));
    b.fault("5@1", Bench.times(1024, " ") + "\t");
    b.fault("5@1", Bench.times(1025, "\""));
    b.fault("7@1", "db " + Bench.times(510, "1+") + "1");
    b.fault("none", "db " + Bench.times(510, "1,") + "1");
    b.due("its bytes", b.works.size(0, 0), 511);
    b.fault("5@1", "db " + Bench.times(510, "1,") + "11");
    b.about("FAULTS: 1024 characters, of one token each");
    b.fault("1@1", Bench.times(1024, "("));
    b.fault("1@1", "db " + Bench.times(1021, "("));
    b.fault("1@1", "db " + Bench.times(1021, "-"));
    b.code("01", "db " + Bench.times(1020, "-") + "1");
    b.code("01", "db " + Bench.times(510, "(") + "1" + Bench.times(510, ")"));
    b.fault("1@1", "mov eax, [" + Bench.times(1014, "("));
    b.fault("2@1", "mov " + Bench.times(509, "5,") + "55");
  }
}
