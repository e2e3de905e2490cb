/**
 * The places where the document's words leave a choice: each with the sentence that tells most plainly what was chosen,
 * beside those that stand near it. NOTES.md tells why.
 */
public final class ChoicesTest {
  private static final Bench b = new Bench();

  public static void main(String[] args) {
    secondOperands();
    jumpsHaveNoSize();
    noBytesInBss();
    wordsThatAreNone();
    relIsNoDisplacementYet();
    namesThatGlobalTells();
    namesAsTheyStand();
    ifsFromArguments();
    endsAreGoneThrough();
    backslashes();
    weakSpans();
    spansNeedNothing();
    labelsForOneUnitAlone();
    namesLeftOut();
    b.end();
  }

  private static void secondOperands() {
    b.about("II: the second operand of movzx, movsx (1) and movsxd (4): they must be these");
    for (String word : new String[] {"movzx eax, ", "movsx rax, ", "movsxd rax, "}) {
      boolean widens = word.startsWith("movsxd");
      b.fault("2@1", word + "[rbx]");
      b.fault(widens ? "2@1" : "none", word + "byte [rbx]");
      b.fault(widens ? "none" : "2@1", word + "dword [rbx]");
      b.fault("2@1", word + "qword [rbx]");
    }
    b.about("II: what jmp and call go to has 8; push and pop have 8, setC 1 (as if told)");
    b.code("ff23" + "ff13" + "ff33" + "8f03" + "0f9403", "jmp [rbx]", "call [rbx]", "push [rbx]", "pop [rbx]", "sete [rbx]");
    for (String line : new String[] {"jmp dword [rbx]", "call byte [rbx]", "push dword [rbx]", "push byte 5", "pop dword [rbx]",
      "sete dword [rbx]"}) {
      b.fault("2@1", line);
    }
  }

  private static void jumpsHaveNoSize() {
    b.about("II: what jmp and call go to has 8 if it is no E, they and jC and ret have none");
    for (String size : new String[] {"", "byte ", "dword ", "qword "}) {
      b.code("ebfe" + "74fe" + "e800000000" + "c20500", "jmp " + size + "$", "je " + size + "$", "call " + size + "x",
          "ret " + size + "5");
    }
  }

  private static void noBytesInBss() {
    b.about("2: bytes in bss but by resb and align");
    b.fault("none", "section bss", "db \"\"");
    b.fault("none", "section bss", "db \"\", \"\"");
    b.fault("2@2", "section bss", "db \"\", 0");
    b.fault("2@2", "section bss", "db \"\", \"a\"");
  }

  private static void wordsThatAreNone() {
    b.about("I: NAME equ EXPRESSION is one, too (whatever the NAME is); else 2 a word that is none");
    b.fault("2@1", "equ 5");
    b.fault("2@1", "x: equ 5");
    b.fault("3@1", "equ equ 5");
    b.fault("3@1", "if equ 5");
    b.fault("3@1", "endm equ 5");
    b.fault("2@1", "byte 5");
    b.fault("2@1", "rel x");
    b.fault("2@1", "rax");
    b.fault("2@1", "text");
    b.fault("1@1", "rep");
  }

  private static void relIsNoDisplacementYet() {
    b.about("II: what is rel, too; these bytes WAIT for it");
    b.fault("7@1", "mov eax, [rbx + (1 << 31)]");
    b.fault("none", "mov eax, [rel 1 << 31]");
    b.fault("none", "mov eax, [rel 1 << 40]");
    b.fresh();
    b.taken(0, "global start", "start: mov eax, [rel 1 << 31]");
    b.links(6);
    b.fresh();
    b.taken(0, "global start", "start: mov eax, [rel 1 << 40]");
    b.linkFails(4, 2, 0);
  }

  private static void namesThatGlobalTells() {
    b.about("3: a NAME behind global or weak that equ defined");
    b.fault("none", "global rax, add, byte", "weak if, equ");
    b.fault("3@2", "x equ 5", "global y, x");
    b.about("I: NAMES that are neither registers nor the words byte dword qword rel equ rep");
    b.fault("none", "dq add, if, endm, section, text");
    b.fault("1@1", "dq rax");
    b.fault("1@1", "dq rep");
  }

  private static void namesAsTheyStand() {
    b.about("I: Names of macros and P count as they stand");
    b.fault("3@4", "macro a.x", "endm", "a:", ".x:");
    b.fault("3@4", "macro .x", "endm", "nop", ".x:");
    b.fault("none", "macro .x", "endm", "a:", ".x:", ".x");
    b.fault("3@5", "a:", "macro .x", "endm", ".x:", "macro a.x", "endm");
  }

  private static void ifsFromArguments() {
    b.about("I: What begins in the lines of a macro or rept ends there, too");
    b.code("0102", "macro m a", "\\a", "\\a", "db 1", "endif", "endm", "m if 1", "db 2");
    b.fault("6@7", "macro m a", "\\a", "\\a", "endif", "endm", "m if 1", "endif");
    b.about("6: an end that is not in the same lines: at it, ahead of its grammar");
    b.fault("6@4", "macro m a", "\\a", "endm", "m if 1");
    b.fault("6@4", "macro m a", "\\a", "endm", "m if", "endif");
    b.fault("6@5", "macro m a", "if 1", "\\a", "endm", "m endif");
    b.fault("6@4", "macro m a", "\\a", "endm", "m rept 0");
    b.fault("6@6", "macro m a", "if 1", "endif", "\\a", "endm", "m if 1");
  }

  private static void endsAreGoneThrough() {
    b.about("I: just looked at for these words behind BLANKS at their beginning");
    b.code("01", "if 0", "if equ 5", "endif", "db 2", "endif : x", "db 1");
    b.code("02", "if 0", "x: if 1", "endif", "db 2");
    b.code("02", "if 0", "db \"", "endif;", "db 2");
    b.code("02", "if 0", "endif5", "endif.", "endif_", "else$", "db 2", "endif");
    b.about("I: if, rept; macro does not count");
    b.fault("6@4", "if 0", "macro m", "else", "endm", "endif");
    b.fault("6@4", "macro m", "macro n", "endm", "endm");
    b.about("6: an end without a beginning");
    b.fault("6@1", "endr");
    b.fault("6@1", "endm 5");
    b.fault("6@2", "if 1", "endr", "endif");
    b.fault("6@1", "rept 1", "endm", "endr");
    b.fault("none", "if 0", "endr", "endm 5", "endif", "rept 0", "endm", "endr 5", "macro m", "endr", "endm 5");
  }

  private static void backslashes() {
    b.about("I: any other \\ stays");
    b.code("0a", "macro m a", "db \"\\\\a\"", "endm", "m n");
    b.code("5c62", "macro m a", "db \"\\\\b\\a\"", "endm", "m");
  }

  private static void weakSpans() {
    b.about("FAULTS: the first SPAN of which not both places are in one section of this unit (SPANs wait for none)");
    b.fresh();
    b.taken(0, "global start", "weak w", "start:", "dd w - start, start - w", "w: nop", "jmp w");
    b.taken(1, "global w", "nop", "nop", "w: nop");
    b.links(19);
    b.works.load();
    b.due("its own label", b.number(Bench.TEXT, 4), 8);
    b.due("less it", b.number(Bench.TEXT + 4, 4), 0xfffffff8L);
    b.due("a jump goes to the other unit's", b.number(Bench.TEXT + 10, 4), 18 - 14);
  }

  private static void spansNeedNothing() {
    b.about("II: A PLACE or SPAN; these bytes WAIT for it (octet: what waits is 0)");
    b.code("0000000000000000000000000000000005", "x: dd y - x, x - $", "dq y - x + 3", "y: db 5");
    b.code("0500000000" + "90", "add eax, y - x", "x: nop", "y:");
    b.fault("none", "rept 4096", "dd y - x", "endr", "x:", "y:");
    b.fault("5@4", "rept 4096", "dd y - x", "endr", "dd y - x", "x:", "y:");
    b.about("IV: those of whose places some needed section waits for (SPANs wait for none)");
    b.fresh();
    b.taken(0, "global start", "section data", "x: dq 1", "y:", "section text", "start: dq y - x");
    b.links(8);
    b.works.load();
    b.due("the span", b.number(Bench.TEXT, 8), 8);
  }

  private static void labelsForOneUnitAlone() {
    b.about("IV: a global or weak label that a unit that is taken misses, and nobody that is taken has");
    b.fresh();
    b.taken(0, "global start", "start: call f");
    b.taken(1, "f: nop");
    b.linkFails(3, 2, 0);
    b.due("the library", b.unit(true, "global f", "f: ret"), 2);
    b.links(17);
    b.due("its label", b.symbol("f"), Bench.TEXT + 16);
  }

  private static void namesLeftOut() {
    b.about("9: a global or weak label by which units taken are linked; none such if its section was left out");
    b.fresh();
    b.taken(0, "global start", "weak x", "start: nop", "x: nop");
    b.taken(1, "global x", "x: nop");
    b.links(2);
    b.due("the global one is left out", b.symbol("x"), -1);
    b.due("what is there", b.symbol("start"), Bench.TEXT);
  }
}
