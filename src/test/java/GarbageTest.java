import java.util.Random;

/** All promises: whatever comes in, a call throws what the document says or nothing, and what it says of faults holds. */
public final class GarbageTest {
  private static final Bench b = new Bench();
  private static final Random random = new Random(7);
  private static final String[] TOKENS = {"rax", "rsp", "eax", "al", "cl", "byte", "dword", "qword", "rel", "equ", "rep",
    "if", "else", "endif", "rept", "endr", "macro", "endm", "section", "global", "weak", "keep", "db", "dd", "dq", "resb",
    "align", "add", "mov", "jmp", "jz", "call", "ret", "push", "lea", "movzx", "imul", "shl", "setc", "movsb", "syscall",
    "nop", "text", "bss", "start", "a", ".l", "x", "m", "0", "1", "2", "0x10", "'a'", "\"t\\n\"", "$", ",", ":", "[", "]",
    "(", ")", "+", "-", "*", "/", "%", "&", "|", "^", "~", "<<", ">>", ";", "\\a", "\\@", "4096", "65536", "?", "\t"};
  private static final String[] LINES = {"if 1", "if 0", "else", "endif", "rept 3", "rept 0", "endr", "macro m a", "endm",
    "m 5", "m a, b", "start: nop", "global start, x", "section data", "section bss", "section text", "resb 9", "align 16",
    "x: dq x", "dq x - y", "jmp x", "jz y", "y: add eax, [rax + rcx*4]", "db \\a", "x\\@: nop", "mov rax, x", "call y",
    "weak y", "keep", "a equ 5", "mov eax, a", "syscall", "int3", "rep stosb", "pop rcx", "push rax", "div ecx",
    "mov [rel x], eax", "leave", "ret", "mov edx, 5"};

  public static void main(String[] args) {
    for (int round = 0; round < 150; round++) {
      b.works = new NativeWorks();
      for (int turn = 0; turn < 20; turn++) {
        makeUnit();
        linkAndRun();
        ask();
      }
    }
    deep();
    b.end();
  }

  private static void makeUnit() {
    StringBuilder source = new StringBuilder();
    if (random.nextInt(3) == 0) {
      source.append("global start\nstart: nop\n");
    }
    for (int i = random.nextInt(20); i > 0; i--) {
      if (random.nextInt(4) > 0) {
        source.append(LINES[random.nextInt(LINES.length)]);
      } else {
        for (int k = random.nextInt(8); k > 0; k--) {
          source.append(TOKENS[random.nextInt(TOKENS.length)]).append(random.nextInt(3) > 0 ? " " : "");
        }
      }
      source.append(random.nextInt(50) == 0 ? (char) random.nextInt(256) : '\n');
    }
    int number = b.unit(random.nextInt(3) == 0, source.toString());
    boolean faulty = b.works.fault(0) != 0;
    b.due("a fault of " + source, faulty, number == -1);
    b.due("a line of " + source, b.works.fault(1) > 0, faulty && b.works.fault(2) < 32);
    if (number >= 0) {
      for (int s = 0; s < 4; s++) {
        int size = b.works.size(number, s);
        b.due("last octet", size > 0 && b.works.octet(number, s, size - 1) == -1, false);
        b.due("octet behind", b.works.octet(number, s, size), -1);
      }
    }
  }

  private static void linkAndRun() {
    if (random.nextInt(3) == 0 && b.link()) {
      b.due("load", b.works.load(), b.symbol("start"));
    }
    try {
      int most = 1 + random.nextInt(200);
      int done = b.works.run(most);
      b.due("steps", done >= 0 && done <= most, true);
      b.due("stop", done < most && b.works.stop(0) == 0, false);
    } catch (IllegalStateException e) {
      b.due("nothing to run", b.works.stop(0) == 1 || b.works.register(18) == 0x400000, true);
    }
    if (random.nextInt(9) == 0) {
      b.works.clear();
    }
  }

  private static void ask() {
    for (int k = -1; k <= 20; k++) {
      b.works.register(k);
      b.works.stop(k);
      b.works.output(k);
    }
    long address = 0x400000 + random.nextInt(20000);
    boolean written = b.works.poke(address, 77);
    b.due("poked", written && b.works.peek(address) != 77, false);
    b.works.where(random.nextLong());
    b.works.peek(random.nextLong());
    b.works.set(random.nextInt(17), random.nextInt(3) == 0 ? random.nextLong() : address);
    b.works.stopAt(0x400000 + random.nextInt(40), random.nextBoolean());
    b.feed("some input");
    b.works.input(random.nextInt(20) - 3);
  }

  /** Lines as long and as deep as they may be. */
  private static void deep() {
    String[] parts = {"(", ")", "-", "~", "[", "]", "a:", "1,", ",", "x+", "1<<", "rax+", "\"", "'", "\\", ";", "byte ", "5 "};
    String[] heads = {"db ", "mov eax, ", "mov eax, [", "m ", "global ", "", "if ", "macro n ", "jmp ", "rep "};
    for (String head : heads) {
      for (String part : parts) {
        String line = head + Bench.times((1024 - head.length()) / part.length(), part);
        String fault = b.faultOf("macro m a", "endm", line);
        b.due("a fault at the line of " + head + part, fault.equals("none") || fault.endsWith("@3"), true);
      }
    }
  }
}
