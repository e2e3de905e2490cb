/** Promises 10 to 19: the machine, its memory, what stops it, and what is asked of it. */
public final class MachineTest {
  private static final Bench b = new Bench();
  private static final long TOP = Bench.TOP;
  private static final long TEXT = Bench.TEXT;

  public static void main(String[] args) {
    beforeLoad();
    loaded();
    running();
    access();
    pushAndPop();
    divisions();
    stopPlaces();
    flowing();
    strings();
    input();
    output();
    breaks();
    services();
    otherOps();
    flagsStay();
    sets();
    b.end();
  }

  private static void beforeLoad() {
    b.works = new NativeWorks();
    b.due("run", b.run(1), "state");
    b.due("run of no number", b.run(0), "argument");
    b.due("run of too many", b.run(4001), "argument");
    for (int k = 0; k < 17; k++) {
      b.register(k, 0);
    }
    b.register(17, 2);
    b.register(18, 0x400000);
    b.register(19, 0);
    b.register(20, 0);
    b.register(-1, 0);
    b.due("set", b.works.set(3, -5), true);
    b.register(3, -5);
    b.due("set ip", b.works.set(16, 7), true);
    b.register(16, 7);
    b.due("peek", b.works.peek(TEXT), -1);
    b.due("peek stack", b.works.peek(TOP - 1), -1);
    b.due("poke stack", b.works.poke(TOP - 1, 1), false);
    b.due("stop", b.works.stop(0), 0);
    b.due("output", b.works.output(-1), 0);
    b.due("output 0", b.works.output(0), -1);
    b.due("stopAt", b.works.stopAt(5, true), true);
    String thrown = "nothing";
    try {
      b.works.load();
    } catch (IllegalStateException e) {
      thrown = "state";
    }
    b.due("load without an image", thrown, "state");
    b.feed("abc");
    b.due("input", b.works.input(3), 3);
    b.feed("abc");
    b.due("input grows", b.works.input(1), 4);
    b.unit(false, "global start", "start: xor eax, eax", "mov edx, 5", "syscall");
    b.link();
    b.works.load();
    b.register(3, 0);
    b.register(16, TEXT);
    b.stops(3, 3, 0, 0);
    b.register(0, 0);
  }

  private static void loaded() {
    b.program("mov eax, 7", "add rsp, -8", "int3", "section data", "keep", "db 5", "section bss", "keep", "resb 3");
    for (int k = 0; k < 16; k++) {
      b.register(k, k == 4 ? TOP : 0);
    }
    b.register(16, TEXT);
    b.register(17, 2);
    b.register(18, 0x402000);
    b.due("text", b.works.peek(TEXT), 0xb8);
    b.due("data", b.works.peek(0x401000), 5);
    b.due("between", b.works.peek(0x401001), 0);
    b.due("write between", b.works.poke(0x40100f, 9), true);
    b.due("bss", b.works.peek(0x401012), 0);
    b.due("behind bss", b.works.peek(0x401013), -1);
    b.due("no heap yet", b.works.peek(0x402000), -1);
    b.due("behind text", b.works.peek(TEXT + 10), -1);
    b.due("stack", b.works.peek(TOP - 65536), 0);
    b.due("below the stack", b.works.peek(TOP - 65537), -1);
    b.due("above the stack", b.works.peek(TOP), -1);
    b.due("poke text", b.works.poke(TEXT, 9), false);
    b.due("poke data", b.works.poke(0x401000, 0x1ff), true);
    b.due("its lowest byte", b.works.peek(0x401000), 255);
    b.due("poke stack", b.works.poke(TOP - 1, -1), true);
    b.stops(3, 10, 6, 0);
    b.register(19, 3);
    b.due("load again", b.works.load(), TEXT);
    b.due("as it was", b.works.peek(0x401000), 5);
    b.due("stack as it was", b.works.peek(TOP - 1), 0);
    b.register(0, 0);
    b.register(4, TOP);
    b.register(17, 2);
    b.register(19, 0);
    b.due("stop", b.works.stop(0), 0);
    b.start("section rodata", "keep", "db 7", "section text", "global start", "nop", "start: nop");
    b.register(16, TEXT + 1);
    b.due("rodata", b.works.peek(0x401000), 7);
    b.due("poke rodata", b.works.poke(0x401000, 7), false);
    b.register(18, 0x402000);
  }

  private static void running() {
    b.program("nop", "nop", "mov eax, 60", "mov edi, -1", "syscall", "nop");
    b.due("no number", b.run(0), "argument");
    b.due("too many", b.run(4001), "argument");
    b.stops(2, 2, 0, 0);
    b.register(16, TEXT + 2);
    b.register(19, 2);
    b.stops(3, 4000, 1, 0xffffffffL);
    b.register(19, 5);
    b.register(16, TEXT + 14);
    b.due("ended", b.run(1), "state");
    b.due("ended, and no number", b.run(0), "argument");
    b.works.set(16, TEXT);
    b.due("still ended", b.run(1), "state");
    b.due("stop stays", b.works.stop(0), 1);
    b.due("another what", b.works.stop(2), 0);
    b.works.load();
    b.stops(1, 1, 0, 0);
    b.program("jmp $");
    b.stops(4000, 4000, 0, 0);
    b.stops(4000, 4000, 0, 0);
    b.register(19, 8000);
    b.program("ud2");
    b.stops(0, 5, 2, 0);
    b.stops(0, 5, 2, 0);
    b.register(16, TEXT);
    b.register(19, 0);
    b.program("int3", "nop", "int3");
    b.stops(1, 5, 6, 0);
    b.register(16, TEXT + 1);
    b.stops(2, 5, 6, 0);
    b.program("nop", "db 0x90");
    b.stops(1, 5, 4, TEXT + 1);
    b.register(16, TEXT + 1);
    b.program("mov eax, 5");
    b.works.set(16, TEXT + 1);
    b.stops(0, 5, 4, TEXT + 1);
    b.works.set(16, TEXT - (1L << 32));
    b.stops(0, 5, 4, TEXT - (1L << 32));
    b.program("jmp rax", "section data", "keep", "nop");
    b.works.set(0, 0x401000);
    b.stops(1, 5, 4, 0x401000);
  }

  private static void access() {
    b.program("mov eax, [rbx]", "section rodata", "keep", "r: resb 8", "section data", "keep", "d: resb 8");
    b.works.set(0, -1);
    b.works.set(3, 0x401005);
    b.stops(0, 1, 3, 0x401005);
    b.register(0, -1);
    b.register(16, TEXT);
    b.works.set(3, 0x401004);
    b.stops(1, 1, 0, 0);
    b.register(0, 0);
    b.program("mov [rbx], eax", "section rodata", "keep", "r: resb 8", "section data", "keep", "d: resb 8");
    b.works.set(3, 0x401000);
    b.stops(0, 1, 3, 0x401000);
    b.works.set(3, TEXT);
    b.stops(0, 1, 3, TEXT);
    b.works.set(3, 0x402005);
    b.works.set(0, -1);
    b.stops(0, 1, 3, 0x402005);
    b.due("nothing is written", b.works.peek(0x402007), 0);
    b.works.set(3, 0x402004);
    b.stops(1, 1, 0, 0);
    b.due("written", b.works.peek(0x402007), 255);
    // What may be read but not written leaves all as it is, flags too.
    b.program("cmp eax, eax", "add [rbx], ecx", "section rodata", "keep", "r: dq 5");
    b.works.set(3, 0x401000);
    b.works.set(1, 1);
    b.stops(1, 5, 3, 0x401000);
    b.register(17, 2 + 64 + 4);
    b.program("xchg [rbx], eax", "section rodata", "keep", "r: dq 5");
    b.works.set(3, 0x401000);
    b.works.set(0, 9);
    b.stops(0, 1, 3, 0x401000);
    b.register(0, 9);
    // cmpxchg writes memory only if it is the same.
    b.program("cmpxchg [rbx], ecx", "cmpxchg [rbx], ecx", "section rodata", "keep", "r: dq 5");
    b.works.set(3, 0x401000);
    b.stops(1, 5, 3, 0x401000);
    b.register(0, 5);
    b.register(16, TEXT + 3);
    // An operand over the end of a part and the beginning of the next one may be read as a whole.
    b.program("mov rax, [rbx]", "resb 4096 - 3", "section rodata", "keep", "dq 0x0807060504030201");
    b.works.set(3, 0x400ffc);
    b.stops(1, 1, 0, 0);
    b.register(0, 0x0403020100000000L);
    b.works.set(16, TEXT);
    b.works.set(3, -4);
    b.stops(0, 1, 3, -4);
    // By 0 a shift reads, and a move that is not made reads.
    b.program("shl dword [rbx], cl", "shl dword [rcx], cl");
    b.works.set(3, TEXT);
    b.stops(1, 5, 3, 0);
    b.program("cmp eax, eax", "cmovne eax, [rbx]");
    b.stops(1, 5, 3, 0);
    // Data up to the heap: an operand over both, once there is a heap.
    b.program("mov [rbx], rax", "mov [rbx], rax", "mov eax, 12", "syscall", "section bss", "keep", "resb 4096");
    b.works.set(3, 0x401ffc);
    b.works.set(0, -1);
    b.stops(0, 1, 3, 0x401ffc);
    b.works.set(16, b.works.register(16) + 6);
    b.works.set(7, 0x402004);
    b.stops(2, 2, 0, 0);
    b.works.set(16, TEXT);
    b.works.set(0, -1);
    b.stops(1, 1, 0, 0);
    b.due("in the heap", b.works.peek(0x402003), 255);
    b.due("in bss", b.works.peek(0x401ffc), 255);
    b.works.set(3, 0x401ffd);
    b.stops(0, 1, 3, 0x401ffd);
    b.program("lea rax, [rbx + rbx*8 - 1]");
    b.works.set(3, 3);
    b.stops(1, 1, 0, 0);
    b.register(0, 26);
  }

  private static void pushAndPop() {
    b.program("push rax", "push rsp", "pop rbx", "pop rcx", "push -2", "pop rsp");
    b.works.set(0, 5);
    b.stops(4, 4, 0, 0);
    b.register(3, TOP - 8);
    b.register(1, 5);
    b.register(4, TOP);
    b.stops(2, 2, 0, 0);
    b.register(4, -2);
    b.program("push rax");
    b.works.set(4, TOP - 65536);
    b.stops(0, 1, 3, TOP - 65536 - 8);
    b.register(4, TOP - 65536);
    b.program("push qword [rax]");
    b.works.set(4, 8);
    b.works.set(0, 5);
    b.stops(0, 1, 3, 5);
    b.works.set(0, TEXT);
    b.stops(0, 1, 3, TEXT);
    b.program("pop rax");
    b.stops(0, 1, 3, TOP);
    b.register(4, TOP);
    // The address of what is popped to is told by rsp as it is then.
    b.program("push 7", "push 9", "pop [rsp]", "mov rax, [rsp]");
    b.stops(4, 4, 0, 0);
    b.register(0, 9);
    b.register(4, TOP - 8);
    b.program("push 7", "pop [rsp]");
    b.stops(1, 4, 3, TOP);
    b.register(4, TOP - 8);
    b.program("mov rbp, rsp", "push 5", "lea rbp, [rsp]", "push 6", "leave", "nop");
    b.stops(5, 5, 0, 0);
    b.register(5, 5);
    b.register(4, TOP);
    b.program("leave");
    b.works.set(5, 77);
    b.stops(0, 1, 3, 77);
    b.register(4, TOP);
    b.register(5, 77);
    b.program("call x", "x: ret 16");
    b.works.set(4, TOP - 64);
    b.stops(1, 1, 0, 0);
    b.register(4, TOP - 72);
    b.stops(1, 1, 0, 0);
    b.register(4, TOP - 48);
    b.register(16, TEXT + 5);
    b.program("call $");
    b.works.set(4, 0);
    b.stops(0, 1, 3, -8);
    b.register(16, TEXT);
    b.program("call [rax]");
    b.works.set(0, 3);
    b.stops(0, 1, 3, 3);
    b.program("ret");
    b.stops(0, 1, 3, TOP);
    b.program("call rsp");
    b.stops(1, 1, 0, 0);
    b.register(16, TOP);
  }

  private static void divisions() {
    b.program("div rbx");
    b.stops(0, 3, 5, 0);
    b.works.set(0, 17);
    b.works.set(3, 5);
    b.stops(1, 1, 0, 0);
    b.register(0, 3);
    b.register(2, 2);
    b.works.set(16, TEXT);
    b.works.set(2, 5);
    b.stops(0, 1, 5, 0);
    b.register(0, 3);
    b.register(2, 5);
    b.works.set(2, 4);
    b.works.set(0, -1);
    b.stops(1, 1, 0, 0);
    b.register(0, -1);
    b.register(2, 4);
    b.program("idiv rbx");
    b.works.set(0, -17);
    b.works.set(2, -1);
    b.works.set(3, 5);
    b.stops(1, 1, 0, 0);
    b.register(0, -3);
    b.register(2, -2);
    b.works.set(16, TEXT);
    b.works.set(0, Long.MIN_VALUE);
    b.works.set(2, -1);
    b.works.set(3, -1);
    b.stops(0, 1, 5, 0);
    b.works.set(3, 1);
    b.stops(1, 1, 0, 0);
    b.register(0, Long.MIN_VALUE);
    b.register(2, 0);
    // -2 to the power 64 by 3.
    b.works.set(16, TEXT);
    b.works.set(0, 0);
    b.works.set(2, -1);
    b.works.set(3, 3);
    b.stops(1, 1, 0, 0);
    b.register(0, -6148914691236517205L);
    b.register(2, -1);
    b.program("div bl");
    b.works.set(0, 0x7777777777770105L);
    b.works.set(3, 2);
    b.stops(1, 1, 0, 0);
    b.register(0, 0x7777777777770182L);
    b.works.set(16, TEXT);
    b.works.set(0, 0x200);
    b.stops(0, 1, 5, 0);
    b.program("idiv ebx");
    b.works.set(0, 0xfffffffff0000007L);
    b.works.set(2, 0x1234567800000001L);
    b.works.set(3, -2);
    b.stops(0, 1, 5, 0);
    b.works.set(2, 0x1234567800000000L);
    b.works.set(0, 7);
    b.stops(1, 1, 0, 0);
    b.register(0, 0xfffffffdL);
    b.register(2, 1);
    b.program("div qword [rbx]");
    b.works.set(3, 1);
    b.stops(0, 1, 3, 1);
  }

  private static void stopPlaces() {
    b.program("nop", "nop", "nop", "nop", "jmp start");
    b.due("on", b.works.stopAt(TEXT + 2, true), true);
    b.due("on again", b.works.stopAt(TEXT + 2, true), false);
    b.due("off another", b.works.stopAt(TEXT + 1, false), false);
    b.stops(2, 2, 0, 0);
    b.stops(5, 5, 0, 0);
    b.stops(5, 9, 7, TEXT + 2);
    b.register(16, TEXT + 2);
    b.register(19, 12);
    b.stops(5, 4000, 7, TEXT + 2);
    b.works.load();
    b.stops(2, 9, 7, TEXT + 2);
    b.due("off", b.works.stopAt(TEXT + 2, false), true);
    b.due("off again", b.works.stopAt(TEXT + 2, false), false);
    b.stops(9, 9, 0, 0);
    for (int i = 0; i < 16; i++) {
      b.due("place " + i, b.works.stopAt(1000 + i, true), true);
    }
    b.due("17th", b.works.stopAt(5, true), false);
    b.due("one of them", b.works.stopAt(1007, true), false);
    b.due("one less", b.works.stopAt(1007, false), true);
    b.due("one more", b.works.stopAt(5, true), true);
    // A rep that goes on is at its place again.
    b.program("rep stosb", "int3");
    b.works.stopAt(TEXT, true);
    b.works.set(1, 3);
    b.works.set(7, TOP - 8);
    b.stops(1, 9, 7, TEXT);
    b.stops(1, 9, 7, TEXT);
    b.stops(2, 9, 6, 0);
    // A place ahead of what can't be done.
    b.program("nop", "ud2");
    b.works.stopAt(TEXT + 1, true);
    b.stops(1, 9, 7, TEXT + 1);
    b.stops(0, 9, 2, 0);
  }

  private static void flowing() {
    b.program("jmp x", "nop", "x: jz y", "jnz y", "nop", "y: call z", "int3", "z: jmp [rel w]", "nop",
        "v: ret", "section data", "w: dq v");
    b.stops(7, 20, 6, 0);
    b.register(4, TOP);
    b.program("jmp rax");
    b.works.set(0, -9);
    b.stops(1, 2, 4, -9);
    String[] names = {"o", "no", "b", "ae", "e", "ne", "be", "a", "s", "ns", "p", "np", "l", "ge", "le", "g"};
    // cmp of al with bl: equal, below, above, with signs less, with a sign that wraps.
    int[][] pairs = {{5, 5}, {1, 2}, {2, 1}, {0xff, 1}, {0x80, 1}, {0x7f, 0xff}, {3, 0}};
    for (int[] pair : pairs) {
      int x = pair[0];
      int y = pair[1];
      int low = x - y & 0xff;
      int exact = (byte) x - (byte) y;
      boolean o = exact != (byte) exact;
      boolean s = (byte) low < 0;
      boolean[] holds = {o, x < y, x == y, x <= y, s, Integer.bitCount(low) % 2 == 0, (byte) x < (byte) y,
          (byte) x <= (byte) y};
      for (int c = 0; c < 16; c++) {
        b.program("cmp al, bl", "set" + names[c] + " dl", "cmov" + names[c] + " ecx, esi", "j" + names[c] + " start");
        b.works.set(0, x);
        b.works.set(3, y);
        b.works.set(1, -1);
        b.works.set(6, 6);
        b.works.run(4);
        boolean hold = holds[c / 2] != (c % 2 == 1);
        b.register(2, hold ? 1 : 0);
        b.register(1, hold ? 6 : 0xffffffffL);
        b.register(16, hold ? TEXT : TEXT + 2 + 3 + 3 + 2);
      }
    }
  }

  private static void strings() {
    b.program("movsb", "movsd", "movsq", "stosb", "stosd", "stosq", "section data", "keep",
        "db \"abcdefghijklmnop\"", "resb 64");
    b.works.set(6, 0x401000);
    b.works.set(7, 0x401010);
    b.works.set(0, 0x1122334455667788L);
    b.stops(6, 6, 0, 0);
    b.register(6, 0x40100d);
    b.register(7, 0x40101d + 13);
    String want = "abcdefghijklm";
    for (int i = 0; i < 13; i++) {
      b.due("copied", b.works.peek(0x401010 + i), want.charAt(i));
    }
    int[] filled = {0x88, 0x88, 0x77, 0x66, 0x55, 0x88, 0x77, 0x66, 0x55, 0x44, 0x33, 0x22, 0x11, 0};
    for (int i = 0; i < 14; i++) {
      b.due("filled", b.works.peek(0x40101d + i), filled[i]);
    }
    b.program("rep movsb", "int3", "section data", "keep", "db \"abc\"", "resb 64");
    b.works.set(6, 0x401000);
    b.works.set(7, 0x401001);
    b.works.set(1, 5);
    b.stops(3, 3, 0, 0);
    b.register(1, 2);
    b.register(16, TEXT);
    b.stops(3, 9, 6, 0);
    b.register(1, 0);
    b.due("over itself", b.works.peek(0x401005), 'a');
    b.program("rep movsq", "int3");
    b.stops(2, 9, 6, 0);
    b.register(6, 0);
    // Each step reads first, and changes nothing if it can't be done.
    b.program("rep movsd");
    b.works.set(1, 2);
    b.works.set(6, 11);
    b.works.set(7, 22);
    b.stops(0, 2, 3, 11);
    b.works.set(6, TEXT - 2);
    b.stops(0, 2, 3, TEXT - 2);
    b.program("rep movsb", "nop");
    b.works.set(1, 2);
    b.works.set(6, TEXT);
    b.works.set(7, TOP - 1);
    b.stops(1, 9, 3, TOP);
    b.register(1, 1);
    b.register(7, TOP);
    b.register(6, TEXT + 1);
    b.program("stosd");
    b.works.set(7, TOP - 3);
    b.stops(0, 9, 3, TOP - 3);
    b.register(7, TOP - 3);
  }

  private static void input() {
    String[] reads = {"again: xor eax, eax", "syscall", "jmp again", "section bss", "keep", "resb 16"};
    b.program(reads);
    b.feed("hello world");
    b.due("input", b.works.input(100), 20);
    b.feed("xyz");
    b.due("none of it", b.works.input(-1), 20);
    b.works.set(6, 0x401000);
    b.works.set(2, 5);
    b.stops(2, 2, 0, 0);
    b.register(0, 5);
    b.register(1, TEXT + 4);
    b.register(11, 2 + 64 + 4);
    b.due("first", b.works.peek(0x401000), 'h');
    b.due("fifth", b.works.peek(0x401004), 'o');
    b.due("no more", b.works.peek(0x401005), 0);
    b.works.set(2, 2);
    b.stops(3, 3, 0, 0);
    b.register(0, 2);
    b.due("next", b.works.peek(0x401001), 'w');
    b.feed("!");
    b.due("input", b.works.input(1), 14);
    // More than is there, and more than 16 bytes that may be written.
    b.works.set(2, -1);
    b.works.set(6, 0x401003);
    b.stops(3, 3, 0, 0);
    b.register(0, -14);
    b.works.set(6, 0x401002);
    b.stops(3, 3, 0, 0);
    b.register(0, 14);
    b.due("all came", b.works.peek(0x40100f), '!');
    b.works.set(6, 5);
    b.stops(3, 3, 0, 0);
    b.register(0, 0);
    b.feed("uv");
    b.due("input", b.works.input(2), 2);
    b.works.set(6, 0x401000);
    b.works.set(2, 3);
    b.stops(3, 3, 0, 0);
    b.register(0, 2);
    b.feed("z");
    b.due("input", b.works.input(1), 1);
    b.works.set(2, 0);
    b.stops(3, 3, 0, 0);
    b.register(0, 0);
    b.works.load();
    b.due("input is gone", b.works.input(0), 0);
  }

  private static void output() {
    String[] writes = {"again: mov eax, 1", "syscall", "jmp again", "section data", "keep", "db \"hello\""};
    b.program(writes);
    b.works.set(6, 0x401000);
    b.works.set(2, 5);
    b.stops(2, 2, 0, 0);
    b.register(0, 5);
    b.due("output", b.works.output(-1), 5);
    b.due("output 0", b.works.output(0), 'h');
    b.due("output 4", b.works.output(4), 'o');
    b.due("output 5", b.works.output(5), -1);
    b.due("output -2", b.works.output(-2), -1);
    b.works.set(2, 6);
    b.stops(3, 3, 0, 0);
    b.register(0, -14);
    b.works.set(2, 1);
    b.works.set(6, 1);
    b.stops(3, 3, 0, 0);
    b.register(0, -14);
    b.works.set(2, 0);
    b.stops(3, 3, 0, 0);
    b.register(0, 0);
    b.works.set(2, -1);
    b.stops(3, 3, 0, 0);
    b.register(0, -28);
    b.works.set(2, 65532);
    b.stops(3, 3, 0, 0);
    b.register(0, -28);
    b.works.set(2, 65531);
    b.stops(3, 3, 0, 0);
    b.register(0, -14);
    b.works.set(6, TOP - 65536);
    b.stops(3, 3, 0, 0);
    b.register(0, 65531);
    b.due("output is full", b.works.output(-1), 65536);
    b.works.set(2, 1);
    b.stops(3, 3, 0, 0);
    b.register(0, -28);
    b.works.set(2, 0);
    b.stops(3, 3, 0, 0);
    b.register(0, 0);
    b.works.load();
    b.due("output is empty", b.works.output(-1), 0);
  }

  private static void breaks() {
    b.program("again: mov eax, 12", "syscall", "jmp again");
    b.register(18, 0x401000);
    b.stops(2, 2, 0, 0);
    b.register(0, 0x401000);
    b.works.set(7, 0x411000);
    b.stops(3, 3, 0, 0);
    b.register(0, 0x411000);
    b.register(18, 0x411000);
    b.due("heap", b.works.poke(0x410fff, 5), true);
    b.due("heap's beginning", b.works.poke(0x401000, 6), true);
    b.due("behind it", b.works.peek(0x411000), -1);
    b.works.set(7, 0x411001);
    b.stops(3, 3, 0, 0);
    b.register(0, 0x411000);
    b.works.set(7, 0x400fff);
    b.stops(3, 3, 0, 0);
    b.register(0, 0x411000);
    b.works.set(7, 0x401001);
    b.stops(3, 3, 0, 0);
    b.register(0, 0x401001);
    b.due("given up", b.works.peek(0x410fff), -1);
    b.works.set(7, 0x411000);
    b.stops(3, 3, 0, 0);
    b.due("0 when it comes back", b.works.peek(0x410fff), 0);
    b.due("kept", b.works.peek(0x401000), 6);
    b.works.load();
    b.register(18, 0x401000);
    b.works.set(7, 0x411000);
    b.stops(3, 3, 0, 0);
    b.due("0 in a new load", b.works.peek(0x401000), 0);
    b.works.poke(0x410fff, 5);
    b.works.load();
    b.works.set(7, 0x411000);
    b.stops(3, 3, 0, 0);
    b.due("0 at the heap's end", b.works.peek(0x410fff), 0);
  }

  private static void services() {
    b.program("cmp eax, ebx", "syscall");
    b.works.set(0, 2);
    b.works.set(3, 3);
    b.stops(2, 2, 0, 0);
    b.register(0, -38);
    b.register(1, TEXT + 4);
    // 2 - 3: carry, sign, and of 0xff even parity.
    b.register(11, 2 + 1 + 128 + 4);
    b.register(17, 2 + 1 + 128 + 4);
    b.program("syscall");
    b.works.set(0, 0x10000003cL);
    b.stops(1, 1, 0, 0);
    b.register(0, -38);
    b.program("syscall");
    b.works.set(0, 60);
    b.works.set(7, -7);
    b.stops(1, 1, 1, -7);
    b.register(0, 60);
    b.register(1, TEXT + 2);
    b.register(16, TEXT + 2);
  }

  private static void otherOps() {
    b.program("mov al, 0x80", "cwde", "cdqe", "cdq", "cqo");
    b.works.set(0, 0x123456789abc8000L);
    b.works.set(2, -1);
    b.stops(1, 1, 0, 0);
    b.register(0, 0x123456789abc8080L);
    b.stops(1, 1, 0, 0);
    b.register(0, 0xffff8080L);
    b.stops(1, 1, 0, 0);
    b.register(0, 0xffffffffffff8080L);
    b.stops(1, 1, 0, 0);
    b.register(2, 0xffffffffL);
    b.stops(1, 1, 0, 0);
    b.register(2, -1);
    b.program("bsf eax, ebx", "bsr rcx, rbx", "bt ebx, edx", "bswap ebx", "bswap rsi");
    b.works.set(0, -1);
    b.stops(1, 1, 0, 0);
    b.register(0, -1);
    b.register(17, 2 + 64);
    b.works.set(16, TEXT);
    b.works.set(3, 0x0000123400001230L);
    b.works.set(6, 0x0102030405060708L);
    b.works.set(2, 36);
    b.stops(5, 5, 0, 0);
    b.register(0, 4);
    b.register(1, 44);
    b.register(3, 0x30120000L);
    b.register(6, 0x0807060504030201L);
    b.register(17, 2 + 1);
    b.program("xadd eax, ebx", "xadd ecx, ecx", "xchg al, bl", "not rdx", "mul sil");
    b.works.set(0, -1);
    b.works.set(3, 2);
    b.works.set(1, 0x80000001L);
    b.stops(1, 1, 0, 0);
    b.register(0, 1);
    b.register(3, 0xffffffffL);
    b.register(17, 2 + 1);
    b.stops(1, 1, 0, 0);
    b.register(1, 2);
    b.register(17, 2 + 1 + 2048);
    b.stops(1, 1, 0, 0);
    b.register(0, 0xff);
    b.register(3, 0xffffff01L);
    b.stops(1, 1, 0, 0);
    b.register(2, -1);
    b.works.set(6, 0xff);
    b.works.set(0, 0x55555555555555ffL);
    b.stops(1, 1, 0, 0);
    b.register(0, 0x555555555555fe01L);
    b.program("bt rax, rbx", "inc ecx", "dec edx", "bt eax, ebx");
    b.works.set(0, 1L << 36);
    b.works.set(3, 64 + 36);
    b.works.set(1, 0x7fffffff);
    b.works.set(2, 0x80000000L);
    b.stops(1, 1, 0, 0);
    b.register(17, 2 + 1);
    b.stops(1, 1, 0, 0);
    b.register(17, 2 + 1 + 2048 + 128 + 4);
    b.stops(1, 1, 0, 0);
    b.register(17, 2 + 1 + 2048 + 4);
    b.stops(1, 1, 0, 0);
    b.register(17, 2 + 2048 + 4);
    b.program("mul bl", "imul bl");
    b.works.set(0, 0x80);
    b.works.set(3, 2);
    b.stops(1, 1, 0, 0);
    b.register(0, 0x100);
    b.register(17, 2 + 1 + 2048);
    b.works.set(0, -1);
    b.stops(1, 1, 0, 0);
    b.register(0, -2);
    b.register(17, 2);
    b.program("mul ebx", "imul rax, rsi", "imul edi, edx, -3", "mul rsi");
    b.works.set(0, 0x8000);
    b.works.set(3, 0x10000);
    b.works.set(6, -2);
    b.stops(1, 1, 0, 0);
    b.register(17, 2);
    b.register(2, 0);
    b.works.set(16, TEXT);
    b.stops(1, 1, 0, 0);
    b.register(17, 2 + 1 + 2048);
    b.register(2, 0x8000);
    b.works.set(0, 3);
    b.stops(1, 1, 0, 0);
    b.register(0, -6);
    b.register(17, 2);
    b.stops(1, 1, 0, 0);
    b.register(7, 0xffffffffL & -3 * 0x8000);
    b.register(17, 2);
    b.works.set(0, 1);
    b.stops(1, 1, 0, 0);
    b.register(17, 2);
    b.register(2, 0);
    // What stands in a register that no byte tells, behind one that stands in memory.
    b.program("mov [rbx], rcx", "add eax, 1000", "mov [rbx], rcx", "inc eax", "mov [rbx], rcx", "mov edx, 5",
        "mov [rbx], rcx", "shl edx, 1", "shl edx, cl");
    b.works.set(3, TOP - 8);
    b.works.set(1, 2);
    b.stops(9, 9, 0, 0);
    b.register(0, 1001);
    b.register(2, 40);
    b.program("cmpxchg ecx, edx");
    b.works.set(0, 0x700000005L);
    b.works.set(1, 0x900000005L);
    b.works.set(2, -1);
    b.stops(1, 1, 0, 0);
    b.register(0, 0x700000005L);
    b.register(1, 0xffffffffL);
    b.works.set(16, TEXT);
    b.stops(1, 1, 0, 0);
    b.register(0, 0xffffffffL);
    b.register(1, 0xffffffffL);
    b.register(17, 2 + 1 + 4);
  }

  /** Flags that an op does not name stay as they were. */
  private static void flagsStay() {
    // cmp of 0x80000000 with 1 gives overflow; of 0 with 1 carry, sign and parity.
    b.program("cmp eax, ebx", "mov ecx, 5", "lea rcx, [rcx]", "not ecx", "push rcx", "pop rcx", "xchg ecx, edx",
        "movzx ecx, dl", "bswap ecx", "shl ecx, 0", "cdq", "nop", "setc sil", "cmovc ecx, edx");
    b.works.set(3, 1);
    b.stops(14, 14, 0, 0);
    b.register(17, 2 + 1 + 128 + 4);
    b.program("cmp eax, ebx", "inc ecx", "dec ecx", "rol ecx, 2", "imul ecx, ecx", "div ebx", "bsf edx, ebx");
    b.works.set(3, 1);
    b.stops(2, 2, 0, 0);
    b.register(17, 2 + 1);
    b.stops(1, 1, 0, 0);
    b.register(17, 2 + 1 + 64 + 4);
    b.works.set(1, 0x40000000);
    b.stops(1, 1, 0, 0);
    b.register(1, 1);
    b.register(17, 2 + 1 + 64 + 4);
    b.works.set(1, 2);
    b.stops(1, 1, 0, 0);
    b.register(17, 2 + 64 + 4);
    b.works.set(2, 0);
    b.stops(2, 2, 0, 0);
    b.register(17, 2 + 4);
    // By more than 1 a shift leaves O, by 1 it does not.
    b.program("cmp eax, ebx", "shl ecx, 2", "shl ecx, 1", "shr ecx, 1", "sar ecx, 1");
    b.works.set(0, 0x80000000L);
    b.works.set(3, 1);
    b.works.set(1, 0x10000001);
    b.stops(2, 2, 0, 0);
    b.register(1, 0x40000004);
    b.register(17, 2 + 2048);
    b.stops(1, 1, 0, 0);
    b.register(17, 2 + 2048 + 128);
    b.stops(1, 1, 0, 0);
    b.register(17, 2 + 2048);
    b.stops(1, 1, 0, 0);
    b.register(17, 2);
    // Bit by bit a byte is shifted out.
    b.program("shl al, cl", "rol bl, cl", "sar dl, cl");
    b.works.set(0, 0x1ff);
    b.works.set(3, 0x81);
    b.works.set(2, 0x80);
    b.works.set(1, 9);
    b.stops(1, 1, 0, 0);
    b.register(0, 0x100);
    b.register(17, 2 + 64 + 4);
    b.stops(1, 1, 0, 0);
    b.register(3, 3);
    b.register(17, 2 + 64 + 4 + 1);
    b.stops(1, 1, 0, 0);
    b.register(2, 0xff);
    b.register(17, 2 + 128 + 4 + 1);
    // By 0 not even the upper half of a register changes.
    b.program("shl eax, 32", "mov eax, eax");
    b.works.set(0, -1);
    b.stops(1, 1, 0, 0);
    b.register(0, -1);
    b.stops(1, 1, 0, 0);
    b.register(0, 0xffffffffL);
  }

  private static void sets() {
    b.program("nop");
    for (int k = 0; k < 17; k++) {
      b.due("set " + k, b.works.set(k, 100 + k), true);
      b.register(k, 100 + k);
    }
    b.due("set 17", b.works.set(17, 5), false);
    b.due("set -1", b.works.set(-1, 5), false);
    b.due("set 19", b.works.set(19, 5), false);
    b.register(17, 2);
    b.register(19, 0);
  }
}
