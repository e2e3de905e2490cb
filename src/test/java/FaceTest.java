/** Promises 1 to 7: a new object, the tape, and what is asked of units. */
public final class FaceTest {
  private static final Bench b = new Bench();

  public static void main(String[] args) {
    fresh();
    tape();
    units();
    faults();
    octets();
    kept();
    b.end();
  }

  private static void fresh() {
    b.due("NONE", NativeWorks.NONE, -1);
    b.works = new NativeWorks();
    b.due("kind", b.works.fault(0), 0);
    b.due("line", b.works.fault(1), 0);
    b.due("unit", b.works.fault(2), -1);
    b.due("another", b.works.fault(3), -1);
    b.due("another", b.works.fault(-1), -1);
    b.due("size", b.works.size(0, 0), -1);
    b.due("octet", b.works.octet(0, 0, 0), -1);
    b.due("where", b.works.where(0x400000), -1);
    b.due("link", b.link(), false);
    b.due("symbol", b.symbol("start"), -1);
    b.due("an empty tape", b.works.feed(0, 0, 0, 0, 0), 20);
    b.works.clear();
    b.due("it stays", b.works.feed(0, 0, 0, 0, 0), 40);
  }

  private static void tape() {
    b.works = new NativeWorks();
    // db 1,2,3 with what n leaves off it
    b.due("fed", b.works.feed(0x64622031, 0x2c322c33, 0x34353637, -1, 0x80000000), 20);
    b.due("unit", unit(8), 0);
    b.due("bytes", b.bytes(0, 0), "010203");
    b.due("the tape is empty", b.works.feed(0x64622031, 0x2c322c33, 0x3b3b3b3b, 0x3b80ff01, -1), 20);
    b.due("all of it", unit(1000), 1);
    b.due("bytes", b.bytes(1, 0), "010203");
    b.works.feed(-1, -1, -1, -1, -1);
    b.due("none of it", unit(-5), 2);
    b.due("size", b.works.size(2, 0), 0);
    b.due("the tape is empty", b.works.feed(-1, -1, -1, -1, -1), 20);
    b.due("a byte of it", unit(1), -1);
    b.due("the tape is empty", b.works.feed(0, 0, 0, 0, 0), 20);
    b.works = new NativeWorks();
    for (int i = 1; i <= 3276; i++) {
      if (b.works.feed(i, i, i, i, i) != 20 * i) {
        b.due("feed " + i, false, true);
      }
    }
    b.due("too much", b.works.feed(1, 1, 1, 1, 1), -1);
    b.due("too much again", b.works.feed(1, 1, 1, 1, 1), -1);
    b.due("nothing has changed", b.works.input(65536), 65520);
    b.due("input takes what fits", b.works.feed(1, 1, 1, 1, 1), 20);
    b.due("16 of 20", b.works.input(20), 65536);
    b.due("the tape is empty", b.works.feed(1, 1, 1, 1, 1), 20);
  }

  private static int unit(int n) {
    try {
      return b.works.unit(n, false);
    } catch (IllegalArgumentException e) {
      return -1;
    }
  }

  private static void units() {
    b.works = new NativeWorks();
    for (int i = 0; i < 32; i++) {
      b.due("unit", b.unit(i % 2 == 0, "db " + i), i);
    }
    b.due("33rd", b.unit(false, "nop"), -1);
    b.due("kind", b.works.fault(0), 5);
    b.due("line", b.works.fault(1), 0);
    b.due("unit", b.works.fault(2), 32);
    b.due("last", b.bytes(31, 0), "1f");
    b.due("none such", b.works.size(32, 0), -1);
    b.works.clear();
    b.due("gone", b.works.size(0, 0), -1);
    b.due("the fault stays", b.works.fault(0), 5);
    b.due("0 again", b.unit(false, "db 7"), 0);
    b.due("its byte", b.bytes(0, 0), "07");
  }

  private static void faults() {
    b.works = new NativeWorks();
    b.unit(false, "nop");
    b.due("fault", b.unit(false, "nop", "foo"), -1);
    b.due("kind", b.works.fault(0), 2);
    b.due("line", b.works.fault(1), 2);
    b.due("unit", b.works.fault(2), 1);
    b.due("no such unit", b.works.size(1, 0), -1);
    b.due("the same number", b.unit(false, "a: dq b", "b:"), 1);
    b.due("kind", b.works.fault(0), 0);
    b.due("line", b.works.fault(1), 0);
    b.due("unit", b.works.fault(2), -1);
    // What a unit with a fault named and defined is gone.
    b.due("fault", b.unit(false, "a: nop", "c equ 5", "foo"), -1);
    b.due("again", b.unit(false, "c: nop", "a equ 5"), 2);
  }

  private static void octets() {
    b.make("db 1, 128, 255", "dd x", "jmp $", "section rodata", "db 4", "section data", "db 5", "section bss",
        "resb 2");
    b.due("text", b.works.size(0, 0), 9);
    b.due("rodata", b.works.size(0, 1), 1);
    b.due("data", b.works.size(0, 2), 1);
    b.due("bss", b.works.size(0, 3), 2);
    b.due("no section", b.works.size(0, 4), -1);
    b.due("no section", b.works.size(0, -1), -1);
    b.due("no unit", b.works.size(1, 0), -1);
    b.due("no unit", b.works.size(-1, 0), -1);
    b.due("text 1", b.works.octet(0, 0, 1), 128);
    b.due("text 2", b.works.octet(0, 0, 2), 255);
    b.due("waits", b.works.octet(0, 0, 3), 0);
    b.due("short", b.works.octet(0, 0, 8), 254);
    b.due("behind", b.works.octet(0, 0, 9), -1);
    b.due("ahead", b.works.octet(0, 0, -1), -1);
    b.due("rodata", b.works.octet(0, 1, 0), 4);
    b.due("data", b.works.octet(0, 2, 0), 5);
    b.due("bss", b.works.octet(0, 3, 1), 0);
    b.due("behind bss", b.works.octet(0, 3, 2), -1);
    b.due("no section", b.works.octet(0, 4, 0), -1);
    b.due("no unit", b.works.octet(1, 0, 0), -1);
  }

  /** clear() leaves image, symbol(), where(), machine and fault(); a new image leaves the machine. */
  private static void kept() {
    b.start("global start", "start: nop", "nop", "int3");
    b.works.run(1);
    b.works.clear();
    b.due("symbol", b.symbol("start"), 0x400000);
    b.due("where", b.works.where(0x400001), 3);
    b.due("ip", b.works.register(16), 0x400001);
    b.due("second", b.unit(false, "global start", "nop", "ud2", "start: mov eax, 5"), 0);
    b.due("link", b.link(), true);
    b.due("new symbol", b.symbol("start"), 0x400003);
    b.due("new where", b.works.where(0x400001), 3);
    b.due("none there now", b.works.where(0x400002), -1);
    b.due("the machine has the image before", b.works.run(5), 2);
    b.due("stop", b.works.stop(0), 6);
    b.due("load", b.works.load(), 0x400003);
    b.due("stop", b.works.stop(0), 0);
    b.due("a fault", b.unit(false, "foo"), -1);
    b.due("kind", b.works.fault(0), 2);
    b.works.clear();
    b.due("kind", b.works.fault(0), 2);
  }
}
