import java.util.NoSuchElementException;

/** What README.md shows: a program from its source to its output, and what the calls throw on the way. */
public final class TourTest {
  private static final Bench b = new Bench();

  private static final String MAIN = String.join("\n",
      "global start",
      "section data",
      "buffer: resb 16",
      "section text",
      "start:",
      " lea rsi, [rel buffer]",
      " mov edx, 16",
      " xor eax, eax",
      " syscall",
      " mov edx, eax",
      " call write",
      " mov eax, 60",
      " mov edi, 3",
      " syscall",
      "");
  private static final String LIBRARY = String.join("\n",
      "global write",
      "write: mov eax, 1",
      " syscall",
      " ret",
      "");

  public static void main(String[] args) {
    tour();
    refusedSources();
    refusedLinks();
    refusedSymbols();
    refusedRuns();
    b.end();
  }

  /** A fresh works with the two units, linked. */
  private static void linked() {
    b.fresh();
    b.due("the unit", b.unit(false, MAIN), 0);
    b.due("the library", b.unit(true, LIBRARY), 1);
    b.links(4112);
  }

  private static void tour() {
    b.about("README: a source comes in by the tape");
    b.fresh();
    b.due("the tape", b.works.feed(0, 0, 0, 0, 0), 20);
    b.due("an empty source", b.works.input(20), 20);
    b.about("README: and becomes a unit");
    linked();
    b.due("its text", b.works.size(0, 0), 35);
    b.due("its data", b.works.size(0, 2), 16);
    b.due("its first byte", b.works.octet(0, 0, 0), 0x48);
    b.due("what waits", b.works.octet(0, 0, 3), 0);
    b.about("README: is linked");
    b.due("write", b.symbol("write"), 0x400030L);
    b.due("the line", b.works.where(0x400000L), 6);
    b.due("the library's line", b.works.where(0x400030L), 65536 + 2);
    b.about("README: loaded and run");
    b.due("start", b.works.load(), 0x400000L);
    b.feed("hello");
    b.due("input", b.works.input(5), 5);
    b.due("a place to stop at", b.works.stopAt(0x400030L, true), true);
    b.stops(6, 1000, 7, 0x400030L);
    b.register(0, 5);
    b.register(16, 0x400030L);
    b.stops(6, 1000, 1, 3);
    b.due("output", b.works.output(-1), 5);
    b.due("its first byte", b.works.output(0), 'h');
    b.due("what was read", b.works.peek(0x401000L), 'h');
    b.due("steps", b.works.register(19), 12);
  }

  private static void refusedSources() {
    b.about("README: unit() throws IllegalArgumentException, fault() tells why");
    b.fresh();
    b.refused(2, 2, 0, "nop", "mov eax");
    b.due("no such unit", b.works.size(0, 0), -1);
    b.due("the next one", b.unit(false, "nop"), 0);
  }

  private static void refusedLinks() {
    b.about("README: link() throws IllegalStateException, fault() tells why");
    b.fresh();
    b.taken(0, "global start", "start: call write");
    b.linkFails(3, 2, 0);
    b.due("the library", b.unit(true, LIBRARY), 1);
    b.links(24);
    b.latestFault(0, 0, -1);
  }

  private static void refusedSymbols() {
    b.about("README: symbol() throws NoSuchElementException, load() IllegalStateException");
    b.fresh();
    b.feed("start");
    String thrown = "none";
    try {
      b.works.symbol(5);
    } catch (NoSuchElementException e) {
      thrown = "no such element";
    }
    b.due("symbol without an image", thrown, "no such element");
    thrown = "none";
    try {
      b.works.load();
    } catch (IllegalStateException e) {
      thrown = "state";
    }
    b.due("load without an image", thrown, "state");
  }

  private static void refusedRuns() {
    b.about("README: run() throws IllegalArgumentException, IllegalStateException");
    b.fresh();
    b.due("nothing is loaded", b.run(1), "state");
    b.due("no steps", b.run(0), "argument");
    linked();
    b.works.load();
    b.due("too many steps", b.run(4001), "argument");
    b.stops(12, 4000, 1, 3);
    b.due("it has ended", b.run(1), "state");
    b.due("too many steps of what has ended", b.run(4001), "argument");
  }
}
