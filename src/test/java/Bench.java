/** What the tests share: a NativeWorks, texts fed to it, and a count of the answers that are not due. */
final class Bench {
  /** Where the text begins, and where the stack ends. */
  static final long TEXT = 0x400000L;
  static final long TOP = 0x7ffff000L;

  NativeWorks works = new NativeWorks();
  private int wrong = 0;
  private String about = "Answers";

  void feed(String text) {
    for (int i = 0; i < text.length(); i += 20) {
      works.feed(word(text, i), word(text, i + 4), word(text, i + 8), word(text, i + 12), word(text, i + 16));
    }
  }

  private static int word(String text, int at) {
    int word = 0;
    for (int i = at; i < at + 4; i++) {
      word = word << 8 | (i < text.length() ? text.charAt(i) : 0);
    }
    return word;
  }

  /** The number of the unit made of lines, or -1. */
  int unit(boolean library, String... lines) {
    String source = String.join("\n", lines);
    feed(source);
    try {
      return works.unit(source.length(), library);
    } catch (IllegalArgumentException e) {
      return -1;
    }
  }

  /** A fresh works with one unit of lines. */
  void make(String... lines) {
    works = new NativeWorks();
    due("unit of: " + String.join(" / ", lines) + " (fault " + works.fault(0) + ")", unit(false, lines), 0);
  }

  /** A fresh works with one unit of lines, linked and loaded. */
  void start(String... lines) {
    make(lines);
    due("link of: " + String.join(" / ", lines), link(), true);
    works.load();
  }

  /** A fresh works with a program that begins with its first line, linked and loaded. */
  void program(String... lines) {
    String[] all = new String[lines.length + 2];
    all[0] = "global start";
    all[1] = "start:";
    System.arraycopy(lines, 0, all, 2, lines.length);
    start(all);
  }

  void fresh() {
    works = new NativeWorks();
  }

  boolean link() {
    try {
      works.link();
      return true;
    } catch (IllegalStateException e) {
      return false;
    }
  }

  /** link() answers a length; its fault is what is seen of it if it does not. */
  void links(int length) {
    int got = -1;
    try {
      got = works.link();
    } catch (IllegalStateException e) {
      got = -100 - works.fault(0);
    }
    due("link", got, length);
  }

  void linkFails(int kind, int line, int unit) {
    due("link fails", link(), false);
    latestFault(kind, line, unit);
  }

  /** A unit of lines is refused, with a fault. */
  void refused(int kind, int line, int unit, String... lines) {
    due("unit of: " + String.join(" / ", lines), unit(false, lines), -1);
    latestFault(kind, line, unit);
  }

  /** A unit of lines becomes the one with a number. */
  void taken(int number, String... lines) {
    due("unit of: " + String.join(" / ", lines), unit(false, lines), number);
    latestFault(0, 0, -1);
  }

  void latestFault(int kind, int line, int unit) {
    due("kind", works.fault(0), kind);
    due("line", works.fault(1), line);
    due("unit", works.fault(2), unit);
  }

  /** The address of a symbol, or -1. */
  long symbol(String name) {
    feed(name);
    try {
      return works.symbol(name.length());
    } catch (java.util.NoSuchElementException e) {
      return -1;
    }
  }

  /** What run() throws, or how many steps it did. */
  String run(int n) {
    try {
      return Integer.toString(works.run(n));
    } catch (IllegalArgumentException e) {
      return "argument";
    } catch (IllegalStateException e) {
      return "state";
    }
  }

  void stops(int steps, int most, int kind, long value) {
    due("steps", run(most), Integer.toString(steps));
    due("stop", works.stop(0), kind);
    due("its value", works.stop(1), value);
  }

  void register(int k, long want) {
    due("register " + k, works.register(k), want);
  }

  /** A number of some bytes of the machine. */
  long number(long address, int width) {
    long number = 0;
    for (int i = width - 1; i >= 0; i--) {
      number = number << 8 | works.peek(address + i);
    }
    return number;
  }

  String bytes(int unit, int section) {
    StringBuilder all = new StringBuilder();
    for (int i = 0; i < works.size(unit, section); i++) {
      all.append(String.format("%02x", works.octet(unit, section, i)));
    }
    return all.toString();
  }

  /** The kind and line of the fault of a unit of lines, "none" if there is none. */
  String faultOf(String... lines) {
    works = new NativeWorks();
    int number = unit(false, lines);
    return number == 0 ? "none" : works.fault(0) + "@" + works.fault(1);
  }

  void fault(String want, String... lines) {
    due("fault of: " + String.join(" / ", lines), faultOf(lines), want);
  }

  /** The bytes of the text section of lines. */
  void code(String want, String... lines) {
    works = new NativeWorks();
    int number = unit(false, lines);
    String got = number == 0 ? bytes(0, 0) : works.fault(0) + "@" + works.fault(1);
    due("bytes of: " + String.join(" / ", lines), got, want);
  }

  /** The sentence of the document that the next answers are about; told with those that are not due. */
  void about(String sentence) {
    about = sentence;
  }

  void due(String what, long got, long want) {
    due(what, Long.toString(got), Long.toString(want));
  }

  void due(String what, boolean got, boolean want) {
    due(what, Boolean.toString(got), Boolean.toString(want));
  }

  void due(String what, String got, String want) {
    if (!got.equals(want)) {
      wrong++;
      System.out.println(about + ": " + what + ": answered " + got + ", due is " + want);
    }
  }

  static String times(int count, String what) {
    return what.repeat(count);
  }

  void end() {
    if (wrong > 0) {
      System.exit(1);
    }
  }
}
