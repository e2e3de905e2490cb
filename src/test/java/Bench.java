/** What the tests share: a NativeWorks, texts fed to it, and a count of the answers that are not due. */
final class Bench {
  NativeWorks works = new NativeWorks();
  private int wrong = 0;

  void feed(String text) {
    for (int i = 0; i < text.length(); i += 20) {
      works.feed(word(text, i), word(text, i + 4), word(text, i + 8), word(text, i + 12), word(text, i + 16));
    }
  }

  private static int word(String text, int at) {
    int word = 0;
    for (int i = at; i < at + 4; i++) {
      word = word << 8 | (i < text.length() ? text.charAt(i) : 0);
    }
    return word;
  }

  /** The number of the unit made of lines, or -1. */
  int unit(boolean library, String... lines) {
    String source = String.join("\n", lines);
    feed(source);
    try {
      return works.unit(source.length(), library);
    } catch (IllegalArgumentException e) {
      return -1;
    }
  }

  /** A fresh works with one unit of lines. */
  void make(String... lines) {
    works = new NativeWorks();
    due("unit of: " + String.join(" / ", lines) + " (fault " + works.fault(0) + ")", unit(false, lines), 0);
  }

  /** A fresh works with one unit of lines, linked and loaded. */
  void start(String... lines) {
    make(lines);
    due("link of: " + String.join(" / ", lines), link(), true);
    works.load();
  }

  boolean link() {
    try {
      works.link();
      return true;
    } catch (IllegalStateException e) {
      return false;
    }
  }

  /** The address of a symbol, or -1. */
  long symbol(String name) {
    feed(name);
    try {
      return works.symbol(name.length());
    } catch (java.util.NoSuchElementException e) {
      return -1;
    }
  }

  String bytes(int unit, int section) {
    StringBuilder all = new StringBuilder();
    for (int i = 0; i < works.size(unit, section); i++) {
      all.append(String.format("%02x", works.octet(unit, section, i)));
    }
    return all.toString();
  }

  /** The kind and line of the fault of a unit of lines, "none" if there is none. */
  String faultOf(String... lines) {
    works = new NativeWorks();
    int number = unit(false, lines);
    return number == 0 ? "none" : works.fault(0) + "@" + works.fault(1);
  }

  void fault(String want, String... lines) {
    due("fault of: " + String.join(" / ", lines), faultOf(lines), want);
  }

  /** The bytes of the text section of lines. */
  void code(String want, String... lines) {
    works = new NativeWorks();
    int number = unit(false, lines);
    String got = number == 0 ? bytes(0, 0) : works.fault(0) + "@" + works.fault(1);
    due("bytes of: " + String.join(" / ", lines), got, want);
  }

  void due(String what, long got, long want) {
    due(what, Long.toString(got), Long.toString(want));
  }

  void due(String what, boolean got, boolean want) {
    due(what, Boolean.toString(got), Boolean.toString(want));
  }

  void due(String what, String got, String want) {
    if (!got.equals(want)) {
      wrong++;
      System.out.println(what + ": answered " + got + ", due is " + want);
    }
  }

  static String times(int count, String what) {
    return what.repeat(count);
  }

  void end() {
    if (wrong > 0) {
      System.exit(1);
    }
  }
}
