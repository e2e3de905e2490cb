import java.math.BigInteger;
import java.util.Random;

/**
 * Promise 12: registers, flags and bytes behind instructions with edges of numbers as operands, against what the
 * document's sentences say in numbers of any size.
 */
public final class ArithmeticTest {
  private static final Bench b = new Bench();
  private static final Random random = new Random(12);
  private static final int PER_PROGRAM = 12;

  private static final int C = 1;
  private static final int P = 4;
  private static final int Z = 64;
  private static final int S = 128;
  private static final int O = 2048;

  private static final String[][] NAMES = {
    {"al", "cl", "dl", "bl", "spl", "bpl", "sil", "dil", "r8b", "r9b", "r10b", "r11b", "r12b", "r13b", "r14b", "r15b"},
    {"eax", "ecx", "edx", "ebx", "esp", "ebp", "esi", "edi", "r8d", "r9d", "r10d", "r11d", "r12d", "r13d", "r14d", "r15d"},
    {"rax", "rcx", "rdx", "rbx", "rsp", "rbp", "rsi", "rdi", "r8", "r9", "r10", "r11", "r12", "r13", "r14", "r15"}
  };
  private static final int[] SIZES = {1, 4, 8};
  private static final String[] TOLD = {"byte", "dword", "qword"};
  private static final long[] EDGES = {0, 1, 2, 3, 5, 0x7e, 0x7f, 0x80, 0x81, 0xfe, 0xff, 0x100, 0x7fff, 0x8000, 0xffff, 0x10000,
    0x3fffffff, 0x40000000, 0x7ffffffe, 0x7fffffff, 0x80000000L, 0x80000001L, 0xfffffffeL, 0xffffffffL, 0x100000000L,
    0x100000001L, 0x3fffffffffffffffL, 0x4000000000000000L, 0x7ffffffffffffffeL, Long.MAX_VALUE, Long.MIN_VALUE,
    Long.MIN_VALUE + 1, -0x80000001L, -0x80000000L, -0x8000, -0x81, -0x80, -3, -2, -1};
  private static final String[] SUMS = {"add", "or", "adc", "sbb", "and", "sub", "xor", "cmp", "mov", "test", "xchg", "xadd",
    "cmpxchg"};
  private static final String[] SINGLES = {"not", "neg", "mul", "imul", "div", "idiv", "inc", "dec"};
  private static final String[] SHIFTS = {"rol", "ror", "shl", "shr", "sar"};
  private static final String[] CONDITIONS = {"o", "no", "b", "ae", "e", "ne", "be", "a", "s", "ns", "p", "np", "l", "ge", "le", "g"};

  /** What the machine should have: registers, flags, and the number in memory, at the address in the register MEM. */
  private static final int MEM = 13;
  private static final long AT = Bench.TOP - 64;
  private static final long[] r = new long[16];
  private static int flags;
  private static long memory;

  /** The instruction: its word, the operand x and y as registers, or -1 for memory, -2 for a number. */
  private static String word;
  private static int size;
  private static int x;
  private static int y;
  private static long number;

  public static void main(String[] args) {
    for (int i = 0; i < 1500; i++) {
      program();
    }
    b.end();
  }

  private static int sizeIndex() {
    return size == 1 ? 0 : size == 4 ? 1 : 2;
  }

  private static int register() {
    int k = random.nextInt(16);
    return k == 4 || k == MEM ? 0 : k;
  }

  private static long edge() {
    int sort = random.nextInt(8);
    return sort == 0 ? random.nextLong() : sort == 1 ? 1L << random.nextInt(64) : EDGES[random.nextInt(EDGES.length)];
  }

  private static String name(int operand) {
    return operand >= 0 ? NAMES[sizeIndex()][operand] : operand == -1 ? TOLD[sizeIndex()] + " [r13]" : Long.toString(number);
  }

  private static void program() {
    String[] lines = new String[PER_PROGRAM];
    Object[][] kept = new Object[PER_PROGRAM][];
    for (int i = 0; i < PER_PROGRAM; i++) {
      lines[i] = instruction();
      kept[i] = new Object[] {word, size, x, y, number};
    }
    b.program(lines);
    java.util.Arrays.fill(r, 0);
    r[4] = Bench.TOP;
    flags = 0;
    memory = 0;
    for (int i = 0; i < PER_PROGRAM; i++) {
      word = (String) kept[i][0];
      size = (Integer) kept[i][1];
      x = (Integer) kept[i][2];
      y = (Integer) kept[i][3];
      number = (Long) kept[i][4];
      b.about(lines[i]);
      step();
    }
  }

  private static String instruction() {
    size = SIZES[random.nextInt(3)];
    x = random.nextInt(4) == 0 ? -1 : register();
    y = register();
    number = 0;
    int sort = random.nextInt(12);
    if (sort <= 3) {
      word = SUMS[random.nextInt(SUMS.length)];
      boolean numbers = random.nextInt(4) == 0 && !word.startsWith("x") && !word.equals("cmpxchg");
      if (numbers) {
        y = -2;
        number = size == 1 ? (byte) edge() : (int) edge();
      } else if (random.nextInt(4) == 0 && !word.startsWith("x") && !word.equals("cmpxchg") && !word.equals("test")) {
        x = Math.max(x, 0);
        y = -1;
      }
      return word + " " + name(x) + ", " + name(y);
    }
    if (sort <= 5) {
      word = SINGLES[random.nextInt(SINGLES.length)];
      // By rdx a division of what it is the upper half of may always stop.
      x = x == 2 && word.endsWith("div") ? 3 : x;
      return word + " " + name(x);
    }
    if (sort <= 7) {
      word = SHIFTS[random.nextInt(SHIFTS.length)];
      y = random.nextBoolean() ? 1 : -2;
      int[] counts = {0, 1, 2, 7, 8, 9, 31, 32, 33, 63, 64, 65, 127};
      number = counts[random.nextInt(counts.length)];
      return word + " " + name(x) + ", " + (y == 1 ? "cl" : name(y));
    }
    return other(sort);
  }

  private static String other(int sort) {
    size = random.nextBoolean() ? 4 : 8;
    if (sort == 8) {
      word = "product";
      boolean two = random.nextBoolean();
      x = Math.max(x, 0);
      y = random.nextInt(4) == 0 ? -1 : y;
      number = two ? 0 : (int) edge();
      String third = two ? "" : ", " + number;
      word = two ? "product" : "product3";
      return "imul " + name(x) + ", " + name(y) + third;
    }
    if (sort == 9) {
      word = new String[] {"bsf", "bsr", "bt", "bswap"}[random.nextInt(4)];
      if (word.equals("bswap")) {
        x = Math.max(x, 0);
        return word + " " + name(x);
      }
      if (word.equals("bt") && random.nextBoolean()) {
        y = -2;
        number = random.nextInt(256);
      } else if (!word.equals("bt")) {
        x = Math.max(x, 0);
        y = random.nextInt(4) == 0 ? -1 : y;
      }
      return word + " " + name(x) + ", " + name(y);
    }
    if (sort == 10) {
      int c = random.nextInt(16);
      number = c;
      if (random.nextBoolean()) {
        word = "set";
        size = 1;
        return "set" + CONDITIONS[c] + " " + name(x);
      }
      word = "cmov";
      x = Math.max(x, 0);
      y = random.nextInt(4) == 0 ? -1 : y;
      return "cmov" + CONDITIONS[c] + " " + name(x) + ", " + name(y);
    }
    word = new String[] {"movzx", "movsx", "movsxd", "cdq", "cqo", "cwde", "cdqe"}[random.nextInt(7)];
    if (word.startsWith("c")) {
      return word;
    }
    x = Math.max(x, 0);
    size = word.equals("movsxd") ? 8 : size;
    String from = random.nextInt(4) == 0 ? (y = -1) + "" : "";
    int small = word.equals("movsxd") ? 1 : 0;
    return word + " " + name(x) + ", " + (from.isEmpty() ? NAMES[small][y] : TOLD[small] + " [r13]");
  }

  /** Gives the operands edges, does the instruction there and here, and compares. */
  private static void step() {
    boolean divides = word.endsWith("div");
    for (int k : new int[] {0, 1, 2, x, y}) {
      if (k >= 0 && random.nextInt(3) > 0) {
        set(k, edge());
      }
    }
    if (divides && random.nextBoolean()) {
      set(2, random.nextInt(3) - 1);
    }
    if (random.nextInt(3) == 0) {
      memory = edge();
    }
    set(MEM, AT);
    for (int i = 0; i < 8; i++) {
      b.works.poke(AT + i, (int) (memory >> 8 * i));
    }
    boolean done = model();
    b.due("steps", b.works.run(1), done ? 1 : 0);
    if (!done) {
      b.due("stop", b.works.stop(0), 5);
      b.due("its value", b.works.stop(1), 0);
    }
    compare();
    if (!done) {
      // The next run() tries that one again: now 1 by 1.
      set(2, 0);
      set(0, 1);
      write(x, 1);
      for (int k = 0; k < 16; k++) {
        b.works.set(k, r[k]);
      }
      for (int i = 0; i < 8; i++) {
        b.works.poke(AT + i, (int) (memory >> 8 * i));
      }
      b.due("model", model(), true);
      b.due("again", b.works.run(1), 1);
      compare();
    }
  }

  private static void set(int k, long value) {
    r[k] = value;
    b.works.set(k, value);
  }

  private static void compare() {
    for (int k = 0; k < 16; k++) {
      b.due("register " + k, Long.toHexString(b.works.register(k)), Long.toHexString(r[k]));
    }
    b.due("flags", Integer.toHexString((int) b.works.register(17)), Integer.toHexString(2 | flags));
    long got = 0;
    for (int i = 0; i < 8; i++) {
      got |= (long) b.works.peek(AT + i) << 8 * i;
    }
    b.due("bytes", Long.toHexString(got), Long.toHexString(memory));
  }

  private static BigInteger big(long value, int bytes, boolean withSign) {
    BigInteger whole = BigInteger.valueOf(value).mod(BigInteger.ONE.shiftLeft(8 * bytes));
    return withSign && whole.testBit(8 * bytes - 1) ? whole.subtract(BigInteger.ONE.shiftLeft(8 * bytes)) : whole;
  }

  private static boolean fits(BigInteger value, int bytes, boolean withSign) {
    return value.equals(big(value.longValue(), bytes, withSign));
  }

  private static long read(int operand) {
    return operand >= 0 ? r[operand] : operand == -1 ? memory : number;
  }

  private static void write(int operand, long value) {
    long old = read(operand);
    long low = size == 8 ? -1L : (1L << 8 * size) - 1;
    long written = operand >= 0 && size == 4 ? value & low : old & ~low | value & low;
    if (operand >= 0) {
      r[operand] = written;
    } else {
      memory = written;
    }
  }

  private static void flag(int which, boolean on) {
    flags = on ? flags | which : flags & ~which;
  }

  private static void zsp(BigInteger result) {
    flag(Z, big(result.longValue(), size, false).signum() == 0);
    flag(S, big(result.longValue(), size, true).signum() < 0);
    flag(P, big(result.longValue(), 1, false).bitCount() % 2 == 0);
  }

  private static void both(BigInteger plain, BigInteger withSigns) {
    flag(C, !fits(plain, size, false));
    flag(O, !fits(withSigns, size, true));
    zsp(plain);
  }

  private static void spilt(boolean spilt) {
    flag(C, spilt);
    flag(O, spilt);
  }

  private static boolean condition(int c) {
    boolean holds = false;
    switch (c / 2) {
      case 0: holds = (flags & O) != 0; break;
      case 1: holds = (flags & C) != 0; break;
      case 2: holds = (flags & Z) != 0; break;
      case 3: holds = (flags & (C | Z)) != 0; break;
      case 4: holds = (flags & S) != 0; break;
      case 5: holds = (flags & P) != 0; break;
      case 6: holds = (flags & S) != 0 != ((flags & O) != 0); break;
      default: holds = (flags & Z) != 0 || (flags & S) != 0 != ((flags & O) != 0); break;
    }
    return holds != (c % 2 == 1);
  }

  /** Does the instruction; false, changing nothing, if it is a division that stops. */
  private static boolean model() {
    switch (word) {
      case "mul":
      case "imul":
      case "div":
      case "idiv":
        return multiplyOrDivide(word.startsWith("i"));
      case "rol":
      case "ror":
      case "shl":
      case "shr":
      case "sar":
        shift();
        return true;
      case "product":
      case "product3":
        BigInteger product = big(read(y), size, true).multiply(word.equals("product") ? big(read(x), size, true) : BigInteger.valueOf(number));
        write(x, product.longValue());
        spilt(!fits(product, size, true));
        return true;
      case "set":
        write(x, condition((int) number) ? 1 : 0);
        return true;
      case "cmov":
        write(x, condition((int) number) ? read(y) : read(x));
        return true;
      case "movzx":
        write(x, read(y) & 0xff);
        return true;
      case "movsx":
        write(x, (byte) read(y));
        return true;
      case "movsxd":
        write(x, (int) read(y));
        return true;
      default:
        return bits() || sums() || singles();
    }
  }

  private static boolean bits() {
    switch (word) {
      case "bsf":
      case "bsr":
        BigInteger of = big(read(y), size, false);
        flag(Z, of.signum() == 0);
        if (of.signum() != 0) {
          write(x, word.equals("bsf") ? of.getLowestSetBit() : of.bitLength() - 1);
        }
        return true;
      case "bt":
        flag(C, big(read(x), 8, false).testBit((int) Math.floorMod(y == -2 ? number : read(y), 8L * size)));
        return true;
      case "bswap":
        write(x, size == 8 ? Long.reverseBytes(r[x]) : Integer.reverseBytes((int) r[x]));
        return true;
      case "cdq":
        r[2] = (int) r[0] < 0 ? 0xffffffffL : 0;
        return true;
      case "cqo":
        r[2] = r[0] < 0 ? -1 : 0;
        return true;
      case "cwde":
        r[0] = (short) r[0] & 0xffffffffL;
        return true;
      case "cdqe":
        r[0] = (int) r[0];
        return true;
      default:
        return false;
    }
  }

  private static boolean sums() {
    long a = read(x);
    long c = read(y);
    BigInteger plainA = big(a, size, false);
    BigInteger plainC = big(c, size, false);
    BigInteger signedA = big(a, size, true);
    BigInteger signedC = big(c, size, true);
    BigInteger carry = BigInteger.valueOf(word.equals("adc") || word.equals("sbb") ? flags & C : 0);
    switch (word) {
      case "add":
      case "adc":
        both(plainA.add(plainC).add(carry), signedA.add(signedC).add(carry));
        write(x, a + c + carry.longValue());
        return true;
      case "xadd":
        both(plainA.add(plainC), signedA.add(signedC));
        write(y, a);
        write(x, a + c);
        return true;
      case "sub":
      case "sbb":
      case "cmp":
        both(plainA.subtract(plainC).subtract(carry), signedA.subtract(signedC).subtract(carry));
        if (!word.equals("cmp")) {
          write(x, a - c - carry.longValue());
        }
        return true;
      case "or":
      case "and":
      case "xor":
      case "test":
        long result = word.equals("or") ? a | c : word.equals("xor") ? a ^ c : a & c;
        spilt(false);
        zsp(BigInteger.valueOf(result));
        if (!word.equals("test")) {
          write(x, result);
        }
        return true;
      case "mov":
        write(x, c);
        return true;
      case "xchg":
        write(x, c);
        write(y, a);
        return true;
      case "cmpxchg":
        long rax = r[0];
        both(big(rax, size, false).subtract(plainA), big(rax, size, true).subtract(signedA));
        if ((flags & Z) != 0) {
          write(x, c);
        } else {
          write(0, a);
        }
        return true;
      default:
        return false;
    }
  }

  private static boolean singles() {
    long a = read(x);
    BigInteger plain = big(a, size, false);
    BigInteger signed = big(a, size, true);
    int carry = flags & C;
    switch (word) {
      case "not":
        write(x, ~a);
        return true;
      case "neg":
        both(plain.negate(), signed.negate());
        write(x, -a);
        return true;
      default:
        int by = word.equals("inc") ? 1 : -1;
        both(plain.add(BigInteger.valueOf(by)), signed.add(BigInteger.valueOf(by)));
        flags = flags & ~C | carry;
        write(x, a + by);
        return true;
    }
  }

  private static boolean multiplyOrDivide(boolean withSigns) {
    BigInteger by = big(read(x), size, withSigns);
    if (word.endsWith("mul")) {
      BigInteger product = by.multiply(big(r[0], size, withSigns));
      if (size == 1) {
        r[0] = r[0] & ~0xffffL | product.longValue() & 0xffff;
      } else {
        write(0, product.longValue());
        write(2, product.shiftRight(8 * size).longValue());
      }
      spilt(!fits(product, size, withSigns));
      return true;
    }
    BigInteger low = big(r[0], size == 1 ? 2 : size, size == 1 && withSigns);
    BigInteger whole = size == 1 ? low : big(r[2], size, withSigns).shiftLeft(8 * size).add(low);
    if (by.signum() == 0 || !fits(whole.divide(by), size, withSigns)) {
      return false;
    }
    BigInteger[] parts = whole.divideAndRemainder(by);
    if (size == 1) {
      r[0] = r[0] & ~0xffffL | (parts[1].longValue() & 0xff) << 8 | parts[0].longValue() & 0xff;
    } else {
      write(0, parts[0].longValue());
      write(2, parts[1].longValue());
    }
    return true;
  }

  private static void shift() {
    int count = (int) ((y == 1 ? r[1] & 0xff : number) & (size == 8 ? 63 : 31));
    if (count == 0) {
      return;
    }
    int n = 8 * size;
    BigInteger a = big(read(x), size, false);
    BigInteger all = BigInteger.ONE.shiftLeft(n).subtract(BigInteger.ONE);
    BigInteger result;
    boolean out;
    int turn = count % n;
    switch (word) {
      case "rol":
        result = a.shiftLeft(turn).or(a.shiftRight(n - turn)).and(all);
        out = result.testBit(0);
        break;
      case "ror":
        result = a.shiftRight(turn).or(a.shiftLeft(n - turn)).and(all);
        out = result.testBit(n - 1);
        break;
      case "shl":
        result = a.shiftLeft(count).and(all);
        out = count <= n && a.testBit(n - count);
        break;
      case "shr":
        result = a.shiftRight(count);
        out = a.testBit(count - 1);
        break;
      default:
        BigInteger signed = big(read(x), size, true);
        result = signed.shiftRight(count).and(all);
        out = signed.testBit(count - 1);
        break;
    }
    boolean upper = result.testBit(n - 1);
    write(x, result.longValue());
    flag(C, out);
    if (count == 1) {
      flag(O, word.equals("rol") || word.equals("shl") ? out != upper : word.equals("ror") ? upper != result.testBit(n - 2)
          : word.equals("shr") && a.testBit(n - 1));
    }
    if (word.startsWith("s")) {
      zsp(result);
    }
  }
}
