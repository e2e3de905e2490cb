import java.util.Arrays;
import java.util.NoSuchElementException;

/** An assembler, a linker and the machine of 64 bits that runs what they make. */
public final class NativeWorks {
  public static final int NONE = -1;

  private static final int TAPE = 65536;

  private final byte[] tape;
  private final Units units;
  private final Assembler assembler;
  private final Linker linker;
  private final Machine machine;
  private int fed;
  private int faultKind;
  private int faultLine;
  private int faultUnit;

  public NativeWorks() {
    byte[] bytes = new byte[TAPE];
    Units all = new Units();
    tape = bytes;
    units = all;
    assembler = new Assembler(bytes, all);
    linker = new Linker(all);
    machine = new Machine();
    fed = 0;
    faultKind = 0;
    faultLine = 0;
    faultUnit = NONE;
  }

  public int feed(int a, int b, int c, int d, int e) {
    if (fed + 20 > TAPE) {
      return NONE;
    }
    append(a);
    append(b);
    append(c);
    append(d);
    append(e);
    return fed;
  }

  public int unit(int n, boolean library) throws IllegalArgumentException {
    int length = emptied(n);
    int number = units.count;
    if (number == Units.MOST) {
      tell(5, 0, number);
      throw new IllegalArgumentException("there are 32 units");
    }
    int kind = assembler.assemble(length, library);
    if (kind != 0) {
      tell(kind, assembler.faultLine, number);
      throw new IllegalArgumentException("the source has a fault");
    }
    tell(0, 0, NONE);
    return number;
  }

  public void clear() {
    units.empty();
  }

  public int fault(int what) {
    return what == 0 ? faultKind : what == 1 ? faultLine : what == 2 ? faultUnit : NONE;
  }

  public int size(int u, int s) {
    return units.has(u, s) ? units.rows[u][Units.SIZE + s] : NONE;
  }

  public int octet(int u, int s, int i) {
    if (!units.has(u, s) || i < 0 || i >= units.rows[u][Units.SIZE + s]) {
      return NONE;
    }
    return s == Units.BSS ? 0 : units.bytes[units.rows[u][Units.FROM + s] + i] & 0xff;
  }

  public int link() throws IllegalStateException {
    boolean made = linker.make();
    tell(linker.faultKind, linker.faultLine, linker.faultUnit);
    if (!made) {
      throw new IllegalStateException("the units do not link");
    }
    return linker.length;
  }

  public long symbol(int n) throws NoSuchElementException {
    int length = emptied(n);
    int found = linker.names.find(tape, 0, length, linker.names.count);
    if (found == NONE) {
      throw new NoSuchElementException("the image has no such symbol");
    }
    return linker.addresses[found];
  }

  public long load() throws IllegalStateException {
    if (!linker.made) {
      throw new IllegalStateException("there is no image");
    }
    machine.boot(linker);
    return linker.start;
  }

  public int input(int n) {
    return machine.take(tape, emptied(n));
  }

  public int run(int n) throws IllegalArgumentException, IllegalStateException {
    if (n < 1 || n > 4000) {
      throw new IllegalArgumentException("not 1 to 4000 steps");
    }
    if (!machine.memory.loaded || machine.stop == Machine.ENDED) {
      throw new IllegalStateException("nothing is there to run");
    }
    return machine.go(n);
  }

  public long stop(int what) {
    return what == 0 ? machine.stop : what == 1 ? machine.stopValue : 0;
  }

  public long register(int k) {
    if (k >= 0 && k < 16) {
      return machine.r[k];
    }
    return k == 16 ? machine.ip : k == 17 ? machine.told() : k == 18 ? machine.memory.end
        : k == 19 ? machine.steps : 0;
  }

  public boolean set(int k, long v) {
    if (k < 0 || k > 16) {
      return false;
    }
    if (k == 16) {
      machine.ip = v;
    } else {
      machine.r[k] = v;
    }
    return true;
  }

  public int peek(long address) {
    return machine.memory.may(address, 1, false) ? (int) machine.memory.number(address, 1) : NONE;
  }

  public boolean poke(long address, int v) {
    if (!machine.memory.may(address, 1, true)) {
      return false;
    }
    machine.memory.change(address, 1, v);
    return true;
  }

  public boolean stopAt(long address, boolean on) {
    return on ? machine.addPlace(address) : machine.dropPlace(address);
  }

  public int output(int i) {
    if (i == -1) {
      return machine.written;
    }
    return i >= 0 && i < machine.written ? machine.output[i] & 0xff : NONE;
  }

  public int where(long address) {
    long at = address - Linker.BASE;
    return at >= 0 && at < linker.origins.length ? linker.origins[(int) at] : NONE;
  }

  private void append(int number) {
    for (int shift = 24; shift >= 0; shift -= 8) {
      tape[fed++] = (byte) (number >> shift);
    }
  }

  /** How many of the tape's bytes n tells; the tape counts as empty then, its bytes stay till fed anew. */
  private int emptied(int n) {
    int length = Math.max(0, Math.min(n, fed));
    fed = 0;
    return length;
  }

  private void tell(int kind, int line, int where) {
    faultKind = kind;
    faultLine = line;
    faultUnit = where;
  }

  /** Names, numbered from 0 in the order in which they came, found by their letters. */
  private static final class Names {
    private static final int SLOTS = 1024;

    final byte[] letters;
    final int[] from;
    final int[] older;
    final int[] slot;
    final int[] newest;
    int count;

    Names(int most, int room) {
      letters = new byte[room];
      from = new int[most + 1];
      older = new int[most];
      slot = new int[most];
      newest = new int[SLOTS];
      Arrays.fill(newest, NONE);
      count = 0;
    }

    /** The newest name with these letters and a number less than below; NONE if there is none. */
    int find(byte[] text, int at, int length, int below) {
      int hash = 0;
      for (int i = at; i < at + length; i++) {
        hash = 31 * hash + text[i];
      }
      int i = newest[hash & SLOTS - 1];
      // Each older one has a lower number: there are no more than all.
      for (int turn = 0; turn < count && i != NONE; turn++) {
        if (i < below && from[i + 1] - from[i] == length) {
          int same = 0;
          while (same < length && letters[from[i] + same] == text[at + same]) {
            same++;
          }
          if (same == length) {
            return i;
          }
        }
        i = older[i];
      }
      return NONE;
    }

    /** The number of the name added; NONE if there is no room. */
    int add(byte[] text, int at, int length) {
      if (count == older.length || from[count] + length > letters.length) {
        return NONE;
      }
      int hash = 0;
      for (int i = at; i < at + length; i++) {
        hash = 31 * hash + text[i];
      }
      System.arraycopy(text, at, letters, from[count], length);
      from[count + 1] = from[count] + length;
      slot[count] = hash & SLOTS - 1;
      older[count] = newest[slot[count]];
      newest[slot[count]] = count;
      return count++;
    }

    void cut(int left) {
      while (count > left) {
        count--;
        newest[slot[count]] = older[count];
      }
    }
  }

  /** A source: its lines, which of them if, rept and macro end at, and its macros. */
  private static final class Source {
    private static final int MACROS = 5500;
    private static final int PARAMETERS = 32768;

    final byte[] bytes;
    final Names words;
    final int[] lineAt;
    final byte[] sorts;
    /** For every line the first endif, else or endif, endr from it on that belongs to none that begins from it on. */
    final int[] ifEnds;
    final int[] elses;
    final int[] reptEnds;
    final Names macros;
    final int[] bodyFrom;
    final int[] bodyTo;
    final int[] firstParameter;
    final int[] parameterFrom;
    final int[] parameterTo;
    int lines;

    Source(byte[] tape, Names vocabulary) {
      bytes = tape;
      words = vocabulary;
      lineAt = new int[TAPE + 2];
      sorts = new byte[TAPE + 1];
      ifEnds = new int[TAPE + 2];
      elses = new int[TAPE + 2];
      reptEnds = new int[TAPE + 2];
      macros = new Names(MACROS, TAPE);
      bodyFrom = new int[MACROS];
      bodyTo = new int[MACROS];
      firstParameter = new int[MACROS + 1];
      parameterFrom = new int[PARAMETERS];
      parameterTo = new int[PARAMETERS];
      lines = 0;
    }

    void split(int length) {
      macros.cut(0);
      lines = 0;
      lineAt[0] = 0;
      for (int i = 0; i < length; i++) {
        if (bytes[i] == '\n') {
          lineAt[++lines] = i + 1;
        }
      }
      if (lineAt[lines] < length) {
        lineAt[++lines] = length + 1;
      }
      for (int i = 0; i < lines; i++) {
        sorts[i] = (byte) sortOf(i);
      }
      match();
    }

    /** Which of if .. endm stands first in a line; 0 if none does. */
    private int sortOf(int line) {
      int end = lineAt[line + 1] - 1;
      int from = lineAt[line];
      while (from < end && (bytes[from] == ' ' || bytes[from] == '\t')) {
        from++;
      }
      int to = from;
      while (to < end && to < from + 6 && Line.inName(bytes[to])) {
        to++;
      }
      int word = words.find(bytes, from, to - from, words.count);
      return word >= Line.IF && word <= Line.ENDM ? word : 0;
    }

    /** From the last line to the first one, since each line's ends are told by those behind it. */
    private void match() {
      ifEnds[lines] = lines;
      elses[lines] = lines;
      reptEnds[lines] = lines;
      for (int i = lines - 1; i >= 0; i--) {
        int sort = sorts[i];
        int ifEnd = ifEnds[i + 1];
        int reptEnd = reptEnds[i + 1];
        ifEnds[i] = sort == Line.ENDIF ? i : sort == Line.IF ? behind(ifEnds, ifEnd) : ifEnd;
        elses[i] = sort == Line.ENDIF || sort == Line.ELSE ? i
            : sort == Line.IF ? behind(elses, ifEnd) : elses[i + 1];
        reptEnds[i] = sort == Line.ENDR ? i : sort == Line.REPT ? behind(reptEnds, reptEnd) : reptEnd;
      }
    }

    private int behind(int[] ends, int line) {
      return line < lines ? ends[line + 1] : lines;
    }

    int macroEnd(int from) {
      int line = from;
      while (line < lines && sorts[line] != Line.ENDM) {
        line++;
      }
      return line;
    }

    /** A new macro, its name a token of the line as it stands in the source; NONE if there is no room. */
    int addMacro(Line line, int token, int lineFrom) {
      int macro = macros.add(line.text, line.from[token], line.to[token] - line.from[token]);
      if (macro == NONE) {
        return NONE;
      }
      int count = firstParameter[macro];
      for (int i = token + 1; i < line.count && count < PARAMETERS; i++) {
        if (line.kind[i] == Line.NAME) {
          parameterFrom[count] = lineFrom + line.from[i];
          parameterTo[count++] = lineFrom + line.to[i];
        }
      }
      firstParameter[macro + 1] = count;
      return macro;
    }

    /** The longest parameter of a macro that stands at a place ahead of another; of two alike the first; or NONE. */
    int parameterAt(int macro, int at, int end) {
      int best = NONE;
      int most = 0;
      for (int i = firstParameter[macro]; i < firstParameter[macro + 1]; i++) {
        int length = parameterTo[i] - parameterFrom[i];
        if (length > most && at + length <= end) {
          int same = 0;
          while (same < length && bytes[parameterFrom[i] + same] == bytes[at + same]) {
            same++;
          }
          if (same == length) {
            best = i;
            most = length;
          }
        }
      }
      return best;
    }
  }

  /** Brings line after line as they are read: of the source, and of its macros and rept. */
  private static final class Reader {
    static final int MOST_LINES = 65536;
    private static final int DEEPEST = 20;
    private static final int ARGUMENTS = 512;
    private static final int TURNS = 1000000;

    final Source source;
    final Line line;
    /** What is read in what: the source itself is 0, a macro or rept has the next number. */
    int depth;
    /** Of each: its first line, the one behind its last, the next one; how often; the depth of whose arguments count;
     * how many ifs were open ahead of it; of a macro which one, and how many were read ahead of it. */
    final int[] first;
    final int[] end;
    final int[] next;
    final int[] left;
    final int[] maker;
    final int[] ifsBelow;
    final int[] macro;
    final int[] made;
    /** The arguments by depths: the line that has them, and where each begins and ends. */
    final byte[] arguments;
    final int[] argumentFrom;
    final int[] argumentTo;
    /** Of each open if: whether its else was read. */
    final boolean[] elseRead;
    int ifs;
    /** The line that is told of what is read now. */
    int told;
    int read;
    int used;
    boolean unended;

    Reader(Source from, Line to) {
      source = from;
      line = to;
      first = new int[DEEPEST + 1];
      end = new int[DEEPEST + 1];
      next = new int[DEEPEST + 1];
      left = new int[DEEPEST + 1];
      maker = new int[DEEPEST + 1];
      ifsBelow = new int[DEEPEST + 1];
      macro = new int[DEEPEST + 1];
      made = new int[DEEPEST + 1];
      arguments = new byte[(DEEPEST + 1) * Line.MOST];
      argumentFrom = new int[(DEEPEST + 1) * ARGUMENTS];
      argumentTo = new int[(DEEPEST + 1) * ARGUMENTS];
      elseRead = new boolean[DEEPEST];
    }

    void open(int length) {
      source.split(length);
      depth = 0;
      first[0] = 0;
      next[0] = 0;
      end[0] = source.lines;
      left[0] = 1;
      maker[0] = 0;
      ifsBelow[0] = 0;
      ifs = 0;
      told = 0;
      read = 0;
      used = 0;
      unended = false;
    }

    /** Brings the next line; false if all is read. */
    boolean advance() {
      for (int turn = 0; turn < TURNS; turn++) {
        if (next[depth] < end[depth]) {
          bring(next[depth]++);
          return true;
        }
        if (depth == 0) {
          return false;
        }
        ifs = ifsBelow[depth];
        if (left[depth] > 1) {
          left[depth]--;
          next[depth] = first[depth];
        } else {
          depth--;
        }
      }
      return false;
    }

    private void bring(int number) {
      read++;
      if (depth == 0) {
        told = number + 1;
      }
      int from = source.lineAt[number];
      int to = source.lineAt[number + 1] - 1;
      if (to - from > Line.MOST) {
        line.length = Line.MOST + 1;
      } else if (maker[depth] != 0) {
        replace(from, to, maker[depth]);
      } else {
        System.arraycopy(source.bytes, from, line.text, 0, to - from);
        line.length = to - from;
      }
    }

    private void replace(int from, int to, int by) {
      byte[] bytes = source.bytes;
      line.length = 0;
      int i = from;
      while (i < to) {
        int parameter = NONE;
        if (bytes[i] == '\\' && i + 1 < to) {
          if (bytes[i + 1] == '@') {
            appendNumber(made[by]);
            i += 2;
            continue;
          }
          parameter = source.parameterAt(macro[by], i + 1, to);
        }
        if (parameter == NONE) {
          append(bytes[i]);
          i++;
        } else {
          appendArgument(by, parameter - source.firstParameter[macro[by]]);
          i += 1 + source.parameterTo[parameter] - source.parameterFrom[parameter];
        }
      }
    }

    private void append(byte letter) {
      if (line.length < Line.MOST) {
        line.text[line.length++] = letter;
      } else {
        line.length = Line.MOST + 1;
      }
    }

    private void appendNumber(int number) {
      int unit = 1;
      while (unit <= number / 10) {
        unit *= 10;
      }
      for (; unit > 0; unit /= 10) {
        append((byte) ('0' + number / unit % 10));
      }
    }

    private void appendArgument(int by, int place) {
      if (place < 0 || place >= ARGUMENTS) {
        return;
      }
      int slot = by * ARGUMENTS + place;
      for (int i = argumentFrom[slot]; i < argumentTo[slot]; i++) {
        append(arguments[i]);
      }
    }

    /** The line that was brought last, as long as one does not go on behind another. */
    private int current() {
      return next[depth] - 1;
    }

    boolean tooMuch() {
      return line.length > Line.MOST || read > MOST_LINES;
    }

    private boolean full() {
      return ifs + depth >= DEEPEST;
    }

    /** Whether a word of if, rept and macro may not stand in this line. */
    boolean misplaced(int word) {
      boolean open = ifs > ifsBelow[depth];
      boolean inside = depth > 0;
      boolean noEndif = inside && source.ifEnds[current() + 1] >= end[depth];
      switch (word) {
        case Line.IF:
          return full() || noEndif;
        case Line.ELSE:
          return !open || elseRead[ifs - 1] || noEndif;
        case Line.ENDIF:
          return !open;
        case Line.REPT:
          return full() || inside && source.reptEnds[current() + 1] >= end[depth];
        case Line.MACRO:
          return inside;
        default:
          return true;
      }
    }

    void readIf(boolean holds) {
      if (holds) {
        openIf(false);
        return;
      }
      int to = source.elses[current() + 1];
      if (!goBehind(to) && source.sorts[to] == Line.ELSE) {
        openIf(true);
      }
    }

    private void openIf(boolean behindElse) {
      if (ifs < DEEPEST) {
        elseRead[ifs++] = behindElse;
      }
    }

    void readElse() {
      ifs--;
      goBehind(source.ifEnds[current() + 1]);
    }

    void readEndif() {
      ifs--;
    }

    /** Goes on behind a line; true if these lines end without it. */
    private boolean goBehind(int to) {
      boolean missing = to >= end[depth];
      unended |= missing;
      next[depth] = missing ? end[depth] : to + 1;
      return missing;
    }

    void readRept(int times) {
      int from = current() + 1;
      int to = source.reptEnds[from];
      if (!goBehind(to) && times > 0 && from < to) {
        push(from, to, times, maker[depth]);
      }
    }

    void readMacro(int nameToken) {
      int from = current() + 1;
      int to = source.macroEnd(from);
      int added = source.addMacro(line, nameToken, source.lineAt[from - 1]);
      goBehind(to);
      if (added != NONE) {
        source.bodyFrom[added] = from;
        source.bodyTo[added] = to;
      }
    }

    /** Whether a macro may not be used here, with the arguments behind a token. */
    boolean overused(int what, int token) {
      if (full()) {
        return true;
      }
      int most = Math.min(source.firstParameter[what + 1] - source.firstParameter[what], ARGUMENTS);
      return split(token + 1, depth + 1, most) > most;
    }

    void use(int what) {
      push(source.bodyFrom[what], source.bodyTo[what], 1, depth + 1);
      macro[depth] = what;
      made[depth] = used++;
    }

    private void push(int from, int to, int times, int by) {
      if (depth == DEEPEST) {
        return;
      }
      depth++;
      first[depth] = from;
      next[depth] = from;
      end[depth] = to;
      left[depth] = times;
      maker[depth] = by;
      ifsBelow[depth] = ifs;
    }

    /** Keeps at most so many arguments from a token on for what is read next; tells how many there are. */
    private int split(int token, int slot, int most) {
      int base = slot * Line.MOST;
      System.arraycopy(line.text, 0, arguments, base, line.length);
      int at = slot * ARGUMENTS;
      Arrays.fill(argumentFrom, at, at + most, 0);
      Arrays.fill(argumentTo, at, at + most, 0);
      if (line.kind[token] == Line.END) {
        return 0;
      }
      int count = 1;
      int nested = 0;
      boolean begun = false;
      for (int i = token; i < line.count; i++) {
        int kind = line.kind[i];
        if (kind == ',' && nested == 0) {
          count++;
          begun = false;
          continue;
        }
        nested += kind == '(' || kind == '[' ? 1 : (kind == ')' || kind == ']') && nested > 0 ? -1 : 0;
        if (count <= most) {
          if (!begun) {
            argumentFrom[at + count - 1] = base + line.from[i];
          }
          argumentTo[at + count - 1] = base + line.to[i];
        }
        begun = true;
      }
      return count;
    }
  }

  /** A line as it is read, its tokens, and the worst that is wrong with it. */
  private static final class Line {
    static final int MOST = 1024;

    static final int END = 0;
    static final int NAME = 1;
    static final int NUMBER = 2;
    static final int TEXT = 3;

    /** What can be wrong with a line, in the order in which it is looked for. */
    static final int TOO_MUCH = 1;
    static final int TOKENS = 2;
    static final int CONTROL = 3;
    static final int NAMED = 4;
    static final int WORD = 5;
    static final int GRAMMAR = 6;
    static final int EXPRESSIONS = 7;
    static final int OPERANDS = 8;
    static final int NUMBERS = 9;
    static final int ROOM = 10;
    private static final int[] KINDS = {0, 5, 1, 6, 3, 2, 1, 4, 2, 7, 5};

    /** The vocabulary; a word's number is its place in these. */
    private static final String REGISTERS_8 =
        "rax rcx rdx rbx rsp rbp rsi rdi r8 r9 r10 r11 r12 r13 r14 r15 ";
    private static final String REGISTERS_4 =
        "eax ecx edx ebx esp ebp esi edi r8d r9d r10d r11d r12d r13d r14d r15d ";
    private static final String REGISTERS_1 =
        "al cl dl bl spl bpl sil dil r8b r9b r10b r11b r12b r13b r14b r15b ";
    private static final String MARKS = "byte dword qword rel equ rep ";
    private static final String CONTROLS = "if else endif rept endr macro endm ";
    private static final String STATEMENTS = "section global weak keep db dw dd dq resb align ";
    private static final String OPS_0 = "add or adc sbb and sub xor cmp mov test xchg lea movzx movsx movsxd ";
    private static final String OPS_15 = "not neg mul imul div idiv inc dec ";
    private static final String OPS_24 = "rol ror shl shr sar push pop jmp call ret ";
    private static final String OPS_39 = "nop int3 ud2 syscall leave bsf bsr bswap bt xadd cmpxchg ";
    private static final String SIZED = "cdq cqo cwde cdqe movsb movsd movsq stosb stosd stosq ";
    private static final String JUMPS =
        "jo jno jb jae je jne jbe ja js jns jp jnp jl jge jle jg jc jnc jz jnz ";
    private static final String SETS_0 = "seto setno setb setae sete setne setbe seta sets setns ";
    private static final String SETS_10 = "setp setnp setl setge setle setg setc setnc setz setnz ";
    private static final String MOVES_0 = "cmovo cmovno cmovb cmovae cmove cmovne cmovbe cmova cmovs cmovns ";
    private static final String MOVES_10 = "cmovp cmovnp cmovl cmovge cmovle cmovg cmovc cmovnc cmovz cmovnz ";
    private static final String SECTIONS = "text rodata data bss ";

    static final int BYTE = 48;
    static final int DWORD = 49;
    static final int QWORD = 50;
    static final int REL = 51;
    static final int EQU = 52;
    static final int REP = 53;
    static final int IF = 54;
    static final int ELSE = 55;
    static final int ENDIF = 56;
    static final int REPT = 57;
    static final int ENDR = 58;
    static final int MACRO = 59;
    static final int ENDM = 60;
    static final int SECTION = 61;
    static final int GLOBAL = 62;
    static final int WEAK = 63;
    static final int KEEP = 64;
    static final int DB = 65;
    static final int DW = 66;
    static final int DD = 67;
    static final int DQ = 68;
    static final int RESB = 69;
    static final int ALIGN = 70;
    static final int ADD = 71;
    static final int ROL = 94;
    static final int NOP = 104;
    static final int CDQ = 115;
    static final int MOVSB = 119;
    static final int JUMP_IF = 125;
    static final int TEXT_SECTION = 185;

    final byte[] text;
    final Names words;
    final int[] kind;
    final long[] value;
    final int[] from;
    final int[] to;
    int length;
    int count;
    int at;
    int worst;

    Line() {
      text = new byte[MOST];
      words = new Names(200, 1200);
      kind = new int[MOST + 2];
      value = new long[MOST + 2];
      from = new int[MOST + 2];
      to = new int[MOST + 2];
      teach(REGISTERS_8);
      teach(REGISTERS_4);
      teach(REGISTERS_1);
      teach(MARKS);
      teach(CONTROLS);
      teach(STATEMENTS);
      teach(OPS_0);
      teach(OPS_15);
      teach(OPS_24);
      teach(OPS_39);
      teach(SIZED);
      teach(JUMPS);
      teach(SETS_0);
      teach(SETS_10);
      teach(MOVES_0);
      teach(MOVES_10);
      teach(SECTIONS);
    }

    private void teach(String list) {
      int begin = 0;
      for (int i = 0; i < list.length() && i < MOST; i++) {
        text[i] = (byte) list.charAt(i);
        if (text[i] == ' ') {
          words.add(text, begin, i - begin);
          begin = i + 1;
        }
      }
    }

    void blame(int rank) {
      worst = worst == 0 ? rank : Math.min(worst, rank);
    }

    boolean blamed(int rank) {
      return worst != 0 && worst <= rank;
    }

    int faultKind() {
      return KINDS[worst];
    }

    static boolean inName(int c) {
      return c >= 'a' && c <= 'z' || c >= 'A' && c <= 'Z' || isDigit(c) || c == '_' || c == '.';
    }

    private static boolean isDigit(int c) {
      return c >= '0' && c <= '9';
    }

    private int letter(int i) {
      return i < length ? text[i] : 0;
    }

    boolean isRegister(int token) {
      return kind[token] == NAME && value[token] >= 0 && value[token] < BYTE;
    }

    boolean isWord(int token) {
      return kind[token] == NAME && value[token] >= 0 && value[token] < TEXT_SECTION;
    }

    boolean isMark(int token, int mark) {
      return kind[token] == NAME && value[token] == mark;
    }

    /** Cuts the text to tokens; false if it can't be. */
    boolean cut() {
      count = 0;
      int i = 0;
      while (i < length && text[i] != ';') {
        int c = text[i];
        if (c == ' ' || c == '\t') {
          i++;
          continue;
        }
        from[count] = i;
        i = isDigit(c) ? number(i) : inName(c) ? name(i) : c == '\'' ? character(i) : c == '"' ? quoted(i) : sign(i);
        if (i == NONE) {
          return false;
        }
        to[count++] = i;
      }
      kind[count] = END;
      return true;
    }

    private int name(int begin) {
      int i = begin;
      while (i < length && inName(text[i])) {
        i++;
      }
      kind[count] = NAME;
      value[count] = words.find(text, begin, i - begin, words.count);
      return i - begin > 63 ? NONE : i;
    }

    private int number(int begin) {
      int mark = letter(begin + 1);
      boolean based = text[begin] == '0' && (mark == 'x' || mark == 'b');
      int base = !based ? 10 : mark == 'x' ? 16 : 2;
      int i = based ? begin + 2 : begin;
      int digits = i;
      long v = 0;
      for (; i < length; i++) {
        int digit = digit(text[i]);
        if (digit >= base || digit == NONE) {
          break;
        }
        if (overflows(v, base, digit)) {
          return NONE;
        }
        v = v * base + digit;
      }
      kind[count] = NUMBER;
      value[count] = v;
      return i == digits || inName(letter(i)) ? NONE : i;
    }

    private static int digit(int c) {
      return isDigit(c) ? c - '0' : c >= 'a' && c <= 'f' ? c - 'a' + 10 : c >= 'A' && c <= 'F' ? c - 'A' + 10 : NONE;
    }

    private static boolean overflows(long v, int base, int digit) {
      if (base == 16) {
        return v >>> 60 != 0;
      }
      if (base == 2) {
        return v < 0;
      }
      long most = 1844674407370955161L;
      return v < 0 || v > most || v == most && digit > 5;
    }

    private int character(int begin) {
      int c = letter(begin + 1);
      int i = begin + (c == '\\' ? 3 : 2);
      if (c == '\'' || !isCharacter(c) || c == '\\' && !isCharacter(letter(begin + 2)) || letter(i) != '\'') {
        return NONE;
      }
      kind[count] = NUMBER;
      value[count] = meant(begin + 1);
      return inName(letter(i + 1)) ? NONE : i + 1;
    }

    private static boolean isCharacter(int c) {
      return c >= 32 && c <= 126;
    }

    /** The character that stands at a place, perhaps as an escape. */
    int meant(int i) {
      if (letter(i) != '\\') {
        return letter(i);
      }
      int c = letter(i + 1);
      return c == 'n' ? 10 : c == 't' ? 9 : c == '0' ? 0 : c;
    }

    private int quoted(int begin) {
      int i = begin + 1;
      while (i < length && text[i] != '"') {
        int wide = text[i] == '\\' ? 2 : 1;
        if (!isCharacter(letter(i)) || !isCharacter(letter(i + wide - 1))) {
          return NONE;
        }
        i += wide;
      }
      kind[count] = TEXT;
      value[count] = NONE;
      return i < length ? i + 1 : NONE;
    }

    private int sign(int begin) {
      int c = text[begin];
      kind[count] = c;
      value[count] = NONE;
      if (c == '<' || c == '>') {
        return letter(begin + 1) == c ? begin + 2 : NONE;
      }
      boolean fine = c == ',' || c == ':' || c == '[' || c == ']' || c == '(' || c == ')' || c == '+' || c == '-'
          || c == '*' || c == '/' || c == '%' || c == '&' || c == '|' || c == '^' || c == '~' || c == '$';
      return fine ? begin + 1 : NONE;
    }
  }

  /** The expressions of a line, and the names of symbols in it. */
  private static final class Expression {
    /** In the place of a symbol: there is none; it is where the statement begins. */
    static final int NO = -1;
    static final int HERE = -2;
    /** How products bind. */
    static final int PRODUCTS = 6;
    private static final int FRONT = 256;

    final Line line;
    final Units units;
    /** Values: a number, a symbol that is added to it, one that is taken off. */
    final long[] number;
    final int[] plus;
    final int[] minus;
    final int[] signs;
    final byte[] name;
    final byte[] latest;
    int values;
    int nameLength;
    int latestLength;

    Expression(Line of, Units in) {
      line = of;
      units = in;
      number = new long[Line.MOST + 2];
      plus = new int[Line.MOST + 2];
      minus = new int[Line.MOST + 2];
      signs = new int[Line.MOST + 2];
      name = new byte[2 * 64];
      latest = new byte[64];
    }

    boolean isConstant() {
      return constantAt(0);
    }

    void beZero() {
      number[0] = 0;
      plus[0] = NO;
      minus[0] = NO;
    }

    /** A token's name as it stands, or as a symbol's name counts. */
    void spell(int token, boolean ofSymbol) {
      int length = Math.min(line.to[token] - line.from[token], 63);
      int ahead = ofSymbol && line.text[line.from[token]] == '.' ? latestLength : 0;
      System.arraycopy(latest, 0, name, 0, ahead);
      System.arraycopy(line.text, line.from[token], name, ahead, length);
      nameLength = ahead + length;
    }

    void beLatest(int token) {
      if (line.text[line.from[token]] != '.') {
        latestLength = Math.min(line.to[token] - line.from[token], 63);
        System.arraycopy(line.text, line.from[token], latest, 0, latestLength);
      }
    }

    /** The symbol of the name that was spelled, in the unit that is being made; NONE if there is none. */
    int known() {
      int symbol = units.names.find(name, 0, nameLength, units.names.count);
      return symbol < units.symbolsFrom ? NONE : symbol;
    }

    /** The same, made if there is none; NONE without room. */
    int made() {
      int symbol = known();
      if (symbol != NONE) {
        return symbol;
      }
      symbol = units.names.add(name, 0, nameLength);
      if (symbol == NONE) {
        line.blame(Line.ROOM);
      } else {
        units.beginSymbol(symbol);
      }
      return symbol;
    }

    /**
     * Reads an expression from the line's place on, of what binds as lowest does or closer, perhaps behind a -;
     * its value stands behind those kept. False if there is none.
     */
    boolean read(int lowest, boolean negated, int kept) {
      values = kept;
      int count = 0;
      int open = 0;
      boolean wanted = true;
      if (negated) {
        signs[count++] = FRONT + '-';
      }
      for (int turn = 0; turn <= Line.MOST; turn++) {
        int kind = line.kind[line.at];
        if (wanted && (kind == '+' || kind == '-' || kind == '~')) {
          signs[count++] = FRONT + kind;
        } else if (wanted && kind == '(') {
          signs[count++] = kind;
          open++;
        } else if (wanted) {
          if (!operand(kind)) {
            return false;
          }
          wanted = false;
        } else if (kind == ')' && open > 0) {
          while (count > 0 && signs[count - 1] != '(') {
            apply(signs[--count]);
          }
          count--;
          open--;
        } else {
          int priority = priority(kind);
          if (priority == 0 || open == 0 && priority < lowest) {
            break;
          }
          while (count > 0 && priority(signs[count - 1]) >= priority) {
            apply(signs[--count]);
          }
          signs[count++] = kind;
          wanted = true;
        }
        line.at++;
      }
      if (wanted || open > 0) {
        return false;
      }
      while (count > 0) {
        apply(signs[--count]);
      }
      return true;
    }

    private static int priority(int sign) {
      switch (sign) {
        case '|':
          return 1;
        case '^':
          return 2;
        case '&':
          return 3;
        case '<':
        case '>':
          return 4;
        case '+':
        case '-':
          return 5;
        case '*':
        case '/':
        case '%':
          return PRODUCTS;
        default:
          return sign >= FRONT ? 7 : 0;
      }
    }

    private boolean operand(int kind) {
      if (kind == Line.NUMBER) {
        push(line.value[line.at], NO);
        return true;
      }
      if (kind == '$') {
        push(0, HERE);
        return true;
      }
      long word = line.value[line.at];
      if (kind != Line.NAME || word >= 0 && word <= Line.REP) {
        return false;
      }
      spell(line.at, true);
      int symbol = units.names.find(name, 0, nameLength, units.names.count);
      if (symbol < units.symbolsFrom) {
        symbol = units.names.add(name, 0, nameLength);
        if (symbol == NONE) {
          line.blame(Line.ROOM);
          push(0, HERE);
          return true;
        }
        units.beginSymbol(symbol);
      }
      boolean constant = (units.symbols[symbol][Units.FLAGS] & Units.CONSTANT) != 0;
      push(constant ? units.constants[symbol] : 0, constant ? NO : symbol);
      return true;
    }

    private void push(long constant, int symbol) {
      if (values < number.length) {
        number[values] = constant;
        plus[values] = symbol;
        minus[values] = NO;
        values++;
      }
    }

    /** Puts the latest value, or the latest two, to one as a sign tells. */
    void apply(int sign) {
      boolean fine;
      if (sign >= FRONT && values >= 1) {
        fine = sign == FRONT + '+' || constantAt(values - 1);
        front(sign - FRONT, values - 1);
      } else if (values < 2) {
        fine = false;
      } else {
        values--;
        boolean left = constantAt(values - 1);
        boolean right = constantAt(values);
        fine = sign == '+' ? sum(left, right) : sign == '-' ? difference(left, right)
            : calculation(sign) && left && right;
      }
      if (!fine) {
        line.blame(Line.EXPRESSIONS);
      }
    }

    private boolean constantAt(int i) {
      return plus[i] == NO && minus[i] == NO;
    }

    private void front(int sign, int a) {
      number[a] = sign == '-' ? -number[a] : sign == '~' ? ~number[a] : number[a];
    }

    private boolean sum(boolean left, boolean right) {
      int a = values - 1;
      if (left) {
        plus[a] = plus[values];
        minus[a] = minus[values];
      }
      number[a] += number[values];
      return left || right;
    }

    private boolean difference(boolean left, boolean right) {
      int a = values - 1;
      boolean span = !left && !right && minus[a] == NO && minus[values] == NO;
      if (span) {
        minus[a] = plus[values];
      }
      number[a] -= number[values];
      return right || span;
    }

    private boolean calculation(int sign) {
      int a = values - 1;
      long x = number[a];
      long y = number[values];
      plus[a] = NO;
      minus[a] = NO;
      number[a] = 0;
      switch (sign) {
        case '|':
          number[a] = x | y;
          return true;
        case '^':
          number[a] = x ^ y;
          return true;
        case '&':
          number[a] = x & y;
          return true;
        case '<':
          number[a] = x << (y & 63);
          return true;
        case '>':
          number[a] = x >>> (y & 63);
          return true;
        case '*':
          number[a] = x * y;
          return true;
        default:
          if (y == 0) {
            return false;
          }
          number[a] = sign == '/' ? x / y : x % y;
          return true;
      }
    }
  }

  /** All units: their symbols, their statements with bytes, the values that wait, and their bytes. */
  private static final class Units {
    static final int MOST = 32;
    static final int TEXT = 0;
    static final int BSS = 3;
    private static final int SYMBOLS = 1024;
    private static final int STATEMENTS = 8192;
    private static final int WAITS = 4096;
    private static final int BYTES = 131072;
    private static final int SECTION_BYTES = 65536;

    /** Of a unit: its first symbol, statement and value that waits, and so on; four for its sections. */
    static final int SYMBOL = 0;
    static final int STATEMENT = 1;
    static final int WAIT = 2;
    static final int LIBRARY = 3;
    static final int COUNTED = 4;
    static final int FROM = 5;
    static final int SIZE = 9;
    static final int KEEP = 13;
    private static final int ROW = 17;

    /** Of a symbol. Ahead of a label are so many statements of all. */
    static final int UNIT = 0;
    static final int FLAGS = 1;
    static final int IN = 2;
    static final int AHEAD = 3;
    static final int PLACE = 4;
    static final int LABEL_LINE = 5;

    static final int LABEL = 1;
    static final int CONSTANT = 2;
    static final int GLOBAL = 4;
    static final int WEAK = 8;

    /** Of a statement. Origin: its bytes among those put, what it aligns to, the condition of a jump. */
    static final int KIND = 0;
    static final int SECTION = 1;
    static final int LINE = 2;
    static final int AT = 3;
    static final int LENGTH = 4;
    static final int ORIGIN = 5;
    static final int JUMP_WAIT = 6;

    static final int DATA = 0;
    static final int ZEROS = 1;
    static final int ALIGN = 2;
    static final int CODE = 3;
    static final int LONG = 4;
    static final int SHORT = 5;
    static final int ALWAYS = -1;

    /** Of a value that waits. Width 0: nothing waits for it any more. */
    static final int OF = 0;
    static final int OFFSET = 1;
    static final int WIDTH = 2;
    static final int RELATIVE = 3;
    static final int PLUS = 4;
    static final int MINUS = 5;

    final Names names;
    final int[][] symbols;
    final long[] constants;
    final int[] labels;
    final int[][] statements;
    final int[][] waits;
    final long[] waitNumbers;
    final byte[] put;
    final byte[] bytes;
    final int[][] rows;
    final int[] ends;
    int count;
    int symbolsFrom;
    int labelCount;
    int statementCount;
    int waitCount;
    int putCount;
    int byteCount;
    int counted;

    Units() {
      names = new Names(SYMBOLS, SYMBOLS * 126);
      symbols = new int[SYMBOLS][6];
      constants = new long[SYMBOLS];
      labels = new int[SYMBOLS];
      statements = new int[STATEMENTS][7];
      waits = new int[WAITS][6];
      waitNumbers = new long[WAITS];
      put = new byte[BYTES];
      bytes = new byte[BYTES];
      rows = new int[MOST + 1][ROW];
      ends = new int[4];
    }

    boolean has(int unit, int section) {
      return unit >= 0 && unit < count && section >= 0 && section < 4;
    }

    void empty() {
      count = 0;
      names.cut(0);
      statementCount = 0;
      waitCount = 0;
      byteCount = 0;
      counted = 0;
    }

    void begin(boolean library) {
      int[] row = rows[count];
      Arrays.fill(row, 0);
      row[SYMBOL] = names.count;
      row[STATEMENT] = statementCount;
      row[WAIT] = waitCount;
      row[LIBRARY] = library ? 1 : 0;
      symbolsFrom = names.count;
      labelCount = 0;
      putCount = 0;
    }

    /** What was made of the unit since begin() is gone. */
    void drop() {
      int[] row = rows[count];
      names.cut(row[SYMBOL]);
      statementCount = row[STATEMENT];
      waitCount = row[WAIT];
      counted -= row[COUNTED];
    }

    /** The unit stands; the row behind tells where its own things end. */
    void keepAll() {
      count++;
      int[] row = rows[count];
      row[SYMBOL] = names.count;
      row[STATEMENT] = statementCount;
      row[WAIT] = waitCount;
    }

    void beginSymbol(int symbol) {
      Arrays.fill(symbols[symbol], 0);
      symbols[symbol][UNIT] = count;
    }

    void beLabel(int symbol, int section, int line) {
      int[] row = symbols[symbol];
      row[FLAGS] |= LABEL;
      row[IN] = section;
      row[AHEAD] = statementCount;
      row[LABEL_LINE] = line;
      if (labelCount < SYMBOLS) {
        labels[labelCount++] = symbol;
      }
    }

    void putNumber(long number, int width) {
      for (int i = 0; i < width && putCount < BYTES; i++) {
        put[putCount++] = (byte) (number >> 8 * i);
      }
    }

    /** A value that the next statement waits for; false if there is no room. */
    boolean addWait(int offset, int width, boolean relative, int plus, int minus, long number) {
      if (waitCount == WAITS) {
        return false;
      }
      int[] wait = waits[waitCount];
      wait[OF] = statementCount;
      wait[OFFSET] = offset;
      wait[WIDTH] = width;
      wait[RELATIVE] = relative ? 1 : 0;
      wait[PLUS] = plus;
      wait[MINUS] = minus;
      waitNumbers[waitCount++] = number;
      return true;
    }

    /** A statement with bytes; false if there is no room. */
    boolean add(int kind, int section, int line, int length, int origin) {
      if (section != BSS && (kind == DATA || kind == ZEROS || kind == CODE)) {
        rows[count][COUNTED] += length;
        counted += length;
      }
      if (statementCount == STATEMENTS) {
        return false;
      }
      int[] statement = statements[statementCount++];
      statement[KIND] = kind;
      statement[SECTION] = section;
      statement[LINE] = line;
      statement[AT] = 0;
      statement[LENGTH] = length;
      statement[ORIGIN] = origin;
      statement[JUMP_WAIT] = waitCount - 1;
      return counted <= BYTES;
    }

    /** The line of the first span whose places are not in one section of the unit; 0 if there is none. */
    int brokenSpan() {
      for (int i = rows[count][WAIT]; i < waitCount; i++) {
        int[] wait = waits[i];
        int[] statement = statements[wait[OF]];
        if (wait[MINUS] != Expression.NO) {
          int section = sectionOf(wait[PLUS], statement);
          if (section == NONE || section != sectionOf(wait[MINUS], statement)) {
            return statement[LINE];
          }
        }
      }
      return 0;
    }

    /** The section of this unit in which a place is; NONE if it is in none. */
    private int sectionOf(int symbol, int[] statement) {
      if (symbol == Expression.HERE) {
        return statement[SECTION];
      }
      return symbol >= 0 && (symbols[symbol][FLAGS] & LABEL) != 0 ? symbols[symbol][IN] : NONE;
    }

    private int placeOf(int symbol, int[] statement) {
      return symbol == Expression.HERE ? statement[AT] : symbols[symbol][PLACE];
    }

    /** Gives each statement and label its place, with jumps as short as they can be. */
    void layOut() {
      for (int i = rows[count][STATEMENT]; i < statementCount; i++) {
        int[] statement = statements[i];
        if (statement[KIND] == LONG && mayBeShort(waits[statement[JUMP_WAIT]], statement)) {
          statement[KIND] = SHORT;
        }
      }
      boolean changed = true;
      for (int turn = 0; changed && turn <= WAITS; turn++) {
        place();
        changed = lengthen();
      }
      settleWaits();
    }

    private boolean mayBeShort(int[] wait, int[] statement) {
      int symbol = wait[PLUS];
      if (wait[MINUS] != Expression.NO || symbol == Expression.NO) {
        return false;
      }
      return sectionOf(symbol, statement) == statement[SECTION]
          && (symbol == Expression.HERE || (symbols[symbol][FLAGS] & WEAK) == 0);
    }

    private void place() {
      Arrays.fill(ends, 0);
      int label = 0;
      for (int i = rows[count][STATEMENT]; i <= statementCount; i++) {
        for (; label < labelCount && symbols[labels[label]][AHEAD] <= i; label++) {
          int[] symbol = symbols[labels[label]];
          symbol[PLACE] = ends[symbol[IN]];
        }
        if (i < statementCount) {
          int[] statement = statements[i];
          int at = ends[statement[SECTION]];
          statement[AT] = at;
          if (statement[KIND] == ALIGN) {
            statement[LENGTH] = (at + statement[ORIGIN] - 1 & -statement[ORIGIN]) - at;
          } else if (statement[KIND] >= LONG) {
            statement[LENGTH] = statement[KIND] == SHORT ? 2 : statement[ORIGIN] == ALWAYS ? 5 : 6;
          }
          ends[statement[SECTION]] = at + statement[LENGTH];
        }
      }
    }

    private boolean lengthen() {
      boolean changed = false;
      for (int i = rows[count][STATEMENT]; i < statementCount; i++) {
        int[] statement = statements[i];
        if (statement[KIND] == SHORT) {
          long distance = distance(statement);
          if (distance < -128 || distance > 127) {
            statement[KIND] = LONG;
            changed = true;
          }
        }
      }
      return changed;
    }

    private long distance(int[] jump) {
      int wait = jump[JUMP_WAIT];
      return placeOf(waits[wait][PLUS], jump) + waitNumbers[wait] - jump[AT] - jump[LENGTH];
    }

    /** Short jumps wait for nothing; a span is known from now on. */
    private void settleWaits() {
      for (int i = rows[count][WAIT]; i < waitCount; i++) {
        int[] wait = waits[i];
        int[] statement = statements[wait[OF]];
        if (statement[KIND] == SHORT) {
          wait[WIDTH] = 0;
        } else if (wait[MINUS] != Expression.NO) {
          waitNumbers[i] += placeOf(wait[PLUS], statement) - placeOf(wait[MINUS], statement);
          wait[PLUS] = Expression.NO;
          wait[MINUS] = Expression.NO;
        }
      }
    }

    /** The line of the first statement behind which its section is too long; 0 if there is none. */
    int overlong() {
      for (int i = rows[count][STATEMENT]; i < statementCount; i++) {
        if (statements[i][AT] + statements[i][LENGTH] > SECTION_BYTES) {
          return statements[i][LINE];
        }
      }
      return 0;
    }

    /** Puts the unit's bytes behind those of all others; false if there is no room. */
    boolean write() {
      int[] row = rows[count];
      int end = byteCount;
      for (int s = 0; s < 4; s++) {
        row[SIZE + s] = ends[s];
        row[FROM + s] = end;
        end += s == BSS ? 0 : ends[s];
      }
      if (end > BYTES) {
        return false;
      }
      Arrays.fill(bytes, byteCount, end, (byte) 0);
      byteCount = end;
      for (int i = row[STATEMENT]; i < statementCount; i++) {
        int[] statement = statements[i];
        if (statement[SECTION] != BSS) {
          writeStatement(statement, row[FROM + statement[SECTION]] + statement[AT]);
        }
      }
      return true;
    }

    private void writeStatement(int[] statement, int at) {
      int condition = statement[ORIGIN];
      switch (statement[KIND]) {
        case DATA:
        case CODE:
          System.arraycopy(put, statement[ORIGIN], bytes, at, statement[LENGTH]);
          break;
        case ALIGN:
          Arrays.fill(bytes, at, at + statement[LENGTH], (byte) (statement[SECTION] == TEXT ? 0x90 : 0));
          break;
        case SHORT:
          bytes[at] = (byte) (condition == ALWAYS ? 0xeb : 0x70 + condition);
          bytes[at + 1] = (byte) distance(statement);
          break;
        case LONG:
          bytes[at] = (byte) (condition == ALWAYS ? 0xe9 : 0x0f);
          if (condition != ALWAYS) {
            bytes[at + 1] = (byte) (0x80 + condition);
          }
          break;
        default:
          break;
      }
    }
  }

  /** Makes a unit of a source, line by line. */
  private static final class Assembler {
    /** What a line's statement is, where it is no word of the vocabulary. */
    private static final int NOTHING = -2;
    private static final int ODD = -3;
    private static final int UNKNOWN = -4;
    private static final int USE = -5;
    private static final int DEFINE = -6;

    private static final int[] SIZED_OPS = {37, 37, 38, 38, 50, 50, 50, 51, 51, 51};
    private static final int[] SIZED_SIZES = {4, 8, 4, 8, 1, 4, 8, 1, 4, 8};

    final Line line;
    final Reader reader;
    final Units units;
    final Expression expression;
    final Instruction instruction;
    /** The sizes that the operands tell, 0 for none. */
    final int[] told;
    int section;
    /** The statement's word, its first token, the macro that it uses. */
    int word;
    int first;
    int macro;
    int numberPlus;
    int numberMinus;
    int displacementPlus;
    int displacementMinus;
    int faultLine;

    Assembler(byte[] tape, Units all) {
      Line read = new Line();
      line = read;
      units = all;
      reader = new Reader(new Source(tape, read.words), read);
      expression = new Expression(read, all);
      instruction = new Instruction();
      told = new int[4];
    }

    /** Makes a unit of the first bytes of the tape; tells the kind of its fault, 0 if it stands. */
    int assemble(int length, boolean library) {
      units.begin(library);
      reader.open(length);
      expression.latestLength = 0;
      section = Units.TEXT;
      for (int turn = 0; turn <= Reader.MOST_LINES && reader.advance(); turn++) {
        line.worst = 0;
        if (reader.tooMuch()) {
          line.blame(Line.TOO_MUCH);
        } else if (!line.cut()) {
          line.blame(Line.TOKENS);
        } else {
          begin();
          if (!line.blamed(Line.WORD)) {
            statement();
          }
        }
        if (line.worst != 0) {
          return fail(line.faultKind(), reader.told);
        }
      }
      return finish();
    }

    private int fail(int kind, int at) {
      units.drop();
      faultLine = at;
      return kind;
    }

    private int finish() {
      int last = reader.source.lines;
      if (reader.unended || reader.ifs > 0) {
        return fail(6, last);
      }
      int broken = units.brokenSpan();
      if (broken != 0) {
        return fail(4, broken);
      }
      units.layOut();
      int overlong = units.overlong();
      if (overlong != 0) {
        return fail(5, overlong);
      }
      if (!units.write()) {
        return fail(5, last);
      }
      units.keepAll();
      return 0;
    }

    /** What comes ahead of a statement's grammar: where it may stand, labels and other new names, its word. */
    private void begin() {
      first = 0;
      while (first < line.count && line.kind[first] == Line.NAME && line.kind[first + 1] == ':') {
        first += 2;
      }
      word = wordAt(first);
      boolean control = word >= Line.IF && word <= Line.ENDM;
      if (control && (first > 0 || reader.misplaced(word)) || word == USE && reader.overused(macro, first)) {
        line.blame(Line.CONTROL);
        return;
      }
      for (int i = 0; i < first; i += 2) {
        label(i);
      }
      if (word == DEFINE) {
        expression.spell(first, true);
        blameIf(line.isWord(first) || isMacro() || expression.known() != NONE, Line.NAMED);
      } else if (word == Line.MACRO && line.kind[first + 1] == Line.NAME) {
        expression.spell(first + 1, false);
        blameIf(line.isWord(first + 1) || isMacro() || isDefined(Units.LABEL | Units.CONSTANT), Line.NAMED);
      } else if (word == Line.GLOBAL || word == Line.WEAK) {
        for (int i = first + 1; i < line.count; i++) {
          if (line.kind[i] == Line.NAME) {
            expression.spell(i, true);
            blameIf(isDefined(Units.CONSTANT), Line.NAMED);
          }
        }
      }
      blameIf(word == UNKNOWN, Line.WORD);
    }

    private int wordAt(int token) {
      if (line.kind[token] == Line.END) {
        return NOTHING;
      }
      if (line.kind[token] != Line.NAME) {
        return ODD;
      }
      if (line.isMark(token + 1, Line.EQU)) {
        return DEFINE;
      }
      int known = (int) line.value[token];
      if (known >= Line.REP && known < Line.TEXT_SECTION) {
        return known;
      }
      Names macros = reader.source.macros;
      macro = macros.find(line.text, line.from[token], line.to[token] - line.from[token], macros.count);
      return macro == NONE ? UNKNOWN : USE;
    }

    private void blameIf(boolean wrong, int rank) {
      if (wrong) {
        line.blame(rank);
      }
    }

    private boolean isMacro() {
      Names macros = reader.source.macros;
      return macros.find(expression.name, 0, expression.nameLength, macros.count) != NONE;
    }

    /** Whether the name that was spelled is a symbol with one of some flags. */
    private boolean isDefined(int flags) {
      int symbol = expression.known();
      return symbol != NONE && (units.symbols[symbol][Units.FLAGS] & flags) != 0;
    }

    private void label(int token) {
      expression.spell(token, true);
      if (line.isWord(token) || isMacro() || isDefined(Units.LABEL | Units.CONSTANT)) {
        line.blame(Line.NAMED);
        return;
      }
      int symbol = expression.made();
      if (symbol != NONE) {
        units.beLabel(symbol, section, reader.told);
        expression.beLatest(token);
      }
    }

    private void statement() {
      line.at = first + 1;
      if (word >= Line.ADD || word == Line.REP) {
        if (operation() && operands()) {
          instruction();
        }
        return;
      }
      switch (word) {
        case NOTHING:
          break;
        case USE:
          reader.use(macro);
          break;
        case DEFINE:
          define();
          break;
        case Line.SECTION:
          changeSection();
          break;
        case Line.GLOBAL:
          flag(Units.GLOBAL);
          break;
        case Line.WEAK:
          flag(Units.WEAK);
          break;
        case Line.KEEP:
          blameIf(!ended(), Line.GRAMMAR);
          units.rows[units.count][Units.KEEP + section] = 1;
          break;
        case Line.DB:
        case Line.DW:
        case Line.DD:
        case Line.DQ:
          data(1 << word - Line.DB);
          break;
        case Line.RESB:
        case Line.ALIGN:
          space();
          break;
        default:
          control();
          break;
      }
    }

    private boolean ended() {
      return line.kind[line.at] == Line.END;
    }

    /** Reads an expression that ends the line and must be a constant; whether it is. */
    private boolean constant() {
      if (!expression.read(1, false, 0) || !ended()) {
        line.blame(Line.GRAMMAR);
        return false;
      }
      blameIf(!expression.isConstant(), Line.EXPRESSIONS);
      return !line.blamed(Line.EXPRESSIONS);
    }

    private void define() {
      line.at = first + 2;
      if (!constant()) {
        return;
      }
      expression.spell(first, true);
      int symbol = expression.made();
      if (symbol != NONE) {
        units.symbols[symbol][Units.FLAGS] = Units.CONSTANT;
        units.constants[symbol] = expression.number[0];
      }
    }

    private void changeSection() {
      boolean fine = line.kind[line.at] == Line.NAME && line.value[line.at] >= Line.TEXT_SECTION
          && line.kind[line.at + 1] == Line.END;
      if (fine) {
        section = (int) line.value[line.at] - Line.TEXT_SECTION;
      } else {
        line.blame(Line.GRAMMAR);
      }
    }

    private void flag(int flag) {
      for (int turn = 0; turn <= Line.MOST; turn++) {
        if (line.kind[line.at] != Line.NAME) {
          line.blame(Line.GRAMMAR);
          return;
        }
        expression.spell(line.at, true);
        int symbol = expression.made();
        if (symbol != NONE) {
          units.symbols[symbol][Units.FLAGS] |= flag;
        }
        line.at++;
        if (ended()) {
          return;
        }
        if (line.kind[line.at] != ',') {
          line.blame(Line.GRAMMAR);
          return;
        }
        line.at++;
      }
    }

    private void data(int width) {
      int origin = units.putCount;
      int length = 0;
      boolean more = true;
      for (int turn = 0; more && turn <= Line.MOST; turn++) {
        if (width == 1 && line.kind[line.at] == Line.TEXT) {
          length += characters(line.at++);
        } else if (expression.read(1, false, 0)) {
          item(width, length);
          length += width;
        } else {
          line.blame(Line.GRAMMAR);
          return;
        }
        more = line.kind[line.at] == ',';
        if (!more && !ended()) {
          line.blame(Line.GRAMMAR);
          return;
        }
        line.at++;
      }
      blameIf(section == Units.BSS && length > 0, Line.OPERANDS);
      if (!line.blamed(Line.NUMBERS)) {
        blameIf(!units.add(Units.DATA, section, reader.told, length, origin), Line.ROOM);
      }
    }

    /** Puts the characters of a text; tells how many there are. */
    private int characters(int token) {
      int count = 0;
      int end = line.to[token] - 1;
      for (int i = line.from[token] + 1; i < end; i += line.text[i] == '\\' ? 2 : 1) {
        units.putNumber(line.meant(i), 1);
        count++;
      }
      return count;
    }

    private void item(int width, int offset) {
      long number = expression.number[0];
      if (expression.isConstant()) {
        long least = width == 8 ? number : -(1L << 8 * width - 1);
        long most = width == 8 ? number : (1L << 8 * width) - 1;
        blameIf(number < least || number > most, Line.NUMBERS);
        units.putNumber(number, width);
      } else if (width < 4) {
        line.blame(Line.EXPRESSIONS);
      } else {
        boolean room = units.addWait(offset, width, false, expression.plus[0], expression.minus[0], number);
        blameIf(!room, Line.ROOM);
        units.putNumber(0, width);
      }
    }

    private void space() {
      if (!constant()) {
        return;
      }
      long number = expression.number[0];
      boolean align = word == Line.ALIGN;
      boolean fine = align ? number >= 1 && number <= 4096 && (number & number - 1) == 0
          : number >= 0 && number <= 65536;
      if (!fine) {
        line.blame(Line.NUMBERS);
        return;
      }
      boolean room = units.add(align ? Units.ALIGN : Units.ZEROS, section, reader.told,
          align ? 0 : (int) number, align ? (int) number : 0);
      blameIf(!room, Line.ROOM);
    }

    private void control() {
      switch (word) {
        case Line.IF:
          if (constant()) {
            reader.readIf(expression.number[0] != 0);
          }
          break;
        case Line.REPT:
          if (constant()) {
            rept(expression.number[0]);
          }
          break;
        case Line.MACRO:
          defineMacro();
          break;
        case Line.ELSE:
        case Line.ENDIF:
          if (!ended()) {
            line.blame(Line.GRAMMAR);
          } else if (word == Line.ELSE) {
            reader.readElse();
          } else {
            reader.readEndif();
          }
          break;
        default:
          line.blame(Line.GRAMMAR);
          break;
      }
    }

    private void rept(long times) {
      if (times < 0 || times > 4096) {
        line.blame(Line.NUMBERS);
      } else {
        reader.readRept((int) times);
      }
    }

    private void defineMacro() {
      boolean fine = line.kind[first + 1] == Line.NAME;
      for (int i = first + 2; fine && i < line.count; i++) {
        // Behind the name every second token is a comma, and none is the last.
        boolean comma = (i - first) % 2 == 1;
        fine = comma ? line.kind[i] == ',' && i + 1 < line.count : line.kind[i] == Line.NAME;
      }
      if (fine) {
        reader.readMacro(first + 1);
      } else {
        line.blame(Line.GRAMMAR);
      }
    }

    /** Sets the instruction's op, condition and size by its word; false if rep stands alone. */
    private boolean operation() {
      int code = word;
      instruction.condition = 0;
      instruction.size = 0;
      if (code == Line.REP) {
        code = line.kind[line.at] == Line.NAME ? (int) line.value[line.at] : NONE;
        if (code < Line.MOVSB || code >= Line.JUMP_IF) {
          line.blame(Line.GRAMMAR);
          return false;
        }
        line.at++;
      }
      if (code >= Line.JUMP_IF) {
        int condition = (code - Line.JUMP_IF) % 20;
        instruction.op = 34 + (code - Line.JUMP_IF) / 20;
        instruction.condition = condition < 16 ? condition : condition - 14;
        instruction.size = instruction.op == Instruction.SET ? 1 : 0;
      } else if (code >= Line.CDQ) {
        instruction.op = SIZED_OPS[code - Line.CDQ] + (word == Line.REP ? 2 : 0);
        instruction.size = SIZED_SIZES[code - Line.CDQ];
      } else {
        instruction.op = code >= Line.NOP ? code - Line.NOP + 39 : code >= Line.ROL ? code - Line.ROL + 24
            : code - Line.ADD;
        instruction.size = instruction.op == Instruction.PUSH || instruction.op == Instruction.POP ? 8 : 0;
      }
      return true;
    }

    /** Reads the operands; false if their grammar is wrong. */
    private boolean operands() {
      instruction.count = 0;
      if (ended()) {
        return true;
      }
      for (int turn = 0; turn <= Line.MOST; turn++) {
        int i = Math.min(instruction.count, 3);
        told[i] = line.isMark(line.at, Line.BYTE) ? 1 : line.isMark(line.at, Line.DWORD) ? 4
            : line.isMark(line.at, Line.QWORD) ? 8 : 0;
        line.at += told[i] != 0 ? 1 : 0;
        boolean fine = line.kind[line.at] == '[' ? address() && memoryOperand(i)
            : told[i] == 0 && line.isRegister(line.at) ? registerOperand(i) : numberOperand(i);
        if (!fine) {
          break;
        }
        instruction.count++;
        if (ended()) {
          return true;
        }
        if (line.kind[line.at] != ',') {
          break;
        }
        line.at++;
      }
      line.blame(Line.GRAMMAR);
      return false;
    }

    private boolean registerOperand(int i) {
      int code = (int) line.value[line.at++];
      instruction.kind[i] = Instruction.REGISTER;
      instruction.reg[i] = code % 16;
      told[i] = code < 16 ? 8 : code < 32 ? 4 : 1;
      return true;
    }

    private boolean numberOperand(int i) {
      if (!expression.read(1, false, 0)) {
        return false;
      }
      instruction.kind[i] = Instruction.NUMBER;
      instruction.number = expression.number[0];
      instruction.numberWidth = expression.isConstant() ? 0 : 4;
      numberPlus = expression.plus[0];
      numberMinus = expression.minus[0];
      return true;
    }

    /** Reads an address up to its ]; its displacement is left as the expression's value. */
    private boolean address() {
      line.at++;
      instruction.beginAddress();
      expression.beZero();
      if (line.isMark(line.at, Line.REL)) {
        line.at++;
        instruction.base = Instruction.RELATIVE;
        return expression.read(1, false, 0);
      }
      boolean begun = false;
      int sign = 0;
      for (int turn = 0; turn <= Line.MOST; turn++) {
        if (line.isRegister(line.at)) {
          if (sign == '-' || !registerTerm()) {
            return false;
          }
        } else {
          if (!expression.read(Expression.PRODUCTS, !begun && sign == '-', begun ? 1 : 0)) {
            return false;
          }
          if (begun) {
            expression.apply(sign);
          }
          begun = true;
        }
        sign = line.kind[line.at];
        if (sign != '+' && sign != '-') {
          return sign == ']';
        }
        line.at++;
      }
      return false;
    }

    /** Reads a register of an address, perhaps with what it is times; false if there is none such. */
    private boolean registerTerm() {
      int register = (int) line.value[line.at++];
      if (register >= 16) {
        return false;
      }
      if (line.kind[line.at] != '*') {
        instruction.addRegister(register);
        return true;
      }
      line.at++;
      long scale = line.value[line.at];
      if (line.kind[line.at] != Line.NUMBER || scale != 1 && scale != 2 && scale != 4 && scale != 8) {
        return false;
      }
      line.at++;
      instruction.addIndex(register, scale == 8 ? 3 : (int) scale / 2);
      return true;
    }

    /** The address that was read becomes an operand; false if it does not end. */
    private boolean memoryOperand(int i) {
      instruction.kind[i] = instruction.endAddress() ? Instruction.MEMORY : Instruction.ODD;
      instruction.displacement = expression.number[0];
      instruction.displacementWaits = instruction.base == Instruction.RELATIVE || !expression.isConstant();
      displacementPlus = expression.plus[0];
      displacementMinus = expression.minus[0];
      return line.kind[line.at++] == ']';
    }

    /** The instruction whose operands were read, if it is one. */
    private void instruction() {
      if (line.blamed(Line.EXPRESSIONS)) {
        return;
      }
      Instruction it = instruction;
      if (section == Units.BSS || !settleSize()) {
        line.blame(Line.OPERANDS);
        return;
      }
      boolean toExpression = it.count == 1 && it.kind[0] == Instruction.NUMBER;
      if (toExpression && (it.op == Instruction.JUMP || it.op == Instruction.IF)) {
        jump();
        return;
      }
      if (it.op == Instruction.SIGNED_MULTIPLY && it.count > 1) {
        it.beProduct();
      }
      settleNumber(toExpression && it.op == Instruction.CALL);
      if (!it.encode()) {
        line.blame(Line.OPERANDS);
        return;
      }
      if (it.displacementAt != NONE && !it.displacementWaits && it.displacement != (int) it.displacement) {
        line.blame(Line.NUMBERS);
        return;
      }
      code();
    }

    /** Makes one size of all that the operands tell; false if they tell two, or what they must not. */
    private boolean settleSize() {
      Instruction it = instruction;
      if (it.count > 3) {
        return false;
      }
      boolean shifts = it.op >= Instruction.ROLL && it.op <= Instruction.SIGNED_RIGHT;
      boolean sizeless = it.op >= Instruction.JUMP && it.op <= Instruction.IF;
      for (int i = 0; i < it.count; i++) {
        int size = told[i];
        boolean second = i == 1;
        if (second && shifts && it.kind[i] == Instruction.REGISTER && it.reg[i] == 1 && size == 1) {
          it.kind[i] = Instruction.COUNT;
        } else if (second && it.op >= Instruction.ZERO && it.op <= Instruction.WIDEN) {
          if (size != (it.op == Instruction.WIDEN ? 4 : 1)) {
            return false;
          }
        } else if (sizeless) {
          // An expression has no size here, whatever is told ahead of it; all else has 8.
          if (it.kind[i] != Instruction.NUMBER && size != 0 && size != 8) {
            return false;
          }
        } else if (size != 0) {
          if (it.size != 0 && it.size != size) {
            return false;
          }
          it.size = size;
        }
      }
      return true;
    }

    /** How wide a place among the operands is, or what a constant counts as by the size. */
    private void settleNumber(boolean distance) {
      Instruction it = instruction;
      if (distance) {
        it.numberWidth = 4;
      } else if (it.numberWidth != 0) {
        boolean wide = it.op == Instruction.MOVE && it.size == 8 && it.kind[0] == Instruction.REGISTER;
        it.numberWidth = wide ? 8 : 4;
      } else if (it.size == 1 && it.number >= 128 && it.number <= 255) {
        it.number -= 256;
      } else if (it.size == 4 && it.number >= 1L << 31 && it.number < 1L << 32) {
        it.number -= 1L << 32;
      }
    }

    /** A jump to an expression; how long it is shows when all of the unit is read. */
    private void jump() {
      boolean always = instruction.op == Instruction.JUMP;
      boolean room = units.addWait(always ? 1 : 2, 4, true, numberPlus, numberMinus, instruction.number);
      room &= units.add(Units.LONG, section, reader.told, 0, always ? Units.ALWAYS : instruction.condition);
      blameIf(!room, Line.ROOM);
    }

    private void code() {
      Instruction it = instruction;
      boolean room = true;
      if (it.displacementAt != NONE && it.displacementWaits) {
        boolean relative = it.base == Instruction.RELATIVE;
        room = units.addWait(it.displacementAt, 4, relative, displacementPlus, displacementMinus, it.displacement);
      }
      if (it.numberAt != NONE && it.numberWidth != 0) {
        boolean distance = it.op == Instruction.CALL;
        room &= units.addWait(it.numberAt, it.numberWidth, distance, numberPlus, numberMinus, it.number);
      }
      int origin = units.putCount;
      for (int i = 0; i < it.length; i++) {
        units.putNumber(it.bytes[i], 1);
      }
      room &= units.add(Units.CODE, section, reader.told, it.length, origin);
      blameIf(!room, Line.ROOM);
    }
  }

  /** An instruction: its op, its operands, and its bytes. */
  private static final class Instruction {
    /** The ops that are told apart by name; all by their numbers in the document. */
    static final int MOVE = 8;
    static final int ZERO = 12;
    static final int SIGN = 13;
    static final int WIDEN = 14;
    static final int SIGNED_MULTIPLY = 18;
    static final int PRODUCT = 23;
    static final int ROLL = 24;
    static final int SIGNED_RIGHT = 28;
    static final int PUSH = 29;
    static final int POP = 30;
    static final int JUMP = 31;
    static final int CALL = 32;
    static final int IF = 34;
    static final int SET = 35;
    static final int CONDITIONAL_MOVE = 36;
    static final int NONE_SUCH = 41;

    /** Kinds of operands. Odd: what no instruction has. Count: cl that tells how far to shift. */
    static final int ODD = 0;
    static final int REGISTER = 1;
    static final int MEMORY = 2;
    static final int NUMBER = 3;
    static final int COUNT = 4;

    /** The base of what rel tells. */
    static final int RELATIVE = 16;

    /** Sizes in the table: none, 1, 4 or 8 by W, just 4, 8 whatever W is, 8 by W alone. */
    private static final int Z = 0;
    private static final int B = 1;
    private static final int V = 2;
    private static final int D = 4;
    private static final int Q = 8;
    private static final int W = 9;

    /** Operands in the table, and then for each of these lists where it has a memory or register m, and so on. */
    private static final int NOTHING = 0;
    private static final int M_R = 1;
    private static final int R_M = 2;
    private static final int A_N = 3;
    private static final int M_N = 4;
    private static final int M = 5;
    private static final int L_N = 6;
    private static final int L = 7;
    private static final int R_ADDRESS = 8;
    private static final int R_M_N = 9;
    private static final int M_ONE = 10;
    private static final int M_C = 11;
    private static final int N = 12;
    private static final int[] COUNTS = {0, 2, 2, 2, 2, 1, 2, 1, 2, 3, 2, 2, 1};
    private static final int[] M_AT = {-1, 0, 1, -1, 0, 0, -1, -1, 1, 1, 0, 0, -1};
    private static final int[] R_AT = {-1, 1, 0, -1, -1, -1, -1, -1, 0, 0, -1, -1, -1};
    private static final int[] L_AT = {-1, -1, -1, -1, -1, -1, 0, 0, -1, -1, -1, -1, -1};
    private static final int[] N_AT = {-1, -1, -1, 1, 1, -1, 1, -1, -1, 2, -1, -1, 0};

    /** Numbers in the table: none, of 1 byte with and without a sign, of 2, 4 and 8 bytes. */
    private static final int NO = 0;
    private static final int IB = 1;
    private static final int UB = 2;
    private static final int IW = 3;
    private static final int ID = 4;
    private static final int IO = 5;
    private static final int[] WIDTHS = {0, 1, 1, 2, 4, 8};

    /** Columns of the table: op, size, operands, number, opcode (perhaps behind 0F or F3), reg of the form. */
    private static final int SIZE = 1;
    private static final int OPERANDS = 2;
    private static final int NUMBERS = 3;
    private static final int OPCODE = 4;
    private static final int REG = 5;
    private static final int COLUMNS = 6;

    /** The lines of the ops 0 to 7: to n times 8 more in opcodes below 0x80, n in the form of the others. */
    private static final int[] ARITHMETIC = {
      0, B, M_R, NO, 0x00, -1,
      0, V, M_R, NO, 0x01, -1,
      0, B, R_M, NO, 0x02, -1,
      0, V, R_M, NO, 0x03, -1,
      0, B, A_N, IB, 0x04, -1,
      0, V, A_N, ID, 0x05, -1,
      0, B, M_N, IB, 0x80, 0,
      0, V, M_N, ID, 0x81, 0,
      0, V, M_N, IB, 0x83, 0
    };

    private static final int[] TABLE = {
      8, B, M_R, NO, 0x88, -1,
      8, V, M_R, NO, 0x89, -1,
      8, B, R_M, NO, 0x8a, -1,
      8, V, R_M, NO, 0x8b, -1,
      8, B, M_N, IB, 0xc6, 0,
      8, V, M_N, ID, 0xc7, 0,
      8, B, L_N, IB, 0xb0, -1,
      8, D, L_N, ID, 0xb8, -1,
      8, W, L_N, IO, 0xb8, -1,
      9, B, M_R, NO, 0x84, -1,
      9, V, M_R, NO, 0x85, -1,
      9, B, A_N, IB, 0xa8, -1,
      9, V, A_N, ID, 0xa9, -1,
      9, B, M_N, IB, 0xf6, 0,
      9, V, M_N, ID, 0xf7, 0,
      10, B, M_R, NO, 0x86, -1,
      10, V, M_R, NO, 0x87, -1,
      11, V, R_ADDRESS, NO, 0x8d, -1,
      12, V, R_M, NO, 0x0fb6, -1,
      13, V, R_M, NO, 0x0fbe, -1,
      14, W, R_M, NO, 0x63, -1,
      15, B, M, NO, 0xf6, 2,
      15, V, M, NO, 0xf7, 2,
      16, B, M, NO, 0xf6, 3,
      16, V, M, NO, 0xf7, 3,
      17, B, M, NO, 0xf6, 4,
      17, V, M, NO, 0xf7, 4,
      18, B, M, NO, 0xf6, 5,
      18, V, M, NO, 0xf7, 5,
      19, B, M, NO, 0xf6, 6,
      19, V, M, NO, 0xf7, 6,
      20, B, M, NO, 0xf6, 7,
      20, V, M, NO, 0xf7, 7,
      21, B, M, NO, 0xfe, 0,
      21, V, M, NO, 0xff, 0,
      22, B, M, NO, 0xfe, 1,
      22, V, M, NO, 0xff, 1,
      23, V, R_M, NO, 0x0faf, -1,
      23, V, R_M_N, ID, 0x69, -1,
      23, V, R_M_N, IB, 0x6b, -1,
      24, B, M_N, UB, 0xc0, 0,
      24, V, M_N, UB, 0xc1, 0,
      24, B, M_ONE, NO, 0xd0, 0,
      24, V, M_ONE, NO, 0xd1, 0,
      24, B, M_C, NO, 0xd2, 0,
      24, V, M_C, NO, 0xd3, 0,
      25, B, M_N, UB, 0xc0, 1,
      25, V, M_N, UB, 0xc1, 1,
      25, B, M_ONE, NO, 0xd0, 1,
      25, V, M_ONE, NO, 0xd1, 1,
      25, B, M_C, NO, 0xd2, 1,
      25, V, M_C, NO, 0xd3, 1,
      26, B, M_N, UB, 0xc0, 4,
      26, V, M_N, UB, 0xc1, 4,
      26, B, M_ONE, NO, 0xd0, 4,
      26, V, M_ONE, NO, 0xd1, 4,
      26, B, M_C, NO, 0xd2, 4,
      26, V, M_C, NO, 0xd3, 4,
      27, B, M_N, UB, 0xc0, 5,
      27, V, M_N, UB, 0xc1, 5,
      27, B, M_ONE, NO, 0xd0, 5,
      27, V, M_ONE, NO, 0xd1, 5,
      27, B, M_C, NO, 0xd2, 5,
      27, V, M_C, NO, 0xd3, 5,
      28, B, M_N, UB, 0xc0, 7,
      28, V, M_N, UB, 0xc1, 7,
      28, B, M_ONE, NO, 0xd0, 7,
      28, V, M_ONE, NO, 0xd1, 7,
      28, B, M_C, NO, 0xd2, 7,
      28, V, M_C, NO, 0xd3, 7,
      29, Q, L, NO, 0x50, -1,
      29, Q, N, ID, 0x68, -1,
      29, Q, N, IB, 0x6a, -1,
      29, Q, M, NO, 0xff, 6,
      30, Q, L, NO, 0x58, -1,
      30, Q, M, NO, 0x8f, 0,
      31, Z, N, ID, 0xe9, -1,
      31, Z, N, IB, 0xeb, -1,
      31, Z, M, NO, 0xff, 4,
      32, Z, N, ID, 0xe8, -1,
      32, Z, M, NO, 0xff, 2,
      33, Z, NOTHING, NO, 0xc3, -1,
      33, Z, N, IW, 0xc2, -1,
      34, Z, N, ID, 0x0f80, -1,
      34, Z, N, IB, 0x70, -1,
      35, B, M, NO, 0x0f90, -1,
      36, V, R_M, NO, 0x0f40, -1,
      37, V, NOTHING, NO, 0x99, -1,
      38, V, NOTHING, NO, 0x98, -1,
      39, Z, NOTHING, NO, 0x90, -1,
      40, Z, NOTHING, NO, 0xcc, -1,
      41, Z, NOTHING, NO, 0x0f0b, -1,
      42, Z, NOTHING, NO, 0x0f05, -1,
      43, Z, NOTHING, NO, 0xc9, -1,
      44, V, R_M, NO, 0x0fbc, -1,
      45, V, R_M, NO, 0x0fbd, -1,
      46, V, L, NO, 0x0fc8, -1,
      47, V, M_R, NO, 0x0fa3, -1,
      47, V, M_N, UB, 0x0fba, 4,
      48, B, M_R, NO, 0x0fc0, -1,
      48, V, M_R, NO, 0x0fc1, -1,
      49, B, M_R, NO, 0x0fb0, -1,
      49, V, M_R, NO, 0x0fb1, -1,
      50, B, NOTHING, NO, 0xa4, -1,
      50, V, NOTHING, NO, 0xa5, -1,
      51, B, NOTHING, NO, 0xaa, -1,
      51, V, NOTHING, NO, 0xab, -1,
      52, B, NOTHING, NO, 0xf3a4, -1,
      52, V, NOTHING, NO, 0xf3a5, -1,
      53, B, NOTHING, NO, 0xf3aa, -1,
      53, V, NOTHING, NO, 0xf3ab, -1
    };

    private static final int OPS = 54;

    final int[] rows;
    final int[] firstRow;
    /** The table's line by opcode map (0, 1 behind 0F, 2 behind F3), opcode and the form's reg. */
    final int[] rowAt;
    final int[] kind;
    final int[] reg;
    final byte[] bytes;
    int op;
    int condition;
    int size;
    int count;
    int base;
    int index;
    int shift;
    boolean odd;
    long displacement;
    boolean displacementWaits;
    long number;
    int numberWidth;
    int displacementAt;
    int numberAt;
    int length;

    Instruction() {
      rows = new int[8 * ARITHMETIC.length + TABLE.length];
      firstRow = new int[OPS + 1];
      rowAt = new int[3 * 256 * 8];
      kind = new int[4];
      reg = new int[4];
      bytes = new byte[32];
      Arrays.fill(rowAt, NONE);
      for (int i = 0; i < 8 * ARITHMETIC.length; i++) {
        int n = i / ARITHMETIC.length;
        int column = i % COLUMNS;
        int told = ARITHMETIC[i % ARITHMETIC.length];
        boolean more = column == 0 || column == REG && told == 0;
        rows[i] = more ? n : column == OPCODE && told < 0x80 ? told + 8 * n : told;
      }
      System.arraycopy(TABLE, 0, rows, 8 * ARITHMETIC.length, TABLE.length);
      for (int row = 0; row < rows.length; row += COLUMNS) {
        firstRow[rows[row] + 1] = row + COLUMNS;
        enter(row);
      }
    }

    /** Enters a line at all the opcodes and regs by which it is decoded, where none is yet. */
    private void enter(int row) {
      int opcode = rows[row + OPCODE];
      int map = opcode >> 8 == 0x0f ? 1 : opcode >> 8 == 0xf3 ? 2 : 0;
      int many = L_AT[rows[row + OPERANDS]] != NONE ? 8 : isConditional(rows[row]) ? 16 : 1;
      int begin = (map * 256 + (opcode & 0xff)) * 8;
      for (int i = begin; i < begin + 8 * many && i < rowAt.length; i++) {
        int form = rows[row + REG];
        if ((form == -1 || form == i % 8) && rowAt[i] == NONE) {
          rowAt[i] = row;
        }
      }
    }

    private static boolean isConditional(int op) {
      return op == IF || op == SET || op == CONDITIONAL_MOVE;
    }

    void beginAddress() {
      base = NONE;
      index = NONE;
      shift = 0;
      odd = false;
    }

    void addRegister(int register) {
      if (base == NONE) {
        base = register;
      } else {
        addIndex(register, 0);
      }
    }

    void addIndex(int register, int by) {
      odd |= index != NONE;
      index = register;
      shift = by;
    }

    /** False if no instruction has such an address. */
    boolean endAddress() {
      if (index == 4 && shift == 0 && base != NONE) {
        index = base;
        base = 4;
      }
      return !odd && index != 4;
    }

    /** With two or three operands imul is another op; with a register and a number it takes the register twice. */
    void beProduct() {
      op = PRODUCT;
      if (count == 2 && kind[0] == REGISTER && kind[1] == NUMBER) {
        kind[1] = REGISTER;
        reg[1] = reg[0];
        kind[2] = NUMBER;
        count = 3;
      }
    }

    /** Makes the fewest bytes that tell the instruction; false if it is none. */
    boolean encode() {
      int best = NONE;
      int least = bytes.length;
      for (int row = firstRow[op]; row < firstRow[op + 1]; row += COLUMNS) {
        if (matches(row)) {
          emit(row);
          if (length < least) {
            best = row;
            least = length;
          }
        }
      }
      if (best != NONE) {
        emit(best);
      }
      return best != NONE;
    }

    private boolean matches(int row) {
      int operands = rows[row + OPERANDS];
      if (count != COUNTS[operands] || !sizeFits(rows[row + SIZE])) {
        return false;
      }
      int m = M_AT[operands];
      int r = R_AT[operands];
      int low = L_AT[operands];
      int n = N_AT[operands];
      if (m != NONE && kind[m] != MEMORY && (kind[m] != REGISTER || operands == R_ADDRESS)) {
        return false;
      }
      if (r != NONE && kind[r] != REGISTER || low != NONE && kind[low] != REGISTER) {
        return false;
      }
      if (n != NONE && (kind[n] != NUMBER || !numberFits(rows[row + NUMBERS]))) {
        return false;
      }
      switch (operands) {
        case A_N:
          return kind[0] == REGISTER && reg[0] == 0;
        case M_ONE:
          return kind[1] == NUMBER && numberWidth == 0 && number == 1;
        case M_C:
          return kind[1] == COUNT;
        default:
          return true;
      }
    }

    private boolean sizeFits(int told) {
      return told == V ? size == 4 || size == 8 : told == W ? size == 8 : size == told;
    }

    private boolean numberFits(int told) {
      if (numberWidth != 0) {
        return numberWidth == 4 ? told == ID : told == IO;
      }
      switch (told) {
        case IB:
          return number == (byte) number;
        case UB:
          return number >= 0 && number < 256;
        case IW:
          return number >= 0 && number < 65536;
        case ID:
          return number == (int) number;
        default:
          return true;
      }
    }

    private void emit(int row) {
      int operands = rows[row + OPERANDS];
      int opcode = rows[row + OPCODE];
      int m = M_AT[operands];
      int r = R_AT[operands];
      int low = L_AT[operands];
      length = 0;
      displacementAt = NONE;
      numberAt = NONE;
      if (opcode >> 8 == 0xf3) {
        put(0xf3);
      }
      emitPrefix(row);
      if (opcode >> 8 == 0x0f) {
        put(0x0f);
      }
      put((opcode & 0xff) + (low != NONE ? reg[low] & 7 : 0) + (isConditional(op) ? condition : 0));
      if (m != NONE) {
        emitForm(m, r != NONE ? reg[r] & 7 : Math.max(rows[row + REG], 0));
      }
      if (N_AT[operands] != NONE) {
        numberAt = length;
        putNumber(numberWidth == 0 ? number : 0, WIDTHS[rows[row + NUMBERS]]);
      }
    }

    private void emitPrefix(int row) {
      int operands = rows[row + OPERANDS];
      int m = M_AT[operands];
      int r = R_AT[operands];
      int low = L_AT[operands];
      boolean wide = rows[row + SIZE] == W || rows[row + SIZE] == V && size == 8;
      int bits = wide ? 8 : 0;
      boolean needed = false;
      if (r != NONE) {
        bits |= reg[r] >> 3 << 2;
        needed = size == 1 && reg[r] >= 4;
      }
      if (low != NONE) {
        bits |= reg[low] >> 3;
        needed |= size == 1 && reg[low] >= 4;
      }
      if (m != NONE && kind[m] == REGISTER) {
        bits |= reg[m] >> 3;
        needed |= reg[m] >= 4 && sizeOfM() == 1;
      } else if (m != NONE) {
        bits |= base != NONE && base != RELATIVE ? base >> 3 : 0;
        bits |= index != NONE ? index >> 3 << 1 : 0;
      }
      if (needed || bits != 0) {
        put(0x40 + bits);
      }
    }

    /** The size of the operand m, which some ops tell apart from their own. */
    int sizeOfM() {
      return op == ZERO || op == SIGN ? 1 : op == WIDEN ? 4 : op == JUMP || op == CALL ? 8 : size;
    }

    private void emitForm(int m, int told) {
      if (kind[m] == REGISTER) {
        put(0xc0 + 8 * told + (reg[m] & 7));
        return;
      }
      boolean free = base == NONE || base == RELATIVE;
      boolean byIndex = base == NONE || index != NONE || base == 4 || base == 12;
      int width = free || displacementWaits ? 4 : displacement == 0 && (base & 7) != 5 ? 0
          : displacement == (byte) displacement ? 1 : 4;
      int mod = free || width == 0 ? 0 : width == 1 ? 1 : 2;
      put(64 * mod + 8 * told + (base == RELATIVE ? 5 : byIndex ? 4 : base & 7));
      if (byIndex) {
        put(64 * shift + 8 * (index == NONE ? 4 : index & 7) + (base == NONE ? 5 : base & 7));
      }
      displacementAt = length;
      putNumber(displacementWaits ? 0 : displacement, width);
    }

    private void put(int value) {
      if (length < bytes.length) {
        bytes[length++] = (byte) value;
      }
    }

    private void putNumber(long value, int width) {
      for (int i = 0; i < width && length < bytes.length; i++) {
        bytes[length++] = (byte) (value >> 8 * i);
      }
    }

    /** Reads the instruction that the bytes from a place on tell. */
    void decode(byte[] from, int at) {
      length = 0;
      int map = 0;
      int prefix = 0;
      int next = next(from, at);
      if (next == 0xf3) {
        map = 2;
        next = next(from, at);
      }
      if ((next & 0xf0) == 0x40) {
        prefix = next;
        next = next(from, at);
      }
      if (next == 0x0f) {
        map = 1;
        next = next(from, at);
      }
      int form = at + length < from.length ? from[at + length] >> 3 & 7 : 0;
      int row = rowAt[(map * 256 + next) * 8 + form];
      boolean wide = (prefix & 8) != 0;
      if (row == NONE) {
        op = NONE_SUCH;
        return;
      }
      if (rows[row + SIZE] == D && wide) {
        row += COLUMNS;
      }
      op = rows[row];
      condition = next & 15;
      int told = rows[row + SIZE];
      size = told == V ? wide ? 8 : 4 : told == W ? 8 : told;
      decodeOperands(from, at, row, prefix, next);
    }

    private int next(byte[] from, int at) {
      int place = at + length++;
      return place < from.length ? from[place] & 0xff : 0;
    }

    private void decodeOperands(byte[] from, int at, int row, int prefix, int opcode) {
      int operands = rows[row + OPERANDS];
      count = COUNTS[operands];
      if (L_AT[operands] != NONE) {
        kind[0] = REGISTER;
        reg[0] = 8 * (prefix & 1) + (opcode & 7);
      }
      if (M_AT[operands] != NONE) {
        int form = next(from, at);
        if (R_AT[operands] != NONE) {
          kind[R_AT[operands]] = REGISTER;
          reg[R_AT[operands]] = 2 * (prefix & 4) + (form >> 3 & 7);
        }
        decodeForm(from, at, M_AT[operands], form, prefix);
      }
      if (N_AT[operands] != NONE) {
        kind[N_AT[operands]] = NUMBER;
        number = nextNumber(from, at, WIDTHS[rows[row + NUMBERS]]);
      }
      if (operands == A_N) {
        kind[0] = REGISTER;
        reg[0] = 0;
      } else if (operands == M_ONE) {
        kind[1] = NUMBER;
        number = 1;
      } else if (operands == M_C) {
        kind[1] = COUNT;
      }
    }

    private void decodeForm(byte[] from, int at, int m, int form, int prefix) {
      int mod = form >> 6;
      int high = 8 * (prefix & 1);
      if (mod == 3) {
        kind[m] = REGISTER;
        reg[m] = high + (form & 7);
        return;
      }
      kind[m] = MEMORY;
      beginAddress();
      int low = form & 7;
      boolean without = mod == 0 && low == 5;
      base = without ? RELATIVE : high + low;
      if (low == 4) {
        int byIndex = next(from, at);
        index = 4 * (prefix & 2) + (byIndex >> 3 & 7);
        index = index == 4 ? NONE : index;
        shift = index == NONE ? 0 : byIndex >> 6;
        without = mod == 0 && (byIndex & 7) == 5;
        base = without ? NONE : high + (byIndex & 7);
      }
      displacement = nextNumber(from, at, mod == 2 || without ? 4 : mod);
    }

    /** A number of so many bytes; of all but two of them with its sign. */
    private long nextNumber(byte[] from, int at, int width) {
      long value = 0;
      for (int i = 0; i < width; i++) {
        value |= (long) next(from, at) << 8 * i;
      }
      return width == 1 ? (byte) value : width == 4 ? (int) value : value;
    }
  }

  /** Links units to an image, and holds the latest image. */
  private static final class Linker {
    static final int BASE = 0x400000;
    static final int MOST = 131072;
    private static final int PAGE = 4096;
    private static final byte[] START = {'s', 't', 'a', 'r', 't'};
    /** In the place of the symbol that one stands for: none; the address 0. */
    private static final int MISSING = -1;
    private static final int ZERO = -2;

    final Units units;
    final boolean[] taken;
    /** By four for a unit: whether a section is in the image, and where. */
    final boolean[] needed;
    final int[] places;
    final int[] stands;
    /** By sections: where the first one begins and the last one ends. */
    final int[] from;
    final int[] to;
    final byte[] bytes;
    final int[] origins;
    final Names names;
    final long[] addresses;
    boolean made;
    int start;
    int length;
    int end;
    int faultKind;
    int faultLine;
    int faultUnit;

    Linker(Units all) {
      units = all;
      taken = new boolean[Units.MOST];
      needed = new boolean[4 * Units.MOST];
      places = new int[4 * Units.MOST];
      stands = new int[Units.SYMBOLS];
      from = new int[4];
      to = new int[4];
      bytes = new byte[MOST];
      origins = new int[MOST];
      names = new Names(Units.SYMBOLS, Units.SYMBOLS * 126);
      addresses = new long[Units.SYMBOLS];
      Arrays.fill(origins, NONE);
    }

    /** Makes an image of all units; false if there is a fault, then the image before stays. */
    boolean make() {
      tell(0, 0, NONE);
      takeUnits();
      int startSymbol = units.names.find(START, 0, START.length, units.names.count);
      startSymbol = startSymbol == NONE ? NONE : winner(startSymbol);
      if (startSymbol == NONE || !isGlobal(startSymbol)) {
        tell(1, 0, NONE);
        return false;
      }
      if (hasDoubles()) {
        return false;
      }
      resolve();
      findNeeded(startSymbol);
      int at = BASE;
      end = BASE;
      for (int s = 0; s < 4; s++) {
        at = placeSections(s, s == 1 || s == 2 ? up(at, PAGE) : at);
      }
      if (hasBadWait()) {
        return false;
      }
      if (end - BASE > MOST) {
        tell(5, 0, NONE);
        return false;
      }
      write();
      writeNames();
      start = addressOf(startSymbol);
      made = true;
      return true;
    }

    private void tell(int kind, int line, int unit) {
      faultKind = kind;
      faultLine = line;
      faultUnit = unit;
    }

    private boolean hasFlags(int symbol, int with, int without) {
      int flags = units.symbols[symbol][Units.FLAGS];
      return (flags & with) == with && (flags & without) == 0;
    }

    private boolean isTaken(int symbol) {
      return taken[units.symbols[symbol][Units.UNIT]];
    }

    private boolean isGlobal(int symbol) {
      return hasFlags(symbol, Units.LABEL | Units.GLOBAL, Units.WEAK);
    }

    private boolean isWeakLabel(int symbol) {
      return hasFlags(symbol, Units.LABEL | Units.WEAK, 0);
    }

    /** The next older symbol of the same name; NONE if there is none. */
    private int older(int symbol, int below) {
      Names all = units.names;
      return all.find(all.letters, all.from[symbol], all.from[symbol + 1] - all.from[symbol], below);
    }

    private void takeUnits() {
      for (int u = 0; u < units.count; u++) {
        taken[u] = units.rows[u][Units.LIBRARY] == 0;
      }
      for (int turn = 0; turn < Units.MOST; turn++) {
        int u = 0;
        while (u < units.count && (taken[u] || !isWanted(u))) {
          u++;
        }
        if (u == units.count) {
          return;
        }
        taken[u] = true;
      }
    }

    private boolean isWanted(int unit) {
      for (int i = units.rows[unit][Units.SYMBOL]; i < units.rows[unit + 1][Units.SYMBOL]; i++) {
        if ((isGlobal(i) || isWeakLabel(i)) && isMissed(i)) {
          return true;
        }
      }
      return false;
    }

    /** Whether a unit that is taken misses a symbol's name, and none that is taken has it. */
    private boolean isMissed(int symbol) {
      boolean missed = false;
      int i = older(symbol, units.names.count);
      // A unit has a name once.
      for (int turn = 0; turn < Units.MOST && i != NONE; turn++) {
        if (isTaken(i)) {
          if (isGlobal(i) || isWeakLabel(i)) {
            return false;
          }
          missed |= hasFlags(i, 0, Units.LABEL | Units.CONSTANT | Units.WEAK);
        }
        i = older(symbol, i);
      }
      return missed;
    }

    /** The label for which a symbol's name stands between units: the first global one, else the first weak one. */
    private int winner(int symbol) {
      int global = NONE;
      int weak = NONE;
      int i = older(symbol, units.names.count);
      for (int turn = 0; turn < Units.MOST && i != NONE; turn++) {
        if (isTaken(i)) {
          global = isGlobal(i) ? i : global;
          weak = isWeakLabel(i) ? i : weak;
        }
        i = older(symbol, i);
      }
      return global != NONE ? global : weak;
    }

    private boolean hasDoubles() {
      for (int u = 0; u < units.count; u++) {
        int least = 0;
        for (int i = units.rows[u][Units.SYMBOL]; taken[u] && i < units.rows[u + 1][Units.SYMBOL]; i++) {
          int line = units.symbols[i][Units.LABEL_LINE];
          if (isGlobal(i) && winner(i) < i && (least == 0 || line < least)) {
            least = line;
          }
        }
        if (least != 0) {
          tell(2, least, u);
          return true;
        }
      }
      return false;
    }

    private void resolve() {
      for (int i = 0; i < units.names.count; i++) {
        if (hasFlags(i, Units.LABEL, Units.WEAK)) {
          stands[i] = i;
        } else {
          int winner = winner(i);
          stands[i] = winner != NONE ? winner : hasFlags(i, Units.WEAK, 0) ? ZERO : MISSING;
        }
      }
    }

    private int sectionOf(int symbol) {
      return 4 * units.symbols[symbol][Units.UNIT] + units.symbols[symbol][Units.IN];
    }

    private int addressOf(int symbol) {
      return places[sectionOf(symbol)] + units.symbols[symbol][Units.PLACE];
    }

    private void findNeeded(int startSymbol) {
      for (int i = 0; i < needed.length; i++) {
        int u = i / 4;
        needed[i] = u < units.count && taken[u] && units.rows[u][Units.KEEP + i % 4] != 0;
      }
      needed[sectionOf(startSymbol)] = true;
      boolean changed = true;
      for (int turn = 0; changed && turn <= needed.length; turn++) {
        changed = false;
        for (int u = 0; u < units.count; u++) {
          for (int w = units.rows[u][Units.WAIT]; w < units.rows[u + 1][Units.WAIT]; w++) {
            changed |= awakens(u, units.waits[w]);
          }
        }
      }
    }

    /** Whether a value that waits makes a section needed that was not yet. */
    private boolean awakens(int unit, int[] wait) {
      int by = 4 * unit + units.statements[wait[Units.OF]][Units.SECTION];
      int symbol = wait[Units.PLUS];
      if (wait[Units.WIDTH] == 0 || symbol < 0 || !needed[by] || stands[symbol] < 0) {
        return false;
      }
      int section = sectionOf(stands[symbol]);
      boolean changed = !needed[section];
      needed[section] = true;
      return changed;
    }

    private static int up(int address, int unit) {
      return address + unit - 1 & -unit;
    }

    /** Places the needed ones of a sort of sections from an address on; tells where they end. */
    private int placeSections(int s, int begin) {
      int at = begin;
      for (int u = 0; u < units.count; u++) {
        if (needed[4 * u + s]) {
          at = up(at, 16);
          places[4 * u + s] = at;
          at += units.rows[u][Units.SIZE + s];
          end = at;
        }
      }
      return at;
    }

    private boolean hasBadWait() {
      for (int u = 0; u < units.count; u++) {
        for (int w = units.rows[u][Units.WAIT]; w < units.rows[u + 1][Units.WAIT]; w++) {
          int[] wait = units.waits[w];
          int[] statement = units.statements[wait[Units.OF]];
          if (wait[Units.WIDTH] != 0 && needed[4 * u + statement[Units.SECTION]]) {
            int symbol = wait[Units.PLUS];
            boolean missing = symbol >= 0 && stands[symbol] == MISSING;
            long value = valueOf(u, w);
            if (missing || wait[Units.WIDTH] == 4 && value != (int) value) {
              tell(missing ? 3 : 4, statement[Units.LINE], u);
              return true;
            }
          }
        }
      }
      return false;
    }

    private long valueOf(int unit, int w) {
      int[] wait = units.waits[w];
      int[] statement = units.statements[wait[Units.OF]];
      int here = places[4 * unit + statement[Units.SECTION]] + statement[Units.AT];
      int symbol = wait[Units.PLUS];
      long value = units.waitNumbers[w];
      if (symbol == Expression.HERE) {
        value += here;
      } else if (symbol >= 0 && stands[symbol] >= 0) {
        value += addressOf(stands[symbol]);
      }
      return wait[Units.RELATIVE] != 0 ? value - here - statement[Units.LENGTH] : value;
    }

    private void write() {
      // Behind the image before all is as it was made.
      Arrays.fill(bytes, 0, length, (byte) 0);
      Arrays.fill(origins, 0, length, NONE);
      length = end - BASE;
      Arrays.fill(from, 0);
      Arrays.fill(to, 0);
      for (int i = 0; i < 4 * units.count; i++) {
        if (needed[i]) {
          int s = i % 4;
          int size = units.rows[i / 4][Units.SIZE + s];
          from[s] = from[s] == 0 ? places[i] : from[s];
          to[s] = places[i] + size;
          if (s != Units.BSS) {
            System.arraycopy(units.bytes, units.rows[i / 4][Units.FROM + s], bytes, places[i] - BASE, size);
          }
        }
      }
      for (int u = 0; u < units.count; u++) {
        for (int w = units.rows[u][Units.WAIT]; w < units.rows[u + 1][Units.WAIT]; w++) {
          writeWait(u, w);
        }
        for (int i = units.rows[u][Units.STATEMENT]; i < units.rows[u + 1][Units.STATEMENT]; i++) {
          int[] statement = units.statements[i];
          if (statement[Units.KIND] >= Units.CODE && statement[Units.SECTION] == Units.TEXT && needed[4 * u]) {
            origins[places[4 * u] + statement[Units.AT] - BASE] = 65536 * u + Math.min(statement[Units.LINE], 65535);
          }
        }
      }
    }

    private void writeWait(int unit, int w) {
      int[] wait = units.waits[w];
      int[] statement = units.statements[wait[Units.OF]];
      int section = 4 * unit + statement[Units.SECTION];
      if (needed[section]) {
        int at = places[section] - BASE + statement[Units.AT] + wait[Units.OFFSET];
        long value = valueOf(unit, w);
        for (int i = 0; i < wait[Units.WIDTH]; i++) {
          bytes[at + i] = (byte) (value >> 8 * i);
        }
      }
    }

    private void writeNames() {
      names.cut(0);
      Names all = units.names;
      for (int i = 0; i < all.count; i++) {
        if (isTaken(i) && (isGlobal(i) || isWeakLabel(i)) && winner(i) == i && needed[sectionOf(i)]) {
          int added = names.add(all.letters, all.from[i], all.from[i + 1] - all.from[i]);
          if (added != NONE) {
            addresses[added] = addressOf(i);
          }
        }
      }
    }
  }

  /** The machine's bytes, and which of them may be read, written and run. */
  private static final class Memory {
    private static final int HEAP = 65536;
    private static final int STACK = 65536;
    static final long STACK_END = 0x7ffff000L;

    final byte[] low;
    final byte[] stack;
    final boolean[] begins;
    boolean loaded;
    long textFrom;
    long textTo;
    long rodataFrom;
    long rodataTo;
    long dataFrom;
    long dataTo;
    long heap;
    /** The break: where the heap ends. */
    long end;

    Memory() {
      low = new byte[Linker.MOST + HEAP];
      stack = new byte[STACK];
      begins = new boolean[Linker.MOST];
      loaded = false;
      heap = Linker.BASE;
      end = Linker.BASE;
    }

    void fill(Linker image) {
      // Behind the heap that was here before nothing was ever written.
      Arrays.fill(low, 0, (int) (heap - Linker.BASE) + HEAP, (byte) 0);
      Arrays.fill(stack, (byte) 0);
      System.arraycopy(image.bytes, 0, low, 0, image.length);
      // Behind this image and the one before nothing begins.
      long most = Math.max(heap - Linker.BASE, image.length);
      for (int i = 0; i < most && i < begins.length; i++) {
        begins[i] = image.origins[i] != NONE;
      }
      textFrom = image.from[0];
      textTo = image.to[0];
      rodataFrom = image.from[1];
      rodataTo = image.to[1];
      dataFrom = image.from[2] != 0 ? image.from[2] : image.from[3];
      dataTo = Math.max(image.to[2], image.to[3]);
      heap = Linker.BASE + (image.length + 4095 & -4096);
      end = heap;
      loaded = true;
    }

    /** The place among the low bytes of an instruction that begins at an address; NONE if none does. */
    int codeAt(long address) {
      long at = address - Linker.BASE;
      return at >= 0 && at < begins.length && begins[(int) at] ? (int) at : NONE;
    }

    /** Whether bytes from an address on may all be read, or written. */
    boolean may(long address, long count, boolean write) {
      long at = address;
      long left = count;
      // What may be read has five parts, and some of them may stand side by side.
      for (int turn = 0; loaded && turn < 5; turn++) {
        long to = at;
        if (at >= STACK_END - STACK && at < STACK_END) {
          to = STACK_END;
        } else if (at >= dataFrom && at < dataTo) {
          to = dataTo;
        } else if (at >= heap && at < end) {
          to = end;
        } else if (!write && at >= textFrom && at < textTo) {
          to = textTo;
        } else if (!write && at >= rodataFrom && at < rodataTo) {
          to = rodataTo;
        }
        if (left <= to - at) {
          return true;
        }
        if (to == at) {
          return false;
        }
        left -= to - at;
        at = to;
      }
      return false;
    }

    /** The number of some bytes that may be read. */
    long number(long address, int width) {
      long value = 0;
      for (int i = 0; i < width; i++) {
        long at = address + i - Linker.BASE;
        long up = address + i - (STACK_END - STACK);
        if (at >= 0 && at < low.length) {
          value |= (low[(int) at] & 0xffL) << 8 * i;
        } else if (up >= 0 && up < STACK) {
          value |= (stack[(int) up] & 0xffL) << 8 * i;
        }
      }
      return value;
    }

    /** Writes some bytes that may be written. */
    void change(long address, int width, long value) {
      for (int i = 0; i < width; i++) {
        long at = address + i - Linker.BASE;
        long up = address + i - (STACK_END - STACK);
        if (at >= 0 && at < low.length) {
          low[(int) at] = (byte) (value >> 8 * i);
        } else if (up >= 0 && up < STACK) {
          stack[(int) up] = (byte) (value >> 8 * i);
        }
      }
    }

    /** Moves the break, if it may be there; what it gives up is 0 when it comes back. */
    void moveEnd(long to) {
      if (to >= heap && to <= heap + HEAP) {
        for (long i = to; i < end; i++) {
          change(i, 1, 0);
        }
        end = to;
      }
    }
  }

  /** The machine: registers, flags, what comes in and goes out, and its steps. */
  private static final class Machine {
    static final int ENDED = 1;
    private static final int NO_SUCH = 2;
    private static final int NO_ACCESS = 3;
    private static final int NO_CODE = 4;
    private static final int NO_QUOTIENT = 5;
    private static final int BROKEN = 6;
    private static final int PLACE = 7;
    private static final int PLACES = 16;
    private static final int STREAM = 65536;
    private static final int RSP = 4;
    private static final long UPPER_BIT = 1L << 63;

    private static final int CARRY = 1;
    private static final int PARITY = 4;
    private static final int ZERO = 64;
    private static final int SIGN = 128;
    private static final int OVERFLOW = 2048;

    final Memory memory;
    final Instruction it;
    final long[] r;
    final byte[] input;
    final byte[] output;
    final long[] stops;
    long ip;
    int flags;
    int waiting;
    int written;
    int stopCount;
    int stop;
    long stopValue;
    int steps;
    /** The address of the next instruction, and of the operand in memory. */
    long next;
    long place;
    long rest;

    Machine() {
      memory = new Memory();
      it = new Instruction();
      r = new long[16];
      input = new byte[STREAM];
      output = new byte[STREAM];
      stops = new long[PLACES];
    }

    void boot(Linker image) {
      memory.fill(image);
      Arrays.fill(r, 0);
      r[RSP] = Memory.STACK_END;
      ip = image.start;
      flags = 0;
      waiting = 0;
      written = 0;
      stop = 0;
      stopValue = 0;
      steps = 0;
    }

    int told() {
      return 2 + flags;
    }

    int take(byte[] from, int count) {
      int fitting = Math.min(count, STREAM - waiting);
      System.arraycopy(from, 0, input, waiting, fitting);
      waiting += fitting;
      return waiting;
    }

    private int stopPlace(long address) {
      int i = 0;
      while (i < stopCount && stops[i] != address) {
        i++;
      }
      return i;
    }

    boolean addPlace(long address) {
      if (stopPlace(address) < stopCount || stopCount == PLACES) {
        return false;
      }
      stops[stopCount++] = address;
      return true;
    }

    boolean dropPlace(long address) {
      int i = stopPlace(address);
      if (i == stopCount) {
        return false;
      }
      stopCount--;
      stops[i] = stops[stopCount];
      return true;
    }

    /** Does steps till something stops it; tells how many. */
    int go(int most) {
      int before = steps;
      stop = 0;
      stopValue = 0;
      for (int i = 0; i < most && stop == 0; i++) {
        if (i > 0 && stopPlace(ip) < stopCount) {
          halt(PLACE, ip);
        } else {
          step();
        }
      }
      return steps - before;
    }

    private void halt(int kind, long value) {
      stop = kind;
      stopValue = value;
    }

    private void step() {
      int at = memory.codeAt(ip);
      if (at == NONE) {
        halt(NO_CODE, ip);
        return;
      }
      it.decode(memory.low, at);
      next = ip + it.length;
      place = address();
      execute();
      if (stop == 0 || stop == ENDED || stop == BROKEN) {
        ip = next;
        steps++;
      }
    }

    private long address() {
      long at = it.displacement;
      if (it.base == Instruction.RELATIVE) {
        at += next;
      } else if (it.base >= 0 && it.base < 16) {
        at += r[it.base];
      }
      return it.index >= 0 && it.index < 16 ? at + (r[it.index] << it.shift) : at;
    }

    private void execute() {
      int op = it.op;
      if (op <= 7) {
        arithmetic(op);
      } else if (op <= 14) {
        move(op);
      } else if (op <= 22) {
        single(op);
      } else if (op == 23) {
        product();
      } else if (op <= 28) {
        shift(op);
      } else if (op <= 30) {
        pushOrPop(op);
      } else if (op <= 36) {
        flow(op);
      } else if (op <= 43) {
        plain(op);
      } else if (op <= 49) {
        bits(op);
      } else {
        copyOrFill(op);
      }
    }

    private static long mask(int size) {
      return size == 8 ? -1L : (1L << 8 * size) - 1;
    }

    private static long top(int size) {
      return 1L << 8 * size - 1;
    }

    /** A number of a size with its sign. */
    private static long signed(long value, int size) {
      return size == 1 ? (byte) value : size == 4 ? (int) value : value;
    }

    /** Operand i, without a sign; 0 with a stop if it can't be read. */
    private long value(int i, int size) {
      switch (it.kind[i]) {
        case Instruction.REGISTER:
          return r[it.reg[i]] & mask(size);
        case Instruction.MEMORY:
          return fetched(place, size);
        case Instruction.COUNT:
          return r[1] & 0xff;
        default:
          return it.number & mask(size);
      }
    }

    private long fetched(long address, int size) {
      if (!memory.may(address, size, false)) {
        halt(NO_ACCESS, address);
        return 0;
      }
      return memory.number(address, size);
    }

    /** Writes operand i; false with a stop if it can't be written. */
    private boolean put(int i, int size, long value) {
      if (it.kind[i] == Instruction.REGISTER) {
        change(it.reg[i], size, value);
        return true;
      }
      return store(place, size, value);
    }

    private boolean store(long address, int size, long value) {
      if (!memory.may(address, size, true)) {
        halt(NO_ACCESS, address);
        return false;
      }
      memory.change(address, size, value);
      return true;
    }

    private void change(int register, int size, long value) {
      r[register] = size == 8 ? value : size == 4 ? value & 0xffffffffL : r[register] & ~0xffL | value & 0xff;
    }

    private void flag(int which, boolean on) {
      flags = on ? flags | which : flags & ~which;
    }

    private boolean has(int which) {
      return (flags & which) != 0;
    }

    private void setResult(long result, int size) {
      flag(ZERO, (result & mask(size)) == 0);
      flag(SIGN, (result & top(size)) != 0);
      flag(PARITY, Long.bitCount(result & 0xff) % 2 == 0);
    }

    private void setSum(long x, long y, long result, int size) {
      flag(CARRY, ((x & y | (x | y) & ~result) & top(size)) != 0);
      flag(OVERFLOW, ((x ^ result) & (y ^ result) & top(size)) != 0);
      setResult(result, size);
    }

    private void setDifference(long x, long y, long result, int size) {
      flag(CARRY, ((~x & y | (~x | y) & result) & top(size)) != 0);
      flag(OVERFLOW, ((x ^ y) & (x ^ result) & top(size)) != 0);
      setResult(result, size);
    }

    private void setSpill(boolean spilt) {
      flag(CARRY, spilt);
      flag(OVERFLOW, spilt);
    }

    private void arithmetic(int op) {
      int size = it.size;
      long x = value(0, size);
      long y = stop == 0 ? value(1, size) : 0;
      if (stop != 0) {
        return;
      }
      boolean sum = op == 0 || op == 2;
      boolean difference = op == 3 || op == 5 || op == 7;
      long carry = (op == 2 || op == 3) && has(CARRY) ? 1 : 0;
      long result = sum ? x + y + carry : difference ? x - y - carry : op == 1 ? x | y : op == 4 ? x & y : x ^ y;
      if (op != 7 && !put(0, size, result)) {
        return;
      }
      if (sum) {
        setSum(x, y, result, size);
      } else if (difference) {
        setDifference(x, y, result, size);
      } else {
        setSpill(false);
        setResult(result, size);
      }
    }

    private void move(int op) {
      int size = it.size;
      if (op == 11) {
        put(0, size, place);
        return;
      }
      long y = value(1, op >= 12 ? it.sizeOfM() : size);
      if (stop != 0) {
        return;
      }
      if (op == 8 || op == 12) {
        put(0, size, y);
      } else if (op >= 13) {
        put(0, size, signed(y, it.sizeOfM()));
      } else {
        long x = value(0, size);
        if (stop != 0) {
          return;
        }
        if (op == 9) {
          setSpill(false);
          setResult(x & y, size);
        } else if (put(0, size, y)) {
          put(1, size, x);
        }
      }
    }

    private void single(int op) {
      int size = it.size;
      long x = value(0, size);
      if (stop != 0) {
        return;
      }
      if (op == 15) {
        put(0, size, ~x);
      } else if (op == 16) {
        if (put(0, size, -x)) {
          setDifference(0, x, -x, size);
        }
      } else if (op <= 18) {
        multiply(x, size, op == 18);
      } else if (op <= 20) {
        divide(x, size, op == 20);
      } else {
        boolean carry = has(CARRY);
        long result = op == 21 ? x + 1 : x - 1;
        if (put(0, size, result)) {
          if (op == 21) {
            setSum(x, 1, result, size);
          } else {
            setDifference(x, 1, result, size);
          }
          flag(CARRY, carry);
        }
      }
    }

    private void multiply(long x, int size, boolean withSigns) {
      long y = r[0] & mask(size);
      long a = withSigns ? signed(x, size) : x;
      long b = withSigns ? signed(y, size) : y;
      long low = a * b;
      if (size == 1) {
        r[0] = r[0] & ~0xffffL | low & 0xffff;
        setSpill(withSigns ? low != (byte) low : low >> 8 != 0);
      } else if (size == 4) {
        r[0] = low & 0xffffffffL;
        r[2] = low >>> 32;
        setSpill(withSigns ? low != (int) low : low >>> 32 != 0);
      } else {
        long high = high(a, b, withSigns);
        r[0] = low;
        r[2] = high;
        setSpill(high != (withSigns ? low >> 63 : 0));
      }
    }

    /** The upper half of a product of 128 bits. */
    private static long high(long a, long b, boolean withSigns) {
      long lowA = a & 0xffffffffL;
      long lowB = b & 0xffffffffL;
      long highA = a >>> 32;
      long highB = b >>> 32;
      long crossA = highA * lowB + (lowA * lowB >>> 32);
      long crossB = lowA * highB + (crossA & 0xffffffffL);
      long high = highA * highB + (crossA >>> 32) + (crossB >>> 32);
      // With signs a negative number counts as less 2 to the power 64.
      return withSigns ? high - (a < 0 ? b : 0) - (b < 0 ? a : 0) : high;
    }

    private void product() {
      int size = it.size;
      long y = value(1, size);
      if (stop != 0) {
        return;
      }
      long a = signed(y, size);
      long b = it.count == 3 ? it.number : signed(value(0, size), size);
      long low = a * b;
      put(0, size, low);
      setSpill(size == 4 ? low != (int) low : high(a, b, true) != low >> 63);
    }

    /** Divides what stands in rdx and rax, or just rax, by x. */
    private void divide(long x, int size, boolean withSigns) {
      long low = size == 1 ? r[0] & 0xffff : size == 4 ? r[0] & 0xffffffffL | r[2] << 32 : r[0];
      long up = size == 8 ? r[2] : 0;
      long by = withSigns ? signed(x, size) : x;
      boolean negative = false;
      if (withSigns) {
        low = size == 1 ? (short) low : low;
        up = size == 8 ? up : low >> 63;
        negative = up < 0;
        if (negative) {
          up = ~up + (low == 0 ? 1 : 0);
          low = -low;
        }
      }
      boolean otherSign = negative != by < 0;
      by = withSigns && by < 0 ? -by : by;
      if (by == 0 || !below(up, by)) {
        halt(NO_QUOTIENT, 0);
        return;
      }
      long quotient = quotient(up, low, by);
      long most = !withSigns ? mask(size) : otherSign ? top(size) : top(size) - 1;
      if (below(most, quotient)) {
        halt(NO_QUOTIENT, 0);
        return;
      }
      quotient = withSigns && otherSign ? -quotient : quotient;
      rest = negative ? -rest : rest;
      if (size == 1) {
        r[0] = r[0] & ~0xffffL | (rest & 0xff) << 8 | quotient & 0xff;
      } else {
        change(0, size, quotient);
        change(2, size, rest);
      }
    }

    /** Whether one number is less than another, both without signs. */
    private static boolean below(long a, long b) {
      return a + UPPER_BIT < b + UPPER_BIT;
    }

    /** Divides 128 bits, bit by bit, by what is more than their upper half; leaves the rest. */
    private long quotient(long up, long low, long by) {
      long quotient = low;
      rest = up;
      for (int i = 0; i < 64; i++) {
        boolean out = rest < 0;
        rest = rest << 1 | quotient >>> 63;
        quotient <<= 1;
        if (out || !below(rest, by)) {
          rest -= by;
          quotient |= 1;
        }
      }
      return quotient;
    }

    private void shift(int op) {
      int size = it.size;
      long x = value(0, size);
      int count = (int) value(1, 1) & (size == 8 ? 63 : 31);
      if (stop != 0 || count == 0) {
        return;
      }
      long top = top(size);
      long result = x;
      boolean out = false;
      for (int i = 0; i < count; i++) {
        boolean up = op == 24 || op == 26;
        out = (result & (up ? top : 1)) != 0;
        long in = op == 24 ? out ? 1 : 0 : op == 25 ? out ? top : 0 : op == 28 ? result & top : 0;
        result = (up ? result << 1 & mask(size) : result >>> 1) | in;
      }
      if (!put(0, size, result)) {
        return;
      }
      flag(CARRY, out);
      if (count == 1) {
        boolean upper = (result & top) != 0;
        boolean second = (result & top >>> 1) != 0;
        flag(OVERFLOW, op == 24 || op == 26 ? out != upper : op == 25 ? upper != second : op == 27 && (x & top) != 0);
      }
      if (op >= 26) {
        setResult(result, size);
      }
    }

    private boolean push(long value) {
      if (!store(r[RSP] - 8, 8, value)) {
        return false;
      }
      r[RSP] -= 8;
      return true;
    }

    private void pushOrPop(int op) {
      if (op == 29) {
        long x = value(0, 8);
        if (stop == 0) {
          push(x);
        }
        return;
      }
      long x = fetched(r[RSP], 8);
      if (stop != 0) {
        return;
      }
      r[RSP] += 8;
      place = address();
      if (!put(0, 8, x)) {
        r[RSP] -= 8;
      }
    }

    private boolean holds() {
      boolean holds;
      switch (it.condition >> 1) {
        case 0:
          holds = has(OVERFLOW);
          break;
        case 1:
          holds = has(CARRY);
          break;
        case 2:
          holds = has(ZERO);
          break;
        case 3:
          holds = has(CARRY) || has(ZERO);
          break;
        case 4:
          holds = has(SIGN);
          break;
        case 5:
          holds = has(PARITY);
          break;
        case 6:
          holds = has(SIGN) != has(OVERFLOW);
          break;
        default:
          holds = has(ZERO) || has(SIGN) != has(OVERFLOW);
          break;
      }
      return holds != (it.condition % 2 == 1);
    }

    private void flow(int op) {
      boolean near = it.count == 1 && it.kind[0] == Instruction.NUMBER;
      long to = op == 33 ? fetched(r[RSP], 8) : op == 36 ? value(1, it.size) : op == 34 ? next + it.number
          : op == 35 ? 0 : near ? next + it.number : value(0, 8);
      if (stop != 0) {
        return;
      }
      switch (op) {
        case 31:
          next = to;
          break;
        case 32:
          if (push(next)) {
            next = to;
          }
          break;
        case 33:
          next = to;
          r[RSP] += 8 + (near ? it.number : 0);
          break;
        case 34:
          next = holds() ? to : next;
          break;
        case 35:
          put(0, 1, holds() ? 1 : 0);
          break;
        default:
          put(0, it.size, holds() ? to : value(0, it.size));
          break;
      }
    }

    private void plain(int op) {
      switch (op) {
        case 37:
          change(2, it.size, (r[0] & top(it.size)) != 0 ? -1 : 0);
          break;
        case 38:
          change(0, it.size, it.size == 4 ? (short) r[0] : (int) r[0]);
          break;
        case 40:
          halt(BROKEN, 0);
          break;
        case 41:
          halt(NO_SUCH, 0);
          break;
        case 42:
          serve();
          break;
        case 43:
          long x = fetched(r[5], 8);
          if (stop == 0) {
            r[RSP] = r[5] + 8;
            r[5] = x;
          }
          break;
        default:
          break;
      }
    }

    private void serve() {
      r[1] = next;
      r[11] = told();
      if (r[0] == 0) {
        r[0] = readInput();
      } else if (r[0] == 1) {
        r[0] = writeOutput();
      } else if (r[0] == 12) {
        memory.moveEnd(r[7]);
        r[0] = memory.end;
      } else if (r[0] == 60) {
        halt(ENDED, r[7]);
      } else {
        r[0] = -38;
      }
    }

    private long readInput() {
      int count = r[2] >= 0 && r[2] < waiting ? (int) r[2] : waiting;
      if (count == 0) {
        return 0;
      }
      if (!memory.may(r[6], count, true)) {
        return -14;
      }
      for (int i = 0; i < count; i++) {
        memory.change(r[6] + i, 1, input[i]);
      }
      waiting -= count;
      System.arraycopy(input, count, input, 0, waiting);
      return count;
    }

    private long writeOutput() {
      if (r[2] < 0 || r[2] > STREAM - written) {
        return -28;
      }
      int count = (int) r[2];
      if (count > 0 && !memory.may(r[6], count, false)) {
        return -14;
      }
      for (int i = 0; i < count; i++) {
        output[written++] = (byte) memory.number(r[6] + i, 1);
      }
      return count;
    }

    private void bits(int op) {
      int size = it.size;
      if (op <= 45) {
        long y = value(1, size);
        if (stop != 0) {
          return;
        }
        flag(ZERO, y == 0);
        if (y != 0) {
          put(0, size, op == 44 ? lowest(y) : highest(y));
        }
        return;
      }
      long x = value(0, size);
      long y = stop == 0 && it.count == 2 ? value(1, size) : 0;
      if (stop != 0) {
        return;
      }
      if (op == 46) {
        put(0, size, reversed(x, size));
      } else if (op == 47) {
        flag(CARRY, (x >>> (y & (size == 8 ? 63 : 31)) & 1) != 0);
      } else if (op == 48) {
        if (it.kind[0] == Instruction.MEMORY) {
          if (!put(0, size, x + y)) {
            return;
          }
          put(1, size, x);
        } else {
          put(1, size, x);
          put(0, size, x + y);
        }
        setSum(x, y, x + y, size);
      } else {
        long a = r[0] & mask(size);
        if (a != x) {
          change(0, size, x);
        } else if (!put(0, size, y)) {
          return;
        }
        setDifference(a, x, a - x, size);
      }
    }

    private static int lowest(long value) {
      int bit = 0;
      while (bit < 63 && (value >>> bit & 1) == 0) {
        bit++;
      }
      return bit;
    }

    private static int highest(long value) {
      int bit = 63;
      while (bit > 0 && (value >>> bit & 1) == 0) {
        bit--;
      }
      return bit;
    }

    private static long reversed(long value, int size) {
      long result = 0;
      for (int i = 0; i < size; i++) {
        result = result << 8 | value >>> 8 * i & 0xff;
      }
      return result;
    }

    private void copyOrFill(int op) {
      boolean all = op >= 52;
      if (all && r[1] == 0) {
        return;
      }
      boolean copies = op == 50 || op == 52;
      long value = copies ? fetched(r[6], it.size) : r[0];
      if (stop != 0 || !store(r[7], it.size, value)) {
        return;
      }
      r[7] += it.size;
      if (copies) {
        r[6] += it.size;
      }
      if (all) {
        r[1]--;
        next = r[1] != 0 ? ip : next;
      }
    }
  }
}
