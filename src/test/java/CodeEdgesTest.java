/** Promise 3 and 7, INSTRUCTIONS: the edges of numbers, displacements, distances, sizes, operands and prefixes. */
public final class CodeEdgesTest {
  private static final Bench b = new Bench();

  public static void main(String[] args) {
    bytesWithSign();
    fourBytes();
    eightBytes();
    withoutSign();
    justOne();
    placesAsNumbers();
    displacements();
    bases();
    indexes();
    oddAddresses();
    prefixes();
    registers();
    told();
    ownSizes();
    noSizes();
    shiftCounts();
    products();
    counts();
    reps();
    distances();
    dollar();
    notShort();
    b.end();
  }

  private static void fails(String kind, String... lines) {
    for (String line : lines) {
      b.fault(kind + "@1", line);
    }
  }

  private static void fine(String... lines) {
    for (String line : lines) {
      b.fault("none", line);
    }
  }

  private static void bytesWithSign() {
    b.about("II: with size 1, 128 .. 255 count as less 256");
    b.code("0400" + "047f" + "0480" + "04ff" + "0480" + "04ff", "add al, 0", "add al, 127", "add al, 128", "add al, 255",
        "add al, -128", "add al, -1");
    fails("2", "add al, 256", "add al, -129", "add al, 1 << 32", "add al, 1 << 63", "add al, 0xffffffff", "mov al, 256",
        "mov al, -129", "mov byte [rbx], 256", "mov byte [rbx], -129", "test al, 256", "test bl, -129", "cmp cl, 256");
    b.code("b0ff" + "b080" + "c603ff" + "c60380" + "a8ff" + "f6c380", "mov al, 255", "mov al, -128", "mov byte [rbx], 255",
        "mov byte [rbx], 128", "test al, 255", "test bl, 128");
    b.about("III: ib and id, the fewest bytes");
    b.code("83c17f" + "83c180" + "81c180000000" + "81c17fffffff", "add ecx, 127", "add ecx, -128", "add ecx, 128",
        "add ecx, -129");
    b.code("83c07f" + "83c080" + "0580000000" + "057fffffff", "add eax, 127", "add eax, -128", "add eax, 128", "add eax, -129");
    b.code("4883c07f" + "4883c080" + "480580000000" + "48057fffffff" + "4881c180000000", "add rax, 127", "add rax, -128",
        "add rax, 128", "add rax, -129", "add rcx, 128");
    b.code("83037f" + "830380" + "810380000000", "add dword [rbx], 127", "add dword [rbx], -128", "add dword [rbx], 128");
    b.code("6a7f" + "6a80" + "6880000000" + "687fffffff", "push 127", "push -128", "push 128", "push -129");
    b.code("6bc37f" + "6bc380" + "69c380000000" + "69c37fffffff", "imul eax, ebx, 127", "imul eax, ebx, -128",
        "imul eax, ebx, 128", "imul eax, ebx, -129");
    b.about("II: of a number with size 4 that counts as less 2^32 the byte counts, too");
    b.code("83c1ff" + "83c180" + "81c17fffffff", "add ecx, 0xffffffff", "add ecx, 0xffffff80", "add ecx, 0xffffff7f");
    b.code("6bc3ff", "imul eax, ebx, 0xffffffff");
  }

  private static void fourBytes() {
    b.about("II: with size 4, 2^31 .. 2^32 - 1 as less 2^32");
    b.code("b8ffffff7f" + "b800000080" + "b8ffffffff" + "b800000080" + "b8ffffffff", "mov eax, 0x7fffffff", "mov eax, 0x80000000",
        "mov eax, 0xffffffff", "mov eax, -0x80000000", "mov eax, -1");
    fails("2", "mov eax, 0x100000000", "mov eax, 0x100000001", "mov eax, 0x1ffffffff", "mov eax, -0x80000001",
        "mov eax, 1 << 63", "mov eax, 0x7fffffffffffffff", "add eax, 0x100000005", "add ecx, 0x17fffffff",
        "mov dword [rbx], 0x100000000", "mov dword [rbx], -0x80000001", "test eax, 0x100000000", "imul eax, ebx, 0x100000001",
        "cmp dword [rbx], 1 << 63");
    b.code("c70300000080" + "c703ffffffff" + "a900000080" + "f7c3ffffff7f", "mov dword [rbx], 0x80000000",
        "mov dword [rbx], 0xffffffff", "test eax, 0x80000000", "test ebx, 0x7fffffff");
    b.about("III: id with its sign, size 8");
    b.code("48c7c0ffffff7f" + "48c7c000000080" + "48c7c0ffffffff" + "48c7c0ffffffff", "mov rax, 0x7fffffff",
        "mov rax, -0x80000000", "mov rax, -1", "mov rax, 0xffffffffffffffff");
    b.code("48c703ffffff7f" + "4805ffffff7f" + "480500000080" + "48a9ffffff7f", "mov qword [rbx], 0x7fffffff",
        "add rax, 0x7fffffff", "add rax, -0x80000000", "test rax, 0x7fffffff");
    fails("2", "mov qword [rbx], 0x80000000", "mov qword [rbx], 0xffffffff", "mov qword [rbx], -0x80000001", "add rax, 0x80000000",
        "add rax, 0xffffffff", "add rax, -0x80000001", "test rbx, 0x80000000", "imul rax, rbx, 0x80000000", "push 0x80000000",
        "push 0xffffffff", "push -0x80000001", "push 1 << 63", "cmp qword [rbx], 0x100000000");
    b.code("68ffffff7f" + "6800000080" + "6aff", "push 0x7fffffff", "push -0x80000000", "push 0xffffffffffffffff");
  }

  private static void eightBytes() {
    b.about("III: io, where id can't tell it");
    b.code("48b80000008000000000" + "48b8ffffffff00000000" + "48b8ffffff7fffffffff" + "48b80000000000000080"
        + "49bfffffffffffffff7f", "mov rax, 0x80000000", "mov rax, 0xffffffff", "mov rax, -0x80000001", "mov rax, 1 << 63",
        "mov r15, 0x7fffffffffffffff");
  }

  private static void withoutSign() {
    b.about("III: ib without a sign of 24 .. 28 and 47");
    String[] words = {"rol", "ror", "shl", "shr", "sar"};
    String[] forms = {"c0", "c8", "e0", "e8", "f8"};
    for (int i = 0; i < 5; i++) {
      b.code("c0" + forms[i] + "00" + "c0" + forms[i] + "7f" + "c1" + forms[i] + "ff" + "48c1" + forms[i] + "80", words[i] + " al, 0",
          words[i] + " al, 127", words[i] + " eax, 255", words[i] + " rax, 128");
      fails("2", words[i] + " al, 128", words[i] + " al, 255", words[i] + " al, 256", words[i] + " al, -1", words[i] + " eax, 256",
          words[i] + " eax, -1", words[i] + " eax, 0xffffffff", words[i] + " eax, 0x100000000", words[i] + " rax, 256",
          words[i] + " rax, 0xffffffffffffffff", words[i] + " byte [rbx], 128", words[i] + " eax, 0x100000001");
    }
    b.code("0fbae000" + "0fbae0ff" + "480fbae0ff", "bt eax, 0", "bt eax, 255", "bt rax, 255");
    fails("2", "bt eax, 256", "bt eax, -1", "bt rax, -1", "bt al, 1", "bt byte [rbx], 1", "bt eax, 0xffffffff");
    b.about("III: iw without a sign");
    b.code("c20000" + "c2ffff" + "c20080", "ret 0", "ret 65535", "ret 32768");
    fails("2", "ret 65536", "ret -1", "ret 0xffffffff", "ret 1 << 63");
  }

  private static void justOne() {
    b.about("III: the number 1 is just this");
    b.code("d0e0" + "d1e0" + "48d1e0" + "c1e002" + "c1e000", "shl al, 1", "shl eax, 1", "shl rax, 1", "shl eax, 2", "shl eax, 0");
    b.code("d023" + "d123" + "48d123", "shl byte [rbx], 1", "shl dword [rbx], 1", "shl qword [rbx], 1");
    fails("2", "shl eax, x", "shl eax, $ - $");
    b.about("III: A is just this");
    b.code("0405" + "80c105" + "4180c005" + "0500010000" + "81c100010000" + "4181c000010000", "add al, 5", "add cl, 5", "add r8b, 5",
        "add eax, 256", "add ecx, 256", "add r8d, 256");
    b.code("4080c405", "add spl, 5");
    b.about("III: C is just this");
    fails("2", "shl eax, ch_", "shl eax, dl", "shl eax, ecx", "shl eax, rcx", "shl eax, r9b", "shl eax, byte [rcx]", "rol cl, al");
    b.code("d3e0" + "d2e1" + "d2e0", "shl eax, cl", "shl cl, cl", "shl al, cl");
  }

  private static void placesAsNumbers() {
    b.about("I: NAMES that are neither registers nor the words byte dword qword rel equ rep");
    for (String name : new String[] {"add", "if", "endm", "section", "global", "db", "align", "movsb", "jo", "cmovnz", "text", "nop"}) {
      b.code("b800000000" + "8b8300000000" + "6800000000" + "e900000000" + "0000000000000000", "mov eax, " + name,
          "mov eax, [rbx + " + name + "]", "push " + name, "jmp " + name, "dq " + name);
    }
    for (String word : new String[] {"byte", "dword", "qword", "rel", "equ", "rep"}) {
      fails("1", "dq 5 + " + word, "push 5 + " + word, "mov eax, [rbx + " + word + "]", "jmp (" + word + ")", "mov eax, " + word);
    }
    b.about("II: a PLACE or SPAN counts as a number that fills 4 bytes (with mov to a register of 8 bytes: 8)");
    for (String e : new String[] {"x", "x + 1", "$", "$ - $"}) {
      b.code("48b80000000000000000", "mov rax, " + e);
      b.code("49bf0000000000000000", "mov r15, " + e);
      b.code("b800000000", "mov eax, " + e);
      b.code("48c70300000000", "mov qword [rbx], " + e);
      b.code("c70300000000", "mov dword [rbx], " + e);
      b.code("0500000000" + "480500000000" + "81c300000000", "add eax, " + e, "add rax, " + e, "add ebx, " + e);
      b.code("6800000000" + "69c300000000" + "a900000000" + "f7c300000000", "push " + e, "imul eax, ebx, " + e, "test eax, " + e,
          "test ebx, " + e);
      fails("2", "mov al, " + e, "mov byte [rbx], " + e, "add al, " + e, "shl eax, " + e, "bt eax, " + e, "ret " + e, "test al, " + e,
          "mov [rbx], " + e, "inc " + e, "pop " + e, "mov " + e + ", eax");
    }
  }

  private static void displacements() {
    b.about("III: no displacement if that is 0 and can be left out, else one byte if it fits, else four");
    b.code("8b03" + "8b437f" + "8b4380" + "8b8380000000" + "8b837fffffff" + "8b4301" + "8b43ff", "mov eax, [rbx]", "mov eax, [rbx + 127]",
        "mov eax, [rbx - 128]", "mov eax, [rbx + 128]", "mov eax, [rbx - 129]", "mov eax, [rbx + 1]", "mov eax, [rbx - 1]");
    b.code("8b4500" + "8b457f" + "8b8580000000" + "418b4500" + "8b440d00" + "418b440d00", "mov eax, [rbp]", "mov eax, [rbp + 127]",
        "mov eax, [rbp + 128]", "mov eax, [r13]", "mov eax, [rbp + rcx]", "mov eax, [r13 + rcx]");
    b.code("8b040b" + "8b440b7f" + "8b440b80" + "8b840b80000000", "mov eax, [rbx + rcx]", "mov eax, [rbx + rcx + 127]",
        "mov eax, [rbx + rcx - 128]", "mov eax, [rbx + rcx + 128]");
    b.code("8b0424" + "8b44247f" + "8b842480000000", "mov eax, [rsp]", "mov eax, [rsp + 127]", "mov eax, [rsp + 128]");
    b.about("III: s 0 without an index");
    b.code("8b04c8" + "8b0424" + "8b04c8" + "8b042505000000" + "8b04cd00000000" + "418b0424", "mov eax, [rax + rcx*8]", "mov eax, [rsp]",
        "mov eax, [rax + rcx*8]", "mov eax, [5]", "mov eax, [rcx*8]", "mov eax, [r12]");
    b.about("III: four bytes without a base, and with base 16");
    b.code("8b042500000000" + "8b042501000000" + "8b040d00000000" + "8b044d7f000000" + "8b0500000000", "mov eax, [0]",
        "mov eax, [1]", "mov eax, [rcx*1]", "mov eax, [rcx*2 + 127]", "mov eax, [rel 0]");
    b.about("II: a PLACE counts as a displacement that fills 4");
    b.code("8b8300000000" + "8b840b00000000" + "8b8500000000" + "8b8300000000", "mov eax, [rbx + x]", "mov eax, [rbx + rcx + x]",
        "mov eax, [rbp + x]", "mov eax, [rbx + $ - $]");
    b.about("FAULTS: 7 a displacement not -2^31 .. 2^31 - 1");
    fine("mov eax, [rbx + 0x7fffffff]", "mov eax, [rbx - 0x80000000]", "mov eax, [0x7fffffff]", "mov eax, [-0x80000000]",
        "mov eax, [rcx*8 + 0x7fffffff]", "mov eax, [rel 0x123456789]", "mov eax, [rbx + x + 0x123456789]");
    fails("7", "mov eax, [rbx + 0x80000000]", "mov eax, [rbx - 0x80000001]", "mov eax, [0x80000000]", "mov eax, [0xffffffff]",
        "mov eax, [-0x80000001]", "mov eax, [rcx*8 + 0x80000000]", "mov eax, [(1 << 63)]", "jmp [0x80000000]", "push [0x80000000]",
        "lea rax, [rbx + 0x100000000]", "inc byte [rbx + 0x80000000]");
    b.about("FAULTS: 2 of operands ahead of it");
    fails("2", "mov [0x80000000], 5", "inc [0x80000000]", "xchg eax, [0x80000000]", "mov al, dword [0x80000000]",
        "mov byte [0x80000000], 256");
  }

  private static void bases() {
    b.about("III: the base, and what can't be without an INDEX BYTE");
    String[] names = {"rax", "rcx", "rdx", "rbx", "rsp", "rbp", "rsi", "rdi", "r8", "r9", "r10", "r11", "r12", "r13", "r14", "r15"};
    for (int k = 0; k < 16; k++) {
      String prefix = k >= 8 ? "41" : "";
      int low = k % 8;
      String zero = low == 4 ? "0424" : low == 5 ? "4500" : String.format("%02x", low);
      String one = low == 4 ? "442401" : String.format("%02x01", 0x40 + low);
      String four = low == 4 ? "842400010000" : String.format("%02x00010000", 0x80 + low);
      b.code(prefix + "8b" + zero + prefix + "8b" + one + prefix + "8b" + four, "mov eax, [" + names[k] + "]",
          "mov eax, [" + names[k] + " + 1]", "mov eax, [" + names[k] + " + 256]");
    }
  }

  private static void indexes() {
    b.about("II: the INDEX: the one with a *, or else the second one");
    b.code("8b0408" + "8b0408" + "8b0401" + "8b0448" + "8b0448", "mov eax, [rax + rcx]", "mov eax, [rax + rcx*1]",
        "mov eax, [rax*1 + rcx]", "mov eax, [rax + rcx*2]", "mov eax, [rcx*2 + rax]");
    b.about("II: a single register with * 1 is an INDEX");
    b.code("8b040d00000000" + "8b01", "mov eax, [rcx*1]", "mov eax, [rcx]");
    b.about("II: * 1, 2, 4 or 8 (a NUMBER that stands behind)");
    b.code("8b0408" + "8b0448" + "8b0488" + "8b04c8", "mov eax, [rax + rcx*1]", "mov eax, [rax + rcx*2]", "mov eax, [rax + rcx*4]",
        "mov eax, [rax + rcx*8]");
    b.code("8b0448" + "8b0488" + "8b04c8", "mov eax, [rax + rcx*0x2]", "mov eax, [rax + rcx*0b100]", "mov eax, [rax + rcx*08]");
    fails("1", "mov eax, [rcx*0]", "mov eax, [rcx*3]", "mov eax, [rcx*5]", "mov eax, [rcx*6]", "mov eax, [rcx*7]", "mov eax, [rcx*9]",
        "mov eax, [rcx*16]", "mov eax, [rcx*-1]", "mov eax, [rcx*(1)]", "mov eax, [1*rcx]", "mov eax, [rcx*0x100000001]",
        "mov eax, [rcx*+1]", "mov eax, [rcx*1*1]", "mov eax, [rcx*2/2]", "mov eax, [rcx*rdx]", "mov eax, [rcx*$]", "mov eax, [rcx*]",
        "mov eax, [rcx/2]", "mov eax, [~rcx]", "mov eax, [(rcx)]", "mov eax, [rax + (rcx + 1)]");
    b.fault("1@2", "two equ 2", "mov eax, [rcx*two]");
    b.about("II: if the INDEX is rsp, with scale 1 and another BASE than rsp, they change places");
    b.code("8b0404" + "8b0404" + "8b0404" + "8b0404", "mov eax, [rax + rsp]", "mov eax, [rsp + rax]", "mov eax, [rax + rsp*1]",
        "mov eax, [rsp*1 + rax]");
    b.code("428b0424" + "8b042c" + "428b042c", "mov eax, [r12 + rsp]", "mov eax, [rbp + rsp]", "mov eax, [rsp + r13]");
    fails("2", "mov eax, [rsp*1]", "mov eax, [rsp*2]", "mov eax, [rsp*2 + rax]", "mov eax, [rax + rsp*2]", "mov eax, [rsp + rsp]",
        "mov eax, [rsp + rsp*1]", "mov eax, [rsp*1 + rsp]", "mov eax, [rsp + rsp*8]");
    b.code("428b0420" + "428b046500000000" + "438b0424", "mov eax, [rax + r12]", "mov eax, [r12*2]", "mov eax, [r12 + r12]");
    b.about("II: three registers, two with a *: fault 2");
    fails("2", "mov eax, [rax + rbx + rcx]", "mov eax, [rax*2 + rbx*2]", "mov eax, [rax*1 + rbx*1]", "mov eax, [rax + rbx*2 + rcx]",
        "mov eax, [rax + rbx + rcx*2]", "mov eax, [rax*2 + rbx + rcx]", "mov eax, [rax + rax + rax + rax]");
  }

  private static void oddAddresses() {
    b.about("II: another register than of 8 bytes, - ahead of a register: fault 1");
    fails("1", "mov eax, [eax]", "mov eax, [al]", "mov eax, [r8d]", "mov eax, [rax + ecx]", "mov eax, [rax + cl*2]", "mov eax, [-rax]",
        "mov eax, [rax - rcx]", "mov eax, [5 - rcx]", "mov eax, [rax - rcx*2]", "mov eax, [+rax]", "mov eax, [rax + +rcx]",
        "mov eax, [rax + -rcx]", "mov eax, [- rax*2]");
    b.about("II: it is grammar: ahead of what is nothing in III");
    fails("1", "mov 5, [eax]", "mov eax, [rax + rbx + rcx + edx]", "mov eax, [rsp*2 - rax]", "mov [rax + rbx + rcx], [5");
    b.about("II: other terms make up an expression as they stand");
    b.code("8b4306" + "8b4304" + "8b4306" + "8b43fa" + "8b4302", "mov eax, [2 + rbx + 4]", "mov eax, [2*4 + rbx - 4]",
        "mov eax, [rbx + 2 * 3]", "mov eax, [rbx - 2 * 3]", "mov eax, [rbx - 2 + 4]");
    b.code("8b43fe" + "8b4302" + "8b43fd" + "8b430a", "mov eax, [-2 + rbx]", "mov eax, [rbx - -2]", "mov eax, [rbx - 7 / 2]",
        "mov eax, [rbx + (1 | 2) + 7]");
    b.code("8b4301", "mov eax, [rbx - ~0 + 0]");
    fails("1", "mov eax, [rbx + 1 | 2]", "mov eax, [rbx + 1 & 2]", "mov eax, [rbx + 1 ^ 2]", "mov eax, [rbx + 1 << 2]",
        "mov eax, [1 | 2]", "mov eax, [rbx + 5, rcx]", "mov eax, [rbx + ]", "mov eax, [ + ]", "mov eax, [rbx 5]");
    b.about("II: that ahead of the first of them stands in front: a PLACE has none there");
    fails("4", "mov eax, [rbx - x]", "mov eax, [-x]", "mov eax, [rbx + x + y]", "mov eax, [rbx + x * 2]", "mov eax, [rbx + 5 - x]");
    fine("mov eax, [rbx + x - 5]", "mov eax, [5 + rbx + x]", "mov eax, [+x]", "x: mov eax, [rbx + x - x]", "x: mov eax, [x + rbx - x]");
    b.about("II: rel E");
    fine("mov eax, [rel 5]", "mov eax, [rel x]", "mov eax, [rel -5 | 3 << 2]", "mov eax, [rel (x)]");
    fails("1", "mov eax, [rel]", "mov eax, [rel rax]", "mov eax, [rel x + rax]", "mov eax, [rax + rel x]", "mov eax, [rel rel x]",
        "mov eax, rel x", "mov eax, [rel x", "mov eax, [rel x, 5]");
  }

  private static void prefixes() {
    b.about("III: a register of size 1 with a number 4 .. 7 needs a PREFIX");
    String[] names = {"al", "cl", "dl", "bl", "spl", "bpl", "sil", "dil"};
    for (int k = 0; k < 8; k++) {
      String p = k >= 4 ? "40" : "";
      b.code(p + String.format("88%02x", 0xc0 + 8 * k) + p + String.format("88%02x", 0xc0 + k), "mov al, " + names[k],
          "mov " + names[k] + ", al");
      b.code(p + String.format("88%02x", 8 * k) + p + String.format("8a%02x", 8 * k), "mov [rax], " + names[k], "mov " + names[k] + ", [rax]");
      b.code(p + String.format("%02x05", 0xb0 + k) + p + String.format("fe%02x", 0xc0 + k), "mov " + names[k] + ", 5", "inc " + names[k]);
      b.code(p + String.format("0fb6%02x", 0xc0 + k) + p + String.format("0f94%02x", 0xc0 + k), "movzx eax, " + names[k],
          "setz " + names[k]);
      b.code(p + String.format("d2%02x", 0xe0 + k) + p + String.format("0fc0%02x", 0xc0 + 8 * k), "shl " + names[k] + ", cl",
          "xadd al, " + names[k]);
      b.code(k == 0 ? "a805" : p + String.format("f6%02x05", 0xc0 + k), "test " + names[k] + ", 5");
    }
    b.code("4488c0" + "4188c0" + "4588c0" + "41b005" + "4088e5" + "4488e0", "mov al, r8b", "mov r8b, al",
        "mov r8b, r8b", "mov r8b, 5", "mov bpl, spl", "mov al, r12b");
    b.about("III: others need none for it");
    b.code("89f4" + "8b26" + "0fb626" + "bc05000000", "mov esp, esi", "mov esp, [rsi]", "movzx esp, byte [rsi]",
        "mov esp, 5");
    b.about("III: W for the size 8 of v, and for 14; not for 8");
    b.code("4801d8" + "4863c3" + "53" + "5b" + "ff33" + "8f03" + "ffe3" + "ffd3" + "4899" + "4898" + "480fcb" + "48a5" + "f348ab",
        "add rax, rbx", "movsxd rax, ebx", "push rbx", "pop rbx", "push qword [rbx]", "pop qword [rbx]", "jmp rbx", "call rbx",
        "cqo", "cdqe", "bswap rbx", "movsq", "rep stosq");
    b.code("4153" + "415b" + "41ff33" + "418f03" + "41ffe3" + "41ffd3" + "42ff2443", "push r11", "pop r11",
        "push [r11]", "pop [r11]", "jmp r11", "call r11", "jmp [rbx + r8*2]");
  }

  private static void registers() {
    b.about("II: REGISTERS 0 .. 15 of 8, 4 and 1 bytes");
    String[][] names = {
      {"rax", "rcx", "rdx", "rbx", "rsp", "rbp", "rsi", "rdi", "r8", "r9", "r10", "r11", "r12", "r13", "r14", "r15"},
      {"eax", "ecx", "edx", "ebx", "esp", "ebp", "esi", "edi", "r8d", "r9d", "r10d", "r11d", "r12d", "r13d", "r14d", "r15d"},
      {"al", "cl", "dl", "bl", "spl", "bpl", "sil", "dil", "r8b", "r9b", "r10b", "r11b", "r12b", "r13b", "r14b", "r15b"}
    };
    for (int k = 0; k < 16; k++) {
      String low = String.format("%02x", 0xc0 + k % 8);
      b.code((k < 8 ? "48" : "49") + "ff" + low, "inc " + names[0][k]);
      b.code((k < 8 ? "" : "41") + "ff" + low, "inc " + names[1][k]);
      b.code((k >= 8 ? "41" : k >= 4 ? "40" : "") + "fe" + low, "inc " + names[2][k]);
      b.code((k < 8 ? "48" : "4c") + "01" + String.format("%02x", 0xc1 + 8 * (k % 8)), "add rcx, " + names[0][k]);
      b.code((k < 8 ? "" : "44") + "8b" + String.format("%02x", 3 + 8 * (k % 8)), "mov " + names[1][k] + ", [rbx]");
      b.code((k < 8 ? "" : "41") + String.format("%02x", 0x50 + k % 8), "push " + names[0][k]);
      for (String[] sort : names) {
        b.fault("3@1", sort[k] + ": nop");
        b.fault("1@1", "db " + sort[k]);
      }
    }
    fails("2", "inc ah", "inc ax", "inc r16", "inc r8w", "inc rip", "inc RAX", "inc sp", "inc r7", "inc r8l");
  }

  private static void told() {
    b.about("II: the SIZE is that of the registers and of byte, dword, qword, all of them");
    String[] marks = {"byte", "dword", "qword"};
    String[] registers = {"al", "eax", "rax"};
    for (int i = 0; i < 3; i++) {
      for (int k = 0; k < 3; k++) {
        String want = i == k ? "none" : "2@1";
        b.fault(want, "mov " + registers[i] + ", " + registers[k]);
        b.fault(want, "mov " + registers[i] + ", " + marks[k] + " [rbx]");
        b.fault(want, "mov " + marks[k] + " [rbx], " + registers[i]);
        b.fault(want, "mov " + registers[i] + ", " + marks[k] + " 5");
        b.fault(want, "mov " + marks[i] + " [rbx], " + marks[k] + " 5");
        b.fault("1@1", "mov " + registers[i] + ", " + marks[k] + " " + registers[i]);
        b.fault("1@1", "mov " + marks[k] + " " + registers[i] + ", 5");
      }
      fine("mov [rbx], " + marks[i] + " 5", "inc " + marks[i] + " [rbx]", "add " + marks[i] + " [rbx], 5");
    }
    b.about("FAULTS: 2 none where one is told by III");
    fails("2", "mov [rbx], 5", "inc [rbx]", "add [rbx], 5", "not [rbx]", "mul [rbx]", "shl [rbx], 1", "shl [rbx], cl", "bt [rbx], 5",
        "test [rbx], 5", "cmp [rbx], 5", "imul [rbx]");
    fine("mov [rbx], eax", "xchg [rbx], eax", "bt [rbx], eax", "xadd [rbx], al", "cmpxchg [rbx], rax", "lea eax, [rbx]");
    b.about("FAULTS: 1 two of them ahead");
    fails("1", "mov byte byte [rbx], 5", "mov eax, dword dword 5", "mov dword, 5", "inc dword");
  }

  private static void ownSizes() {
    b.about("II: the second operand of movzx, movsx (1) and movsxd (4) must be these");
    for (String word : new String[] {"movzx", "movsx"}) {
      fine(word + " eax, bl", word + " rax, bl", word + " eax, byte [rbx]", word + " rax, byte [rbx]");
      fails("2", word + " al, bl", word + " eax, ebx", word + " eax, rbx", word + " eax, dword [rbx]", word + " eax, qword [rbx]",
          word + " eax, [rbx]", word + " [rbx], al", word + " eax, byte 5", word + " eax", word + " eax, bl, cl");
    }
    fine("movsxd rax, ebx", "movsxd rax, dword [rbx]");
    fails("2", "movsxd eax, ebx", "movsxd rax, rbx", "movsxd rax, bl", "movsxd rax, [rbx]", "movsxd rax, qword [rbx]",
        "movsxd al, ebx", "movsxd rax, dword 5", "movsxd eax, dword [rbx]");
    b.about("II: push and pop have 8, setC 1 (as if told)");
    fine("push rax", "push [rbx]", "push qword [rbx]", "push qword 5", "pop [rbx]", "pop qword [rbx]", "setz al", "setz [rbx]",
        "setz byte [rbx]");
    fails("2", "push eax", "push al", "push dword [rbx]", "push byte [rbx]", "push byte 5", "push dword 5", "pop eax", "pop dword [rbx]",
        "setz eax", "setz rax", "setz dword [rbx]", "setz qword [rbx]", "setz 5");
    b.about("II: what jmp and call go to has 8 if it is no E");
    for (String word : new String[] {"jmp", "call"}) {
      fine(word + " rax", word + " [rbx]", word + " qword [rbx]", word + " x", word + " 5");
      fails("2", word + " eax", word + " al", word + " dword [rbx]", word + " byte [rbx]", word, word + " x, y", word + " rax, rbx");
    }
  }

  private static void noSizes() {
    b.about("II: they and jC and ret have none, whatever is told ahead of E");
    b.code("ebfe" + "74fe" + "e800000000" + "c20500", "jmp byte $", "jz qword $", "call dword x", "ret byte 5");
    fails("2", "jz rax", "jz [rbx]", "jz qword [rbx]", "ret rax", "ret [rbx]", "jz", "jz x, y", "ret 5, 6");
    b.about("III: no operands");
    for (String word : new String[] {"nop", "int3", "ud2", "syscall", "leave", "cdq", "cqo", "cwde", "cdqe", "movsb", "stosq",
        "rep movsd"}) {
      fine(word);
      fails("2", word + " eax", word + " 5", word + " [rbx]", word + " x");
      fails("1", word + " +", word + " ,");
    }
  }

  private static void shiftCounts() {
    b.about("II: cl as the second operand of 24 .. 28 tells nothing of the size");
    for (String word : new String[] {"rol", "ror", "shl", "shr", "sar"}) {
      fine(word + " al, cl", word + " eax, cl", word + " rax, cl", word + " dword [rbx], cl", word + " cl, cl", word + " cl, 5");
      fails("2", word + " [rbx], cl", word + " eax, bl", word + " eax, ecx", word + " eax, byte 5", word + " eax", word + " eax, cl, 5",
          word + " cl, eax", word + " 5, cl");
    }
    fails("2", "add eax, cl", "bt eax, cl", "mov eax, cl");
    b.code("01c8" + "c0e005" + "d0e3", "add eax, ecx", "shl al, byte 5", "shl bl, byte 1");
    b.code("00c8" + "0fa3c8", "add al, cl", "bt eax, ecx");
  }

  private static void products() {
    b.about("II: imul with two or three operands: 23; imul r, E is imul r, r, E");
    b.code("6bc005" + "6bc005" + "69c000010000" + "4869ff00000000" + "456bff05", "imul eax, 5", "imul eax, eax, 5", "imul eax, 256",
        "imul rdi, x", "imul r15d, 5");
    b.code("0fafc3" + "0faf03" + "6b0305" + "f7eb" + "f62b", "imul eax, ebx", "imul eax, [rbx]", "imul eax, [rbx], 5", "imul ebx",
        "imul byte [rbx]");
    fails("2", "imul", "imul 5", "imul al, bl", "imul al, 5", "imul al, bl, 5", "imul [rbx], eax", "imul [rbx], 5", "imul dword [rbx], 5",
        "imul eax, 5, 6", "imul eax, ebx, ecx", "imul eax, ebx, [rcx]", "imul eax, ebx, 5, 6", "imul [rbx], eax, 5", "imul eax, rbx");
  }

  private static void counts() {
    b.about("FAULTS: 2 what is nothing in III");
    fails("2", "add eax", "add", "add eax, ebx, ecx", "add 5, eax", "add [rbx], [rcx]", "add 5, 6", "mov", "mov eax", "mov [rbx], [rcx]",
        "test eax, [rbx]", "xchg eax, [rbx]", "xchg eax, 5", "lea eax, ebx", "lea eax, 5", "lea [rbx], eax", "lea al, [rbx]", "not 5",
        "not eax, 5", "inc 5", "bsf [rbx], eax", "bsf eax, 5", "bsf al, bl", "bswap al", "bswap [rbx]", "bswap dword [rbx]", "bswap 5",
        "xadd eax, [rbx]", "xadd eax, 5", "cmpxchg eax, [rbx]", "cmovz al, bl", "cmovz [rbx], eax", "cmovz eax, 5", "pop 5",
        "mov eax, 1, 2, 3, 4, 5, 6, 7, 8, 9");
    fine("test [rbx], eax", "xchg [rbx], eax", "bsf eax, [rbx]", "xadd [rbx], eax", "cmovz eax, [rbx]");
    b.about("FAULTS: 2 bytes in bss but by resb and align");
    for (String line : new String[] {"db 1", "db \"a\"", "dw 1", "dd 1", "dq x", "nop", "jmp $", "jz x", "call x", "mov eax, 5", "rep movsb"}) {
      b.fault("2@2", "section bss", line);
      b.fault("none", "section bss", "section data", line);
    }
    b.fault("none", "section bss", "resb 5", "align 8", "x:", "db \"\"");
    b.fault("4@2", "section bss", "db 1 / 0");
    b.fault("2@2", "section bss", "db 256");
    b.fault("7@2", "section bss", "resb 65537");
  }

  private static void reps() {
    b.about("II: rep and one of these (another word behind it, or none: fault 1)");
    b.code("f3a4f3a5f348a5f3aaf3abf348ab", "rep movsb", "rep movsd", "rep movsq", "rep stosb", "rep stosd", "rep stosq");
    b.code("a4a548a5aaab48ab", "movsb", "movsd", "movsq", "stosb", "stosd", "stosq");
    fails("1", "rep", "rep nop", "rep movsx", "rep movsxd", "rep cdqe", "rep cqo", "rep jo", "rep jno", "rep jmp", "rep setz", "rep cmovz",
        "rep rep movsb", "rep x", "rep 5", "rep text", "rep bss", "rep 119", "rep 120", "rep 124",
        "rep rax", "rep if", "rep ,", "rep [movsb]", "rep cmpxchg", "rep xadd");
    fails("2", "rep movsb 5", "rep stosq rax", "movsb 5");
    fails("1", "rep movsb,", "rep movsb +");
    fine("x: rep movsb");
  }

  private static void distances() {
    b.about("II: short while the distance is -128 .. 127");
    for (String word : new String[] {"jmp", "jz"}) {
      String shortOne = word.equals("jmp") ? "eb" : "74";
      String longOne = word.equals("jmp") ? "e9" : "0f84";
      for (int ahead = 125; ahead <= 130; ahead++) {
        b.make(word + " x", "resb " + ahead, "x:");
        b.due("ahead " + ahead, b.works.size(0, 0), ahead + (ahead <= 127 ? 2 : 4 + longOne.length() / 2));
        b.make("x: resb " + ahead, word + " x");
        b.due("back " + ahead, b.works.size(0, 0), ahead + (ahead <= 126 ? 2 : 4 + longOne.length() / 2));
      }
      b.code(shortOne + "7f" + shortOne + "80" + longOne + "00000000" + longOne + "00000000", word + " $ + 129", word + " $ - 126",
          word + " $ + 130", word + " $ - 127");
      b.code(longOne + "00000000" + longOne + "00000000" + longOne + "00000000", word + " $ + 0x100000000", word + " $ + (1 << 63)",
          word + " $ - (1 << 63) + 1");
    }
    b.about("II: the distance is from the next instruction");
    b.code("eb00" + "ebfe" + "ebfc" + "7405" + "9090909090", "jmp x", "x: jmp x", "jmp x", "jz y", "rept 5", "nop", "endr", "y:");
  }

  private static void dollar() {
    b.about("I: $, the place where the statement begins");
    b.make("global start", "start: nop", "dq $ - start, $ - start", "mov eax, $ - start", "mov dword [rbx + $ - start], $ - start", "align 16",
        "dd $ - start");
    b.links(1 + 16 + 5 + 10 + 4);
    b.works.load();
    b.due("first", b.number(Bench.TEXT + 1, 8), 1);
    b.due("second of it", b.number(Bench.TEXT + 9, 8), 1);
    b.due("of an instruction", b.number(Bench.TEXT + 18, 4), 17);
    b.due("displacement", b.number(Bench.TEXT + 24, 4), 22);
    b.due("number", b.number(Bench.TEXT + 28, 4), 22);
    b.due("behind align", b.number(Bench.TEXT + 32, 4), 32);
  }

  private static void notShort() {
    b.about("II: to a PLACE whose symbol is a label of the same section of this unit, not weak, or $; all others are long");
    b.code("eb00" + "eb00", "global x", "jmp x", "x: jmp y", "y:");
    b.code("e900000000", "weak x", "jmp x", "x:");
    b.code("e900000000", "jmp x", "x:", "weak x");
    b.code("e900000000", "global x", "weak x", "jmp x", "x:");
    b.code("e900000000", "jmp x", "section data", "x:");
    b.code("e900000000", "jmp x");
    b.code("e900000000", "jmp 0");
    b.code("e900000000", "x: jmp $ - x");
    b.code("0f8400000000", "x: jz x - x + 5");
    b.code("eb03", "x: jmp x + 5");
    b.code("e800000000", "x: call x");
    b.make("section data", "jmp x", "x:", "section rodata", "jmp x");
    b.due("data", b.bytes(0, 2), "eb00");
    b.due("rodata", b.bytes(0, 1), "e900000000");
    b.about("II: again and again, till there are none");
    // Each one becomes long because of the one behind it; from the last one on, all of them.
    StringBuilder chain = new StringBuilder();
    for (int i = 0; i < 40; i++) {
      chain.append("jmp x").append(i).append(" + 1\nresb 62\n");
      if (i > 0) {
        chain.append("x").append(i - 1).append(":\n");
      }
    }
    b.make(chain + "resb 65\nx39:");
    b.due("all are long", b.works.size(0, 0), 40 * 67 + 65);
    b.make(chain + "resb 64\nx39:");
    b.due("none is", b.works.size(0, 0), 40 * 64 + 64);
  }
}
