import java.util.Arrays;

/** Each wrap-around of the terms: offsets, addresses, words over an end, IP, SP, SI and DI, INT's number. */
public final class WrapTest {
    /** Segment, offset, and the address that is due. */
    private static final int[][] PLACES = {{0, 0, 0}, {0, 1023, 1023}, {0, 1024, 0}, {0, 65535, 1023}, {63, 15, 1023},
        {63, 16, 0}, {64, 0, 0}, {64, 1023, 1023}, {1, 1007, 1023}, {1, 1008, 0}, {65535, 0, 1008},
        {65535, 15, 1023}, {65535, 16, 0}, {65535, 65535, 1007}, {4096, 5, 5}, {32768, 32768, 0}};

    public static void main(String[] args) {
        offsetsWrap();
        displacedOffsetsWrap();
        wrappedOffsetsReachMemory();
        addressesOfData();
        addressesOfCode();
        addressesOfTheStack();
        addressesOfStrings();
        wordsOverTheEnd();
        wordOperandsOverTheEnd();
        stringWordsOverTheEnd();
        instructionsOverTheEndOfIp();
        jumpsOverTheEnds();
        pushesOverTheEnds();
        popsOverTheEnds();
        interruptsOverTheEndOfTheStack();
        stringOffsetsWrap();
        interruptNumbersWrap();
        Check.end();
    }

    /** BX, SI, DI and BP become a, b, b and a: every sum of two is a + b. */
    private static Computer based(int a, int b, int... program) {
        Computer x = Check.with(program);
        x.put(Check.BX, a);
        x.put(Check.BP, a);
        x.put(Check.SI, b);
        x.put(Check.DI, b);
        return x;
    }

    private static int base(int x, int a, int b) {
        return x < 4 ? a + b : x < 6 ? b : a;
    }

    private static void offsetsWrap() {
        Check.sentence("OFFSET (16 bits, it wraps)");
        int[][] pairs = {{65535, 0}, {65535, 1}, {1, 65535}, {65535, 65535}, {32768, 32768}, {32768, 32767}, {0, 0}};
        for (int[] pair : pairs) {
            for (int x = 0; x < 8; x++) {
                if (x != 6) {
                    Computer c = based(pair[0], pair[1], 141, 8 * Check.CX + x);
                    c.step(1);
                    String what = "offset " + x + " of " + Arrays.toString(pair);
                    Check.registerDue(what, c, Check.CX, base(x, pair[0], pair[1]) & 65535);
                }
            }
        }
        Computer c = Check.ran(1, 141, 8 * Check.CX + 6, 255, 255);
        Check.registerDue("a word that follows", c, Check.CX, 65535);
    }

    private static void displacedOffsetsWrap() {
        Check.sentence("in displacements a byte counts signed; plus, with m = 1, sb, with m = 2, iw");
        int[] bytes = {0, 1, 127, 128, 129, 255};
        int[] words = {0, 1, 127, 128, 255, 256, 32767, 32768, 65535};
        int[][] pairs = {{0, 0}, {65535, 0}, {65535, 1}, {65535, 65535}, {127, 0}, {128, 0}, {0, 65409}};
        for (int[] pair : pairs) {
            for (int x = 0; x < 8; x++) {
                int base = base(x, pair[0], pair[1]);
                for (int sb : bytes) {
                    Computer c = based(pair[0], pair[1], 141, 64 + 8 * Check.CX + x, sb);
                    c.step(1);
                    String what = "offset " + x + " of " + Arrays.toString(pair) + " and byte " + sb;
                    Check.registerDue(what, c, Check.CX, (base + (sb < 128 ? sb : sb - 256)) & 65535);
                    Check.registerDue(what, c, Check.IP, 515);
                }
                for (int iw : words) {
                    Computer c = based(pair[0], pair[1], 141, 128 + 8 * Check.CX + x, iw & 255, iw >> 8);
                    c.step(1);
                    String what = "offset " + x + " of " + Arrays.toString(pair) + " and word " + iw;
                    Check.registerDue(what, c, Check.CX, (base + iw) & 65535);
                    Check.registerDue(what, c, Check.IP, 516);
                }
            }
        }
    }

    private static void wrappedOffsetsReachMemory() {
        Check.sentence("OFFSET (16 bits, it wraps)");
        Computer x = based(65535, 6, 138, 0, 136, 64 + 8 * Check.DX + 4, 246);
        x.poke(5, 0xA1);
        x.put(Check.DX, 0x5E);
        x.step(1);
        Check.registerDue("BX + SI = 65541", x, Check.AX, 0xA1);
        x.step(1);
        Check.due("SI - 10 = -4", x.peek(1020), 0x5E);
    }

    private static void addressesOfData() {
        Check.sentence("(16 * s + offset) mod 1024");
        int[] prefixes = {38, 54, 62};
        int[] segments = {Check.ES, Check.SS, Check.DS};
        for (int[] place : PLACES) {
            for (int i = 0; i < 3; i++) {
                Computer x = Check.with(prefixes[i], 138, 7, prefixes[i], 136, 8 * 5 + 7);
                x.put(segments[i], place[0]);
                x.put(Check.BX, place[1]);
                x.put(Check.CX, 0xC700);
                x.poke(place[2], 0xB5);
                x.step(1);
                String what = "segment " + place[0] + ", offset " + place[1];
                Check.registerDue(what + " read", x, Check.AX, 0xB5);
                x.step(1);
                Check.due(what + " written", x.peek(place[2]), 0xC7);
            }
        }
    }

    private static void addressesOfCode() {
        Check.sentence("INSTRUCTIONS are read from CS:IP on");
        for (int[] place : PLACES) {
            Computer x = new Computer();
            x.put(Check.CS, place[0]);
            x.put(Check.IP, place[1]);
            Check.write(x, place[2], 184, 0x34, 0x92, 46, 138, 6, place[1] & 255, place[1] >> 8);
            x.step(1);
            String what = "code at segment " + place[0] + ", offset " + place[1];
            Check.registerDue(what, x, Check.AX, 0x9234);
            Check.registerDue(what, x, Check.IP, (place[1] + 3) & 65535);
            x.step(1);
            Check.registerDue(what + " read as data", x, Check.AX, 0x92B8);
        }
    }

    private static void addressesOfTheStack() {
        Check.sentence("at SS:SP becomes the word; the word at SS:SP is taken");
        for (int[] place : PLACES) {
            Computer x = Check.with(80, 89);
            x.put(Check.SS, place[0]);
            x.put(Check.SP, place[1] + 2);
            x.put(Check.AX, 0x6A5B);
            x.step(1);
            String what = "stack at segment " + place[0] + ", offset " + place[1];
            Check.registerDue(what, x, Check.SP, place[1]);
            Check.wordDue(what, x, place[2], 0x6A5B);
            x.step(1);
            Check.registerDue(what, x, Check.CX, 0x6A5B);
            Check.registerDue(what, x, Check.SP, (place[1] + 2) & 65535);
        }
    }

    private static void addressesOfStrings() {
        Check.sentence("at ES:DI becomes what is at the prefix's segment or DS, SI");
        for (int[] place : PLACES) {
            String what = "segment " + place[0] + ", offset " + place[1];
            Computer x = Check.with(170, 174, 164);
            x.put(Check.ES, place[0]);
            x.put(Check.DI, place[1]);
            x.put(Check.AX, 0x97);
            x.step(1);
            Check.due("STOS at " + what, x.peek(place[2]), 0x97);
            x.put(Check.DI, place[1]);
            x.step(1);
            Check.registerDue("SCAS at " + what, x, Check.FLAGS, Check.Z);
            x.put(Check.DI, place[1]);
            x.put(Check.SI, 300);
            x.poke(300, 0x31);
            x.step(1);
            Check.due("MOVS to " + what, x.peek(place[2]), 0x31);
            x = Check.with(172, 164);
            x.put(Check.DS, place[0]);
            x.put(Check.SI, place[1]);
            x.poke(place[2], 0x42);
            x.step(1);
            Check.registerDue("LODS from " + what, x, Check.AX, 0x42);
            x.put(Check.SI, place[1]);
            x.put(Check.DI, 300);
            x.step(1);
            Check.due("MOVS from " + what, x.peek(300), 0x42);
        }
    }

    /** Segment and offset whose word has its bytes at 1023 and 0. */
    private static final int[][] LAST = {{0, 1023}, {0, 65535}, {63, 15}, {65535, 15}, {1, 1007}, {64, 65535}};

    private static void wordsOverTheEnd() {
        Check.sentence("A WORD lies at two offsets, its lower byte at the first one");
        for (int[] place : LAST) {
            Computer x = Check.with(139, 7, 137, 8 * Check.DX + 7);
            x.put(Check.DS, place[0]);
            x.put(Check.BX, place[1]);
            x.put(Check.DX, 0x8791);
            Check.write(x, 1023, 0x11, 0x22);
            x.step(1);
            String what = "word at segment " + place[0] + ", offset " + place[1];
            Check.registerDue(what + " read", x, Check.AX, 0x2211);
            x.step(1);
            Check.due(what + " written, lower", x.peek(1023), 0x91);
            Check.due(what + " written, higher", x.peek(0), 0x87);
            Check.due(what + " written, no more", x.peek(1) + x.peek(1022), 0);
        }
        Computer x = Check.with(137, 8 * Check.DX + 7, 139, 7);
        x.put(Check.DS, 3);
        x.put(Check.BX, 65535);
        x.put(Check.DX, 0x1F2E);
        x.step(2);
        Check.due("offset 65535 of segment 3", x.peek(47), 0x2E);
        Check.due("offset 0 of segment 3", x.peek(48), 0x1F);
        Check.registerDue("offsets 65535 and 0 of segment 3", x, Check.AX, 0x1F2E);
    }

    /** The word 0x0203 lies over the end, an instruction works on it, and the word due is there or in a register. */
    private static void wordOperandsOverTheEnd() {
        Check.sentence("E w is a WORD, over the end too");
        int[][] rows = {{0x1203, 1, 7}, {0x1202, 129, 0x2F, 1, 0xF0}, {0x0202, 131, 7, 255}, {0xFDFC, 247, 0x17},
            {0xFDFD, 247, 0x1F}, {0x0204, 255, 7}, {0x0202, 255, 0x0F}, {0x3456, 140, 7}, {0x1000, 137, 7}};
        for (int[] row : rows) {
            Computer x = Check.with(Arrays.copyOfRange(row, 1, row.length));
            x.put(Check.BX, 1023);
            x.put(Check.ES, 0x3456);
            x.put(Check.AX, 0x1000);
            Check.write(x, 1023, 3, 2);
            x.step(1);
            Check.wordDue("code " + row[1] + " over the end", x, 1023, row[0]);
        }
        // Register, the word that it becomes, code and modrm; DX and AX are 1 and 0x1000 before.
        int[][] reads = {{Check.CX, 0x0203, 139, 8 * Check.CX + 7}, {Check.ES, 0x0203, 142, 7},
            {Check.DX, 0x0020, 247, 0x27}, {Check.AX, 0x11000 / 0x0203, 247, 0x37},
            {Check.CX, 0x0203, 3, 8 * Check.CX + 7}};
        for (int[] row : reads) {
            Computer x = Check.with(row[2], row[3]);
            x.put(Check.BX, 1023);
            x.put(Check.DX, 1);
            x.put(Check.AX, 0x1000);
            Check.write(x, 1023, 3, 2);
            x.step(1);
            Check.registerDue("code " + row[2] + " reads over the end", x, row[0], row[1]);
        }
    }

    private static void stringWordsOverTheEnd() {
        Check.sentence("164 b, 165 w: a WORD over the end");
        for (int[] place : LAST) {
            Computer x = Check.with(171, 175, 165);
            x.put(Check.ES, place[0]);
            x.put(Check.DI, place[1]);
            x.put(Check.AX, 0x4C3D);
            x.step(1);
            Check.wordDue("STOS over the end", x, 1023, 0x4C3D);
            Check.registerDue("STOS over the end", x, Check.DI, (place[1] + 2) & 65535);
            x.put(Check.DI, place[1]);
            x.step(1);
            Check.registerDue("SCAS over the end", x, Check.FLAGS, Check.Z);
            x.put(Check.DI, place[1]);
            x.put(Check.SI, 300);
            Check.write(x, 300, 0x12, 0x13);
            x.step(1);
            Check.wordDue("MOVS to the end", x, 1023, 0x1312);
            x = Check.with(173, 165);
            x.put(Check.DS, place[0]);
            x.put(Check.SI, place[1]);
            Check.write(x, 1023, 0x56, 0x67);
            x.step(1);
            Check.registerDue("LODS over the end", x, Check.AX, 0x6756);
            x.put(Check.SI, place[1]);
            x.put(Check.DI, 300);
            x.step(1);
            Check.wordDue("MOVS from the end", x, 300, 0x6756);
        }
    }

    /** The longest instruction, begun so that each of its bytes in turn is the first one behind the end. */
    private static void instructionsOverTheEndOfIp() {
        Check.sentence("IP going on behind each byte");
        int[] program = {46, 62, 38, 129, 0x86, 0x05, 0x01, 0x34, 0x12};
        for (int before = 0; before <= program.length; before++) {
            Computer x = new Computer();
            int start = (65536 - before) & 65535;
            Check.write(x, 1024 - before, program);
            x.put(Check.IP, start);
            x.put(Check.BP, 300);
            x.put(Check.ES, 2);
            Check.write(x, 300 + 0x105 + 32, 1, 1);
            x.step(1);
            Check.wordDue(before + " bytes before the end", x, 300 + 0x105 + 32, 0x1335);
            Check.registerDue(before + " bytes before the end", x, Check.IP, (start + 9) & 65535);
            Check.due(before + " bytes before the end: interrupts()", x.interrupts(), 0);
        }
        // An UNKNOWN one over the end goes back to its first byte, and so does a repeated one.
        Computer x = new Computer();
        Check.write(x, 1023, 62, 96);
        x.put(Check.IP, 65535);
        x.step(1);
        Check.wordDue("UNKNOWN over the end", x, 250, 65535);
        x = new Computer();
        Check.write(x, 1023, 243, 170);
        x.put(Check.IP, 65535);
        x.put(Check.CX, 2);
        x.put(Check.DI, 300);
        x.step(1);
        Check.registerDue("repeated over the end", x, Check.IP, 65535);
        x.step(1);
        Check.registerDue("repeated over the end", x, Check.IP, 1);
    }

    private static void jumpDue(String what, int from, int want, int... program) {
        Computer x = new Computer();
        Check.write(x, from, program);
        x.put(Check.IP, from);
        x.put(Check.CX, 2);
        x.put(Check.FLAGS, Check.C | Check.Z | Check.S);
        x.step(1);
        Check.registerDue(what + " from " + from, x, Check.IP, want);
    }

    private static void jumpsOverTheEnds() {
        Check.sentence("IP grows by sb; IP grows by iw");
        int[] short3 = {235, 226, 112 + 2, 112 + 4, 112 + 8, 112 + 1, 112 + 6, 112 + 12, 112 + 14};
        for (int code : short3) {
            jumpDue("code " + code, 65534, 127, code, 127);
            jumpDue("code " + code, 65534, 65408, code, 128);
            jumpDue("code " + code, 65533, 65535, code, 0);
            jumpDue("code " + code, 65533, 0, code, 1);
            jumpDue("code " + code, 0, 65410, code, 128);
            jumpDue("code " + code, 0, 65535, code, 253);
            jumpDue("code " + code, 0, 0, code, 254);
            jumpDue("code " + code, 65535, 0, code, 255);
        }
        int[] long2 = {233, 232};
        for (int code : long2) {
            jumpDue("code " + code, 65533, 65535, code, 255, 255);
            jumpDue("code " + code, 65532, 0, code, 1, 0);
            jumpDue("code " + code, 65535, 1, code, 255, 255);
            jumpDue("code " + code, 512, 514, code, 255, 255);
            jumpDue("code " + code, 512, 515, code, 0, 0);
            jumpDue("code " + code, 512, 0, code, 0xFD, 0xFD);
            jumpDue("code " + code, 512, 65535, code, 0xFC, 0xFD);
            jumpDue("code " + code, 0, 32771, code, 0, 128);
        }
        Computer x = new Computer();
        Check.write(x, 65534, 232, 0x10, 0);
        x.put(Check.IP, 65534);
        x.step(1);
        Check.wordDue("232 pushes IP behind iw", x, 254, 1);
        Check.registerDue("232 over the end", x, Check.IP, 17);
    }

    private static void pushesOverTheEnds() {
        Check.sentence("PUSH: SP becomes less by 2, and at SS:SP becomes the word");
        int[][] rows = {{0, 65534}, {1, 65535}, {2, 0}, {3, 1}, {65535, 65533}};
        for (int[] row : rows) {
            Computer x = Check.with(80);
            x.put(Check.AX, 0x1122);
            x.put(Check.SP, row[0]);
            x.step(1);
            Check.registerDue("PUSH with SP " + row[0], x, Check.SP, row[1]);
            Check.wordDue("PUSH with SP " + row[0], x, row[1] % 1024, 0x1122);
            x = Check.with(84);
            x.put(Check.SP, row[0]);
            x.step(1);
            Check.wordDue("PUSH SP with SP " + row[0], x, row[1] % 1024, row[0]);
            x = Check.with(30);
            x.put(Check.DS, 0x7788);
            x.put(Check.SP, row[0]);
            x.step(1);
            Check.wordDue("PUSH DS with SP " + row[0], x, row[1] % 1024, 0x7788);
            x = Check.with(232, 4, 0);
            x.put(Check.SP, row[0]);
            x.step(1);
            Check.registerDue("232 with SP " + row[0], x, Check.SP, row[1]);
            Check.wordDue("232 with SP " + row[0], x, row[1] % 1024, 515);
        }
    }

    private static void popsOverTheEnds() {
        Check.sentence("POP: the word at SS:SP is taken, SP grows by 2");
        int[][] rows = {{65534, 0}, {65535, 1}, {65533, 65535}, {0, 2}, {1023, 1025}};
        int[] codes = {88, 31, 195};
        int[] registers = {Check.AX, Check.DS, Check.IP};
        for (int[] row : rows) {
            for (int i = 0; i < 3; i++) {
                Computer x = Check.with(codes[i]);
                Check.write(x, row[0], 0x5F, 0x4E);
                x.put(Check.SP, row[0]);
                x.step(1);
                Check.registerDue("code " + codes[i] + " with SP " + row[0], x, Check.SP, row[1]);
                Check.registerDue("code " + codes[i] + " with SP " + row[0], x, registers[i], 0x4E5F);
            }
            Computer x = Check.with(92);
            Check.write(x, row[0], 0x5F, 0x4E);
            x.put(Check.SP, row[0]);
            x.step(1);
            Check.registerDue("POP SP: then the register becomes the word", x, Check.SP, 0x4E5F);
        }
    }

    private static void interruptsOverTheEndOfTheStack() {
        Check.sentence("INT n: FLAGS, CS and IP are pushed; 207: POP IP, POP CS, POP FLAGS");
        for (int sp = 0; sp <= 7; sp++) {
            Computer x = Check.with(205, 15);
            Check.write(x, 60, 0x58, 0x02, 0, 0);
            x.poke(600, 207);
            x.put(Check.SP, sp);
            x.put(Check.FLAGS, Check.D | Check.C);
            x.step(1);
            Check.registerDue("INT with SP " + sp, x, Check.SP, (sp - 6) & 65535);
            Check.wordDue("INT with SP " + sp + ": FLAGS", x, sp - 2, Check.D | Check.C);
            Check.wordDue("INT with SP " + sp + ": CS", x, sp - 4, 0);
            Check.wordDue("INT with SP " + sp + ": IP", x, sp - 6, 514);
            x.put(Check.FLAGS, 0);
            x.step(1);
            Check.registerDue("207 with SP " + sp, x, Check.SP, sp);
            Check.registerDue("207 with SP " + sp, x, Check.IP, 514);
            Check.registerDue("207 with SP " + sp, x, Check.FLAGS, Check.D | Check.C);
        }
    }

    private static void stringOffsetsWrap() {
        Check.sentence("SI and DI, where they are used, grow by 1 or 2, or become less by that if D");
        int[] codes = {164, 165, 170, 171, 172, 173, 174, 175};
        int[] offsets = {0, 1, 2, 65533, 65534, 65535};
        for (int code : codes) {
            for (int offset : offsets) {
                for (int back = 0; back < 2; back++) {
                    Computer x = Check.with(code);
                    x.put(Check.SI, offset);
                    x.put(Check.DI, offset);
                    x.put(Check.FLAGS, back * Check.D);
                    x.step(1);
                    int next = (offset + (1 + code % 2) * (1 - 2 * back)) & 65535;
                    String what = "code " + code + " at " + offset + (back == 0 ? "" : ", D");
                    Check.registerDue(what, x, Check.SI, code < 170 || code == 172 || code == 173 ? next : offset);
                    Check.registerDue(what, x, Check.DI, code == 172 || code == 173 ? offset : next);
                }
            }
        }
    }

    private static void interruptNumbersWrap() {
        Check.sentence("the words at the addresses 4 * (n mod 16) and + 2");
        int[] numbers = {0, 1, 14, 15, 16, 17, 31, 32, 127, 128, 240, 254, 255};
        for (int n : numbers) {
            Computer x = Check.with(205, n);
            for (int vector = 0; vector < 16; vector++) {
                Check.write(x, 4 * vector, vector, 0x03, 0x40 + vector, 0x70);
            }
            Check.write(x, 64, 0x99, 0x99, 0x99, 0x99);
            x.step(1);
            Check.registerDue("INT " + n, x, Check.IP, 0x300 + n % 16);
            Check.registerDue("INT " + n, x, Check.CS, 0x7040 + n % 16);
        }
    }
}
