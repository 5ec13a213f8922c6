/** Promise 6: operands, moves, the stack and the flag instructions. */
public final class MoveTest {
    private static final int BX = 100, SI = 20, DI = 7, BP = 200;
    private static final int[] FLAG_SETS = {0, Check.ALL_FLAGS};

    public static void main(String[] args) {
        givenBytesAndWords();
        byteRegistersAreHalves();
        halvesStayApart();
        registersAsOperands();
        registersInMemoryOperands();
        wordThatFollows();
        signedByteThatFollows();
        wordDisplacement();
        segmentsRead();
        segmentsWritten();
        segmentOneIsUnknown();
        loadedOffsets();
        loadedOffsetOfARegister();
        registersPushed();
        registersPopped();
        segmentsPushed();
        segmentsPopped();
        nothing();
        flagInstructions();
        movesLeaveFlags();
        Check.end();
    }

    private static void givenBytesAndWords() {
        Check.sentence("176 + x: byte register x := ib; 184 + x: register x := iw");
        int[] words = {0, 1, 0x9234, 32767, 32768, 65535};
        int[] bytes = {0, 1, 127, 128, 255};
        for (int k = 0; k < 8; k++) {
            for (int w : words) {
                Computer x = Check.ran(1, 184 + k, w & 255, w >> 8);
                Check.registerDue("184 + " + k, x, k, w);
                Check.registerDue("184 + " + k, x, Check.IP, 515);
            }
            for (int b : bytes) {
                Computer x = Check.with(176 + k, b);
                x.put(k & 3, 0x5AA5);
                x.step(1);
                Check.registerDue("176 + " + k, x, k & 3, k < 4 ? 0x5A00 | b : b << 8 | 0xA5);
                Check.registerDue("176 + " + k, x, Check.IP, 514);
            }
        }
    }

    private static void byteRegistersAreHalves() {
        Check.sentence("BYTE REGISTERS 0 .. 3 are the lower bytes of registers 0 .. 3, 4 .. 7 their higher ones");
        for (int to = 0; to < 8; to++) {
            for (int from = 0; from < 8; from++) {
                byteMoved(136, 0xC0 + 8 * from + to, to, from);
                byteMoved(138, 0xC0 + 8 * to + from, to, from);
            }
        }
    }

    /** Register k holds 0x4k and 0x8k before, the lower byte being the 0x4k. */
    private static void byteMoved(int code, int modrm, int to, int from) {
        Computer x = Check.with(code, modrm);
        for (int k = 0; k < 8; k++) {
            x.put(k, k < 4 ? 0x8040 + 0x101 * k : 0x7070 + k);
        }
        x.step(1);
        int moved = from < 4 ? 0x40 + from : 0x80 + from - 4;
        for (int k = 0; k < 8; k++) {
            int low = k == to ? moved : 0x40 + k;
            int high = k + 4 == to ? moved : 0x80 + k;
            Check.registerDue("code " + code + " from " + from + " to " + to, x, k, k < 4 ? high << 8 | low : 0x7070 + k);
        }
    }

    private static void halvesStayApart() {
        Check.sentence("a byte that overflows stays in its byte");
        for (int k = 0; k < 8; k++) {
            int other = k < 4 ? 0x7700 : 0x77;
            int shift = k < 4 ? 0 : 8;
            Computer x = Check.with(254, 0xC0 + k, 254, 0xC8 + k, 128, 0xC0 + k, 1, 128, 0xE8 + k, 1);
            x.put(k & 3, other | 255 << shift);
            int[] want = {0, 255, 0, 255};
            for (int w : want) {
                x.step(1);
                Check.registerDue("byte register " + k, x, k & 3, other | w << shift);
            }
        }
    }

    private static void registersAsOperands() {
        Check.sentence("m = 3: register x (of bytes or words)");
        for (int to = 0; to < 8; to++) {
            for (int from = 0; from < 8; from++) {
                Computer x = Check.with(137, 0xC0 + 8 * from + to);
                Computer y = Check.with(139, 0xC0 + 8 * to + from);
                for (int k = 0; k < 8; k++) {
                    x.put(k, 0xF000 + k);
                    y.put(k, 0xF000 + k);
                }
                x.step(1);
                y.step(1);
                for (int k = 0; k < 8; k++) {
                    Check.registerDue("137 from " + from + " to " + to, x, k, 0xF000 + (k == to ? from : k));
                    Check.registerDue("139 from " + from + " to " + to, y, k, 0xF000 + (k == to ? from : k));
                }
            }
        }
    }

    private static Computer based(int... program) {
        Computer x = Check.with(program);
        x.put(Check.BX, BX);
        x.put(Check.SI, SI);
        x.put(Check.DI, DI);
        x.put(Check.BP, BP);
        return x;
    }

    private static int base(int x) {
        int[] bases = {BX + SI, BX + DI, BP + SI, BP + DI, SI, DI, BP, BX};
        return bases[x];
    }

    private static void registersInMemoryOperands() {
        Check.sentence("x = 0: BX + SI; 1: BX + DI; 2: BP + SI; 3: BP + DI; 4: SI; 5: DI; 6: BP; 7: BX");
        for (int x = 0; x < 8; x++) {
            if (x != 6) {
                Computer c = based(137, x);
                c.put(Check.AX, 0x1234);
                c.step(1);
                Check.wordDue("m 0, x " + x, c, base(x), 0x1234);
                Check.registerDue("m 0, x " + x, c, Check.IP, 514);
            }
        }
    }

    private static void wordThatFollows() {
        Check.sentence("6: BP, but with m = 0 a word that follows");
        Computer c = based(137, 6, 0x2C, 0x01, 137, 0x46, 0);
        c.put(Check.AX, 0x1234);
        c.step(1);
        Check.wordDue("m 0, x 6", c, 300, 0x1234);
        Check.wordDue("m 0, x 6, not at BP", c, BP, 0);
        Check.registerDue("m 0, x 6", c, Check.IP, 516);
        c.step(1);
        Check.wordDue("m 1, x 6", c, BP, 0x1234);
        Check.registerDue("m 1, x 6", c, Check.IP, 519);
    }

    private static void signedByteThatFollows() {
        Check.sentence("plus, with m = 1, sb");
        int[][] rows = {{0, 0}, {1, 1}, {127, 127}, {128, -128}, {129, -127}, {255, -1}};
        for (int x = 0; x < 8; x++) {
            for (int[] row : rows) {
                Computer c = based(139, 64 + x, row[0]);
                Check.write(c, base(x) + row[1], 0x78, 0x56);
                c.step(1);
                Check.registerDue("m 1, x " + x + ", byte " + row[0], c, Check.AX, 0x5678);
                Check.registerDue("m 1, x " + x + ", byte " + row[0], c, Check.IP, 515);
            }
        }
    }

    private static void wordDisplacement() {
        Check.sentence("with m = 2, iw");
        int[] words = {0, 1, 127, 128, 255, 256, 0x812C, 65535};
        for (int x = 0; x < 8; x++) {
            for (int word : words) {
                Computer c = based(139, 128 + x, word & 255, word >> 8);
                int address = (base(x) + word) % 65536 % 1024;
                Check.write(c, address, 0xBC, 0x9A);
                c.step(1);
                Check.registerDue("m 2, x " + x + ", word " + word, c, Check.AX, 0x9ABC);
                Check.registerDue("m 2, x " + x + ", word " + word, c, Check.IP, 516);
            }
        }
    }

    private static void segmentsRead() {
        Check.sentence("140: E w := segment r mod 4");
        for (int r = 0; r < 8; r++) {
            Computer c = Check.with(140, 0xC0 + 8 * r + 3);
            for (int s = 8; s < 12; s++) {
                c.put(s, s == Check.CS ? 64 : 0x1230 + s);
            }
            c.step(1);
            Check.registerDue("140 with r " + r, c, Check.BX, r % 4 == 1 ? 64 : 0x1238 + r % 4);
        }
        Computer c = Check.with(140, 0x1E, 44, 1);
        c.put(Check.DS, 0x0340);
        c.step(1);
        Check.wordDue("140 to memory", c, (16 * 0x340 + 300) % 1024, 0x0340);
    }

    private static void segmentsWritten() {
        Check.sentence("142: segment r mod 4 := E w");
        int[] words = {0, 1, 0x4567, 32768, 65535};
        for (int r = 0; r < 8; r++) {
            for (int word : words) {
                if (r % 4 != 1) {
                    Computer c = Check.with(142, 0xC0 + 8 * r + 6);
                    c.put(Check.SI, word);
                    c.put(8 + r % 4, 7);
                    c.step(1);
                    for (int s = 0; s < 4; s++) {
                        Check.registerDue("142 with r " + r, c, 8 + s, s == r % 4 ? word : 0);
                    }
                    Check.due("142 with r " + r, c.interrupts(), 0);
                }
            }
        }
        Computer c = Check.with(142, 0x06, 44, 1);
        Check.write(c, 300, 0x21, 0x43);
        c.step(1);
        Check.registerDue("142 from memory", c, Check.ES, 0x4321);
    }

    private static void segmentOneIsUnknown() {
        Check.sentence("(r mod 4 = 1: UNKNOWN)");
        int[] modrms = {0x0E, 0x2E, 0x48, 0x6F, 0xC8, 0xE8};
        for (int modrm : modrms) {
            Computer c = Check.with(142, modrm, 44, 1);
            c.step(1);
            Check.due("142 with " + modrm, c.interrupts(), 1);
            Check.wordDue("142 with " + modrm, c, 250, 512);
        }
    }

    private static void loadedOffsets() {
        Check.sentence("141: R w := the offset that the modrm says");
        Computer c = Check.with(54, 141, 0x40 + 8 * 4 + 3, 0x80);
        c.put(Check.BP, 100);
        c.put(Check.DI, 20);
        c.put(Check.SS, 7);
        c.step(1);
        Check.registerDue("141", c, Check.SP, (120 - 128) & 65535);
        c = Check.ran(1, 141, 0x06, 0x34, 0x12);
        Check.registerDue("141 of a word", c, Check.AX, 0x1234);
        for (int r = 0; r < 8; r++) {
            c = Check.ran(1, 141, 8 * r + 6, 0xFF, 0xFF);
            Check.registerDue("141 to " + r, c, r, 65535);
        }
    }

    private static void loadedOffsetOfARegister() {
        Check.sentence("(m = 3: UNKNOWN)");
        for (int modrm = 0xC0; modrm < 0x100; modrm++) {
            Computer c = Check.ran(1, 141, modrm);
            Check.due("141 with " + modrm, c.interrupts(), 1);
            Check.wordDue("141 with " + modrm, c, 250, 512);
        }
        Computer c = Check.ran(1, 141, 0xBF, 0, 0);
        Check.due("141 with m = 2", c.interrupts(), 0);
    }

    private static void registersPushed() {
        Check.sentence("80 + x: PUSH of register x (PUSH SP: the value before)");
        for (int k = 0; k < 8; k++) {
            Computer c = Check.with(80 + k);
            c.put(k, 0x0234);
            c.put(Check.SS, 2);
            c.step(1);
            int sp = k == 4 ? 0x0232 : 254;
            Check.registerDue("PUSH " + k, c, Check.SP, sp);
            Check.wordDue("PUSH " + k, c, (32 + sp) % 1024, 0x0234);
        }
    }

    private static void registersPopped() {
        Check.sentence("SP grows by 2, and then the register becomes the word");
        for (int k = 0; k < 8; k++) {
            Computer c = Check.with(88 + k);
            Check.write(c, 256 + 32, 0x78, 0x56);
            c.put(Check.SS, 2);
            c.step(1);
            Check.registerDue("POP " + k, c, k, 0x5678);
            Check.registerDue("POP " + k, c, Check.SP, k == 4 ? 0x5678 : 258);
        }
    }

    private static void segmentsPushed() {
        Check.sentence("6, 14, 22, 30: PUSH ES, CS, SS, DS");
        for (int s = 0; s < 4; s++) {
            Computer c = Check.with(6 + 8 * s);
            c.put(8 + s, s == 1 ? 64 : 0x0345);
            c.step(1);
            int base = s == 2 ? 16 * 0x345 : 0;
            Check.wordDue("PUSH segment " + s, c, (base + 254) % 1024, s == 1 ? 64 : 0x0345);
            Check.registerDue("PUSH segment " + s, c, Check.SP, 254);
        }
    }

    private static void segmentsPopped() {
        Check.sentence("7, 23, 31: POP ES, SS, DS (15 is UNKNOWN)");
        for (int s = 0; s < 4; s++) {
            Computer c = Check.with(7 + 8 * s);
            Check.write(c, 256, 0x78, 0x56);
            c.step(1);
            Check.due("POP segment " + s, c.interrupts(), s == 1 ? 1 : 0);
            Check.registerDue("POP segment " + s, c, 8 + s, s == 1 ? 0 : 0x5678);
            Check.registerDue("POP segment " + s, c, Check.SP, s == 1 ? 250 : 258);
        }
    }

    private static void nothing() {
        Check.sentence("144: nothing");
        for (int flags : FLAG_SETS) {
            Computer x = Check.with(144);
            x.put(Check.FLAGS, flags);
            x.step(1);
            for (int k = 0; k < 12; k++) {
                Check.registerDue("144", x, k, k == Check.SP ? 256 : 0);
            }
            Check.registerDue("144", x, Check.IP, 513);
            Check.registerDue("144", x, Check.FLAGS, flags);
        }
    }

    private static void flagInstructions() {
        Check.sentence("248 C := 0, 249 C := 1, 250 I := 0, 251 I := 1, 252 D := 0, 253 D := 1");
        int[] flags = {Check.C, Check.I, Check.D};
        for (int i = 0; i < 3; i++) {
            for (int before : FLAG_SETS) {
                Computer c = Check.with(248 + 2 * i, 249 + 2 * i);
                c.put(Check.FLAGS, before);
                c.step(1);
                Check.registerDue("off", c, Check.FLAGS, before & ~flags[i]);
                c.put(Check.FLAGS, before);
                c.step(1);
                Check.registerDue("on", c, Check.FLAGS, before | flags[i]);
            }
        }
    }

    private static void movesLeaveFlags() {
        Check.sentence("Nothing else changes flags");
        int[][] programs = {{136, 0xC1}, {137, 0xC1}, {138, 0xC1}, {139, 0xC1}, {140, 0xC1}, {142, 0xC1}, {141, 7},
            {176, 0}, {184, 0, 0}, {80}, {88}, {6}, {7}, {164}, {165}, {170}, {171}, {172}, {173}, {226, 0}, {232, 0, 0},
            {233, 0, 0}, {235, 0}, {195}, {228, 33}, {230, 33}, {246, 0xD0}, {247, 0xD0}, {112, 0}, {244}, {243, 170}};
        for (int[] program : programs) {
            for (int flags : FLAG_SETS) {
                Computer x = Check.with(program);
                x.put(Check.FLAGS, flags);
                x.put(Check.SI, 300);
                x.put(Check.DI, 300);
                x.step(1);
                Check.registerDue("code " + program[0], x, Check.FLAGS, flags);
                Check.due("code " + program[0] + ": interrupts()", x.interrupts(), 0);
            }
        }
    }
}
