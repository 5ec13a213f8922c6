/** Promise 6: operands, prefixes, moves, the stack and the flag instructions. */
public final class MoveTest {
    public static void main(String[] args) {
        byteRegisters();
        offsets();
        segmentsOfOperands();
        prefixes();
        movesOfSegments();
        loadedOffsets();
        addressesWrap();
        stack();
        flagInstructions();
        Check.end();
    }

    private static void byteRegisters() {
        for (int k = 0; k < 8; k++) {
            SmallComputer x = Check.ran(2, 176 + k, 0x9A, 184 + k, 0x34, 0x92);
            Check.registerDue("184 + " + k, x, k, 0x9234);
            x = Check.with(176 + k, 0x9A, 136, 0xC0 + 8 * k + (k ^ 1), 138, 0xC0 + 8 * (k ^ 5) + k);
            for (int i = 0; i < 4; i++) {
                x.put(i, 0x1133);
            }
            x.step(1);
            Check.registerDue("176 + " + k, x, k & 3, k < 4 ? 0x119A : 0x9A33);
            x.step(1);
            Check.registerDue("136 from " + k, x, (k & 3) ^ 1, k < 4 ? 0x119A : 0x9A33);
            x.step(1);
            // The other half of the neighbour's register is written too.
            Check.registerDue("138 from " + k, x, (k & 3) ^ 1, 0x9A9A);
        }
        SmallComputer x = Check.ran(1, 144);
        Check.registerDue("144", x, Check.IP, 513);
        Check.registerDue("144", x, Check.FLAGS, 0);
    }

    private static final int BX = 100, SI = 20, DI = 7, BP = 200;

    private static SmallComputer based(int... program) {
        SmallComputer x = Check.with(program);
        x.put(Check.BX, BX);
        x.put(Check.SI, SI);
        x.put(Check.DI, DI);
        x.put(Check.BP, BP);
        return x;
    }

    private static void offsets() {
        int[] base = {BX + SI, BX + DI, BP + SI, BP + DI, SI, DI, BP, BX};
        for (int x = 0; x < 8; x++) {
            SmallComputer c = based(137, x, 0x2C, 0x01);
            c.put(Check.AX, 0x1234);
            c.step(1);
            Check.wordDue("m 0, x " + x, c, x == 6 ? 300 : base[x], 0x1234);
            Check.registerDue("m 0, x " + x, c, Check.IP, x == 6 ? 516 : 514);
            c = based(139, 64 + x, 256 - 5);
            Check.write(c, base[x] - 5, 0x78, 0x56);
            c.step(1);
            Check.registerDue("m 1, x " + x, c, Check.AX, 0x5678);
            Check.registerDue("m 1, x " + x, c, Check.IP, 515);
            c = based(139, 64 + x, 127);
            Check.write(c, base[x] + 127, 0x79, 0x56);
            c.step(1);
            Check.registerDue("m 1 up, x " + x, c, Check.AX, 0x5679);
            c = based(139, 128 + x, 0x2C, 0x81);
            Check.write(c, (base[x] + 0x812C) % 1024, 0xBC, 0x9A);
            c.step(1);
            Check.registerDue("m 2, x " + x, c, Check.AX, 0x9ABC);
            Check.registerDue("m 2, x " + x, c, Check.IP, 516);
        }
    }

    private static void segmentsOfOperands() {
        for (int m = 0; m < 3; m++) {
            for (int x = 0; x < 8; x++) {
                SmallComputer c = Check.with(138, 64 * m + x, 0, 0);
                c.put(Check.SS, 40);
                c.put(Check.DS, 50);
                c.poke(640, 2);
                c.poke(800, 3);
                c.step(1);
                boolean usesBp = x == 2 || x == 3 || (x == 6 && m != 0);
                Check.registerDue("segment of m " + m + ", x " + x, c, Check.AX, usesBp ? 2 : 3);
            }
        }
    }

    private static void prefixes() {
        int[] codes = {38, 46, 54, 62};
        for (int p = 0; p < 4; p++) {
            for (int x = 0; x < 8; x++) {
                // CS is 0, so that the program is found; its prefix reaches address 0.
                SmallComputer c = Check.with(codes[p], 138, x, 0, 0);
                c.put(Check.ES, 40);
                c.put(Check.SS, 50);
                c.put(Check.DS, 60);
                Check.write(c, 0, 11);
                Check.write(c, 640, 10);
                Check.write(c, 800, 12);
                Check.write(c, 960, 13);
                c.step(1);
                Check.registerDue("prefix " + codes[p] + ", x " + x, c, Check.AX, 10 + p);
            }
        }
        SmallComputer c = Check.with(38, 46, 54, 138, 7);
        c.put(Check.ES, 40);
        c.put(Check.SS, 50);
        c.poke(800, 12);
        c.step(1);
        Check.registerDue("the last of three prefixes", c, Check.AX, 12);
        Check.due("three prefixes", c.interrupts(), 0);
        // A prefix counts for its own instruction alone.
        c = Check.ran(2, 54, 144, 138, 7);
        Check.registerDue("a prefix before", c, Check.AX, 0);
        c = Check.with(54, 144, 138, 7);
        c.put(Check.SS, 50);
        c.put(Check.DS, 60);
        c.poke(800, 12);
        c.poke(960, 13);
        c.step(2);
        Check.registerDue("a prefix of the instruction before", c, Check.AX, 13);
        c = Check.ran(1, 243, 242, 64);
        Check.registerDue("243 says nothing before INC", c, Check.AX, 1);
        Check.registerDue("243 says nothing before INC", c, Check.CX, 0);
        Check.registerDue("243 says nothing before INC", c, Check.IP, 515);
    }

    private static void movesOfSegments() {
        for (int r = 0; r < 8; r++) {
            SmallComputer c = Check.with(140, 0xC0 + 8 * r + 3, 142, 0xC0 + 8 * r + 6);
            for (int s = 8; s < 12; s++) {
                c.put(s, s == Check.CS ? 64 : 0x1230 + s);
            }
            c.put(Check.BX, 1);
            c.put(Check.SI, 0x4567);
            c.put(Check.IP, 512);
            c.step(1);
            Check.registerDue("140 with " + r, c, Check.BX, r % 4 == 1 ? 64 : 0x1238 + r % 4);
            c.step(1);
            if (r % 4 == 1) {
                Check.due("142 to CS", c.interrupts(), 1);
            } else {
                Check.registerDue("142 with " + r, c, 8 + r % 4, 0x4567);
                Check.due("142 with " + r, c.interrupts(), 0);
            }
        }
        SmallComputer c = Check.with(140, 0x1E, 44, 1, 142, 0x06, 44, 1);
        c.put(Check.DS, 0x0340);
        c.step(1);
        Check.wordDue("140 to memory", c, (16 * 0x340 + 300) % 1024, 0x0340);
        c.step(1);
        Check.registerDue("142 from memory", c, Check.ES, 0x0340);
    }

    private static void loadedOffsets() {
        SmallComputer c = Check.with(54, 141, 0x40 + 8 * 4 + 3, 0x80);
        c.put(Check.BP, 100);
        c.put(Check.DI, 20);
        c.put(Check.SS, 7);
        c.step(1);
        Check.registerDue("141", c, Check.SP, (120 - 128) & 65535);
        c = Check.ran(1, 141, 0x06, 0x34, 0x12);
        Check.registerDue("141 of a word", c, Check.AX, 0x1234);
        c = Check.ran(1, 141, 0xC0);
        Check.due("141 with m 3", c.interrupts(), 1);
        Check.wordDue("141 with m 3: IP", c, 250, 512);
    }

    private static void addressesWrap() {
        SmallComputer c = Check.with(137, 0x07);
        c.put(Check.AX, 0xABCD);
        c.put(Check.BX, 65535);
        c.put(Check.DS, 3);
        c.step(1);
        Check.due("lower byte", c.peek(47), 0xCD);
        Check.due("higher byte", c.peek(48), 0xAB);
        c = Check.with(139, 0x07);
        c.put(Check.BX, 1023);
        Check.write(c, 1023, 0x11);
        Check.write(c, 0, 0x22);
        c.step(1);
        Check.registerDue("a word over the end", c, Check.AX, 0x2211);
        c = Check.with();
        c.put(Check.CS, 65535);
        c.put(Check.IP, 65535);
        // 16 * 65535 + 65535 mod 1024 is 1007.
        Check.write(c, 1007, 184, 0x34, 0x12);
        c.step(1);
        Check.registerDue("IP wraps", c, Check.AX, 0x1234);
        Check.registerDue("IP wraps", c, Check.IP, 2);
    }

    private static void stack() {
        for (int k = 0; k < 8; k++) {
            SmallComputer c = Check.with(80 + k);
            c.put(k, 0x0234);
            c.put(Check.SS, 2);
            c.step(1);
            int sp = k == 4 ? 0x0232 : 254;
            Check.registerDue("PUSH " + k, c, Check.SP, sp);
            Check.wordDue("PUSH " + k, c, (32 + sp) % 1024, 0x0234);
            c = Check.with(88 + k);
            Check.write(c, 256 + 32, 0x78, 0x56);
            c.put(Check.SS, 2);
            c.step(1);
            Check.registerDue("POP " + k, c, k, 0x5678);
            Check.registerDue("POP " + k, c, Check.SP, k == 4 ? 0x5678 : 258);
        }
        for (int s = 0; s < 4; s++) {
            SmallComputer c = Check.with(6 + 8 * s);
            c.put(8 + s, s == 1 ? 64 : 0x0345);
            c.step(1);
            int base = s == 2 ? 16 * 0x345 : 0;
            Check.wordDue("PUSH segment " + s, c, (base + 254) % 1024, s == 1 ? 64 : 0x0345);
            c = Check.with(7 + 8 * s);
            Check.write(c, 256, 0x78, 0x56);
            c.step(1);
            Check.due("POP segment " + s, c.interrupts(), s == 1 ? 1 : 0);
            Check.registerDue("POP segment " + s, c, 8 + s, s == 1 ? 0 : 0x5678);
            Check.registerDue("POP segment " + s, c, Check.SP, s == 1 ? 250 : 258);
        }
        SmallComputer c = Check.with(80, 88);
        c.put(Check.SP, 0);
        c.put(Check.AX, 0x1122);
        c.step(1);
        Check.registerDue("SP wraps", c, Check.SP, 65534);
        Check.wordDue("SP wraps", c, 1022, 0x1122);
        c.step(1);
        Check.registerDue("SP wraps back", c, Check.SP, 0);
        c = Check.with(80, 89);
        c.put(Check.SP, 1);
        c.put(Check.AX, 0x3344);
        c.step(1);
        Check.registerDue("an odd SP", c, Check.SP, 65535);
        Check.due("a word over the end", c.peek(1023), 0x44);
        Check.due("a word over the end", c.peek(0), 0x33);
        c.step(1);
        Check.registerDue("an odd SP", c, Check.SP, 1);
        Check.registerDue("a word over the end", c, Check.CX, 0x3344);
    }

    private static void flagInstructions() {
        int[] flags = {Check.C, Check.I, Check.D};
        for (int i = 0; i < 3; i++) {
            SmallComputer c = Check.with(248 + 2 * i, 249 + 2 * i);
            c.put(Check.FLAGS, 3777);
            c.step(1);
            Check.registerDue("off", c, Check.FLAGS, 3777 - flags[i]);
            c.put(Check.FLAGS, 0);
            c.step(1);
            Check.registerDue("on", c, Check.FLAGS, flags[i]);
        }
    }
}
