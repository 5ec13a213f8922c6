/** Promise 6: what the arithmetic instructions do, against a plain second reckoning. */
public final class ArithmeticTest {
    private static final int[] BYTES = {0, 1, 2, 15, 85, 127, 128, 129, 170, 254, 255};
    private static final int[] WORDS = {0, 1, 255, 256, 21845, 32767, 32768, 32769, 43690, 65534, 65535};

    public static void main(String[] args) {
        everyOperation();
        edgesOfBytes();
        edgesOfWords();
        formsAndOperands();
        givenOperands();
        countingRegisters();
        countingOperands();
        notAndNegate();
        multiplying();
        Check.end();
    }

    private static int signed(int v, boolean wide) {
        return wide ? (short) v : (byte) v;
    }

    private static int result(int k, int a, int b, int carry, boolean wide) {
        int mask = wide ? 65535 : 255;
        switch (k) {
            case 0: return (a + b) & mask;
            case 1: return a | b;
            case 2: return (a + b + carry) & mask;
            case 3: return (a - b - carry) & mask;
            case 4: return a & b;
            case 6: return a ^ b;
            default: return (a - b) & mask;
        }
    }

    private static int flags(int k, int a, int b, int carry, boolean wide) {
        int mask = wide ? 65535 : 255;
        int half = (mask + 1) / 2;
        int in = k == 2 || k == 3 ? carry : 0;
        int out = 0;
        if (k == 0 || k == 2) {
            int s = signed(a, wide) + signed(b, wide) + in;
            out |= a + b + in > mask ? Check.C : 0;
            out |= s >= half || s < -half ? Check.O : 0;
        } else if (k == 3 || k == 5 || k == 7) {
            int s = signed(a, wide) - signed(b, wide) - in;
            out |= a < b + in ? Check.C : 0;
            out |= s >= half || s < -half ? Check.O : 0;
        }
        int r = result(k, a, b, carry, wide);
        return out | (r == 0 ? Check.Z : 0) | (r >= half ? Check.S : 0);
    }

    private static void everyOperation() {
        Check.sentence("C: a carry or borrow; O: the signed result has no room; Z: it is 0; S: its highest bit");
        for (int k = 0; k < 8; k++) {
            for (int i = 0; i < 11; i++) {
                for (int j = 0; j < 11; j++) {
                    for (int old = 0; old < 2; old++) {
                        accumulator(k, BYTES[i], BYTES[j], old, false);
                        accumulator(k, WORDS[i], WORDS[j], old, true);
                    }
                }
            }
        }
    }

    private static void accumulator(int k, int a, int b, int carry, boolean wide) {
        Computer x = Check.with(8 * k + (wide ? 5 : 4), b & 255, b >> 8);
        x.put(Check.AX, wide ? a : 0xAB00 | a);
        // Flags that the operation sets stand the other way before it.
        int kept = Check.I | Check.D;
        int due = flags(k, a, b, carry, wide);
        x.put(Check.FLAGS, kept | carry | (~due & (Check.O | Check.Z | Check.S)));
        x.step(1);
        String what = "operation " + k + " of " + a + ", " + b + " carry " + carry + (wide ? " wide" : "");
        int want = k == 7 ? a : result(k, a, b, carry, wide);
        Check.registerDue(what, x, Check.AX, wide ? want : 0xAB00 | want);
        Check.registerDue(what, x, Check.FLAGS, kept | due);
        Check.registerDue(what, x, Check.IP, wide ? 515 : 514);
    }

    /** Operation, operands, carry before, result and flags, written out. */
    private static void edgesOfBytes() {
        Check.sentence("C: a carry or borrow; O: the signed result has no room; Z: it is 0; S: its highest bit");
        int c = Check.C, z = Check.Z, s = Check.S, o = Check.O;
        int[][] rows = {
            {0, 254, 1, 1, 255, s}, {0, 255, 1, 0, 0, c | z}, {0, 127, 1, 0, 128, s | o}, {0, 126, 1, 0, 127, 0},
            {0, 128, 128, 0, 0, c | z | o}, {0, 128, 127, 0, 255, s}, {0, 255, 255, 0, 254, c | s}, {0, 0, 0, 1, 0, z},
            {0, 128, 255, 0, 127, c | o}, {2, 254, 0, 1, 255, s}, {2, 255, 0, 1, 0, c | z}, {2, 127, 0, 1, 128, s | o},
            {2, 255, 255, 1, 255, c | s}, {2, 127, 128, 1, 0, c | z}, {2, 128, 255, 1, 128, c | s},
            {2, 255, 0, 0, 255, s}, {3, 0, 0, 1, 255, c | s}, {3, 1, 0, 1, 0, z}, {3, 0, 255, 1, 0, c | z},
            {3, 128, 0, 1, 127, o}, {3, 127, 255, 1, 127, c}, {3, 127, 255, 0, 128, c | s | o}, {3, 128, 127, 1, 0, z | o},
            {3, 5, 5, 0, 0, z}, {3, 255, 255, 1, 255, c | s}, {5, 0, 1, 0, 255, c | s}, {5, 0, 0, 1, 0, z},
            {5, 128, 1, 0, 127, o}, {5, 127, 255, 0, 128, c | s | o}, {5, 255, 255, 0, 0, z}, {5, 0, 128, 0, 128, c | s | o},
            {5, 1, 128, 0, 129, c | s | o}, {5, 255, 127, 0, 128, s}, {7, 0, 1, 0, 0, c | s}, {7, 9, 9, 1, 9, z},
            {7, 128, 1, 0, 128, o}, {4, 255, 0, 1, 0, z}, {4, 255, 128, 1, 128, s}, {1, 0, 0, 1, 0, z},
            {1, 127, 128, 1, 255, s}, {6, 255, 255, 1, 0, z}, {6, 127, 255, 1, 128, s}};
        for (int[] row : rows) {
            Computer x = Check.with(8 * row[0] + 4, row[2]);
            x.put(Check.AX, 0x5500 | row[1]);
            x.put(Check.FLAGS, row[3]);
            x.step(1);
            String what = "operation " + row[0] + " of bytes " + row[1] + ", " + row[2] + " with C " + row[3];
            Check.registerDue(what, x, Check.AX, 0x5500 | row[4]);
            Check.registerDue(what, x, Check.FLAGS, row[5]);
        }
    }

    private static void edgesOfWords() {
        Check.sentence("C: a carry or borrow; O: the signed result has no room; Z: it is 0; S: its highest bit");
        int c = Check.C, z = Check.Z, s = Check.S, o = Check.O;
        int[][] rows = {
            {0, 65535, 1, 0, 0, c | z}, {0, 65534, 1, 1, 65535, s}, {0, 32767, 1, 0, 32768, s | o}, {0, 255, 1, 0, 256, 0},
            {0, 127, 1, 0, 128, 0}, {0, 32768, 32768, 0, 0, c | z | o}, {2, 65535, 0, 1, 0, c | z},
            {2, 65535, 65535, 1, 65535, c | s}, {2, 32767, 0, 1, 32768, s | o}, {2, 32767, 32768, 1, 0, c | z},
            {3, 0, 65535, 1, 0, c | z}, {3, 0, 0, 1, 65535, c | s}, {3, 32768, 0, 1, 32767, o}, {5, 0, 1, 0, 65535, c | s},
            {5, 256, 1, 0, 255, 0}, {5, 128, 1, 0, 127, 0}, {5, 32768, 1, 0, 32767, o}, {5, 0, 32768, 0, 32768, c | s | o},
            {7, 32767, 65535, 0, 32767, c | s | o}, {7, 65535, 65535, 1, 65535, z}, {4, 65280, 255, 1, 0, z},
            {1, 32768, 1, 1, 32769, s}, {6, 65535, 32767, 1, 32768, s}, {1, 128, 0, 1, 128, 0}};
        for (int[] row : rows) {
            Computer x = Check.with(8 * row[0] + 5, row[2] & 255, row[2] >> 8);
            x.put(Check.AX, row[1]);
            x.put(Check.FLAGS, row[3]);
            x.step(1);
            String what = "operation " + row[0] + " of words " + row[1] + ", " + row[2] + " with C " + row[3];
            Check.registerDue(what, x, Check.AX, row[4]);
            Check.registerDue(what, x, Check.FLAGS, row[5]);
        }
    }

    private static void formsAndOperands() {
        Check.sentence("8 * k + 0: E b, R b. + 1: E w, R w. + 2: R b, E b. + 3: R w, E w. The first one becomes");
        for (int k = 0; k < 8; k++) {
            for (int form = 0; form < 4; form++) {
                for (int i = 0; i < 11; i += 2) {
                    for (int j = 0; j < 11; j += 2) {
                        boolean wide = form % 2 == 1;
                        int[] values = wide ? WORDS : BYTES;
                        inMemory(k, form, values[i], values[j], wide);
                        inRegisters(k, form, values[i], values[j], wide);
                    }
                }
            }
        }
    }

    /** E is at 300, R is CX or CL; the byte behind E and the higher half of R stay, where bytes are meant. */
    private static void inMemory(int k, int form, int e, int r, boolean wide) {
        Computer x = Check.with(8 * k + form, 8 * Check.CX + 7);
        x.put(Check.BX, 300);
        x.put(Check.CX, wide ? r : 0x6600 | r);
        Check.write(x, 300, e & 255, wide ? e >> 8 : 0x44, 0x33);
        x.put(Check.FLAGS, Check.C);
        x.step(1);
        int a = form < 2 ? e : r;
        int b = form < 2 ? r : e;
        int first = k == 7 ? a : result(k, a, b, 1, wide);
        int eDue = form < 2 ? first : e;
        int rDue = form < 2 ? r : first;
        String what = "code " + (8 * k + form) + " of " + e + ", " + r;
        Check.wordDue(what + ": E", x, 300, wide ? eDue : 0x4400 | eDue);
        Check.due(what + ": behind E", x.peek(302), 0x33);
        Check.registerDue(what + ": R", x, Check.CX, wide ? rDue : 0x6600 | rDue);
        Check.registerDue(what, x, Check.FLAGS, flags(k, a, b, 1, wide));
        Check.registerDue(what, x, Check.IP, 514);
    }

    /** E is DX or DL, R is SI or DH (register 6), which are apart from each other. */
    private static void inRegisters(int k, int form, int e, int r, boolean wide) {
        Computer x = Check.with(8 * k + form, 0xC0 + 8 * 6 + 2);
        x.put(Check.DX, wide ? e : r << 8 | e);
        x.put(Check.SI, wide ? r : 0x2222);
        x.step(1);
        int a = form < 2 ? e : r;
        int b = form < 2 ? r : e;
        int first = k == 7 ? a : result(k, a, b, 0, wide);
        int eDue = form < 2 ? first : e;
        int rDue = form < 2 ? r : first;
        String what = "code " + (8 * k + form) + " of registers " + e + ", " + r;
        Check.registerDue(what, x, Check.DX, wide ? eDue : rDue << 8 | eDue);
        Check.registerDue(what, x, Check.SI, wide ? rDue : 0x2222);
        Check.registerDue(what, x, Check.FLAGS, flags(k, a, b, 0, wide));
    }

    private static void givenOperands() {
        Check.sentence("128: E b, ib; 129: E w, iw; 131: E w, sb: the same with k = r");
        for (int k = 0; k < 8; k++) {
            for (int i = 0; i < 11; i++) {
                for (int j = 0; j < 11; j++) {
                    given(128, k, BYTES[i], BYTES[j]);
                    given(129, k, WORDS[i], WORDS[j]);
                    given(131, k, WORDS[i], BYTES[j]);
                }
            }
        }
    }

    /** E is in memory, at a place that a word tells, so that the given operand stands behind that word. */
    private static void given(int code, int k, int e, int operand) {
        boolean wide = code != 128;
        Computer x = Check.with(code, 8 * k + 6, 44, 1, operand & 255, operand >> 8);
        Check.write(x, 300, e & 255, wide ? e >> 8 : 0x44);
        x.put(Check.FLAGS, Check.C);
        x.step(1);
        int b = code == 131 ? (byte) operand & 65535 : operand;
        int want = k == 7 ? e : result(k, e, b, 1, wide);
        String what = "code " + code + ", r " + k + " of " + e + ", " + operand;
        Check.wordDue(what, x, 300, wide ? want : 0x4400 | want);
        Check.registerDue(what, x, Check.FLAGS, flags(k, e, b, 1, wide));
        Check.registerDue(what, x, Check.IP, code == 129 ? 518 : 517);
        Check.due(what + ": interrupts()", x.interrupts(), 0);
    }

    private static void countingRegisters() {
        Check.sentence("64 + x: INC, 72 + x: DEC of register x; as ADD, SUB of 1, but C stays");
        for (int k = 0; k < 8; k++) {
            for (int carry = 0; carry < 2; carry++) {
                for (int a : WORDS) {
                    Computer x = Check.with(64 + k);
                    x.put(k, a);
                    x.put(Check.FLAGS, carry);
                    x.step(1);
                    Check.registerDue("INC " + k + " of " + a, x, k, (a + 1) & 65535);
                    Check.registerDue("INC " + k + " of " + a, x, Check.FLAGS, flags(0, a, 1, 0, true) & ~Check.C | carry);
                    x = Check.with(72 + k);
                    x.put(k, a);
                    x.put(Check.FLAGS, carry);
                    x.step(1);
                    Check.registerDue("DEC " + k + " of " + a, x, k, (a - 1) & 65535);
                    Check.registerDue("DEC " + k + " of " + a, x, Check.FLAGS, flags(5, a, 1, 0, true) & ~Check.C | carry);
                }
            }
        }
    }

    private static void countingOperands() {
        Check.sentence("254, 255: r = 0 INC, r = 1 DEC of E");
        for (int i = 0; i < BYTES.length; i++) {
            for (int down = 0; down < 2; down++) {
                int k = down == 0 ? 0 : 5;
                Computer x = Check.with(254, 8 * down + 7, 255, 0xC1 + 8 * down);
                x.put(Check.BX, 700);
                x.poke(700, BYTES[i]);
                x.poke(701, 77);
                x.put(Check.CX, WORDS[i]);
                x.put(Check.FLAGS, Check.C);
                x.step(1);
                Check.due("254 " + down, x.peek(700), result(k, BYTES[i], 1, 0, false));
                Check.due("254 next byte", x.peek(701), 77);
                Check.registerDue("254 " + down, x, Check.FLAGS, flags(k, BYTES[i], 1, 0, false) | Check.C);
                x.put(Check.FLAGS, 0);
                x.step(1);
                Check.registerDue("255 " + down, x, Check.CX, result(k, WORDS[i], 1, 0, true));
                Check.registerDue("255 " + down, x, Check.FLAGS, flags(k, WORDS[i], 1, 0, true) & ~Check.C);
            }
        }
    }

    private static void notAndNegate() {
        Check.sentence("r = 2 all its bits turned over; 3 it becomes 0 less it");
        for (int i = 0; i < BYTES.length; i++) {
            Computer x = Check.with(246, 0xD4, 247, 0x16, 88, 2, 246, 0xDC, 247, 0x1E, 88, 2);
            x.put(Check.AX, BYTES[i] << 8 | 0x5A);
            Check.write(x, 600, WORDS[i] & 255, WORDS[i] >> 8);
            x.put(Check.FLAGS, Check.ALL_FLAGS);
            x.step(2);
            Check.registerDue("NOT", x, Check.AX, (BYTES[i] ^ 255) << 8 | 0x5A);
            Check.wordDue("NOT", x, 600, WORDS[i] ^ 65535);
            Check.registerDue("NOT changes no flags", x, Check.FLAGS, Check.ALL_FLAGS);
            x.put(Check.FLAGS, 0);
            x.step(1);
            Check.registerDue("0 less it", x, Check.AX, (-(BYTES[i] ^ 255) & 255) << 8 | 0x5A);
            Check.registerDue("0 less it", x, Check.FLAGS, flags(5, 0, BYTES[i] ^ 255, 0, false));
            x.step(1);
            Check.wordDue("0 less it", x, 600, -(WORDS[i] ^ 65535) & 65535);
            Check.registerDue("0 less it", x, Check.FLAGS, flags(5, 0, WORDS[i] ^ 65535, 0, true));
        }
    }

    private static void multiplying() {
        Check.sentence("4 MUL: AX := AL * E, or DX, AX := AX * E, without sign; C and O: the higher half is not 0");
        for (int i = 0; i < 11; i++) {
            for (int j = 0; j < 11; j++) {
                Computer x = Check.with(246, 0xE1, 247, 0xE3);
                x.put(Check.AX, 0xEE00 | BYTES[i]);
                x.put(Check.CX, 0xDD00 | BYTES[j]);
                x.put(Check.FLAGS, Check.Z | Check.S | (i & 1));
                x.step(1);
                int product = BYTES[i] * BYTES[j];
                Check.registerDue("MUL b", x, Check.AX, product);
                Check.registerDue("MUL b", x, Check.DX, 0);
                Check.registerDue("MUL b", x, Check.FLAGS, Check.Z | Check.S | (product > 255 ? Check.C | Check.O : 0));
                x.put(Check.AX, WORDS[i]);
                x.put(Check.BX, WORDS[j]);
                x.put(Check.DX, 999);
                x.put(Check.FLAGS, Check.O | Check.I);
                x.step(1);
                long wideProduct = (long) WORDS[i] * WORDS[j];
                Check.registerDue("MUL w", x, Check.AX, (int) (wideProduct % 65536));
                Check.registerDue("MUL w", x, Check.DX, (int) (wideProduct / 65536));
                Check.registerDue("MUL w", x, Check.FLAGS, Check.I | (wideProduct > 65535 ? Check.C | Check.O : 0));
            }
        }
    }
}
