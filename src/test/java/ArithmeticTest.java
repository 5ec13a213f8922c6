/** Promise 6: what the arithmetic instructions do, against a plain second reckoning. */
public final class ArithmeticTest {
    private static final int[] BYTES = {0, 1, 2, 15, 85, 127, 128, 129, 170, 254, 255};
    private static final int[] WORDS = {0, 1, 255, 256, 21845, 32767, 32768, 32769, 43690, 65534, 65535};

    public static void main(String[] args) {
        everyOperation();
        formsAndOperands();
        givenOperands();
        countingRegisters();
        countingOperands();
        notAndNegate();
        multiplying();
        dividing();
        divisionFaults();
        Check.end();
    }

    private static int signed(int v, boolean wide) {
        return wide ? (short) v : (byte) v;
    }

    private static int result(int k, int a, int b, int carry, boolean wide) {
        int mask = wide ? 65535 : 255;
        switch (k) {
            case 0: return (a + b) & mask;
            case 1: return a | b;
            case 2: return (a + b + carry) & mask;
            case 3: return (a - b - carry) & mask;
            case 4: return a & b;
            case 6: return a ^ b;
            default: return (a - b) & mask;
        }
    }

    private static int flags(int k, int a, int b, int carry, boolean wide) {
        int mask = wide ? 65535 : 255;
        int half = (mask + 1) / 2;
        int in = k == 2 || k == 3 ? carry : 0;
        int out = 0;
        if (k == 0 || k == 2) {
            int s = signed(a, wide) + signed(b, wide) + in;
            out |= a + b + in > mask ? Check.C : 0;
            out |= s >= half || s < -half ? Check.O : 0;
        } else if (k == 3 || k == 5 || k == 7) {
            int s = signed(a, wide) - signed(b, wide) - in;
            out |= a < b + in ? Check.C : 0;
            out |= s >= half || s < -half ? Check.O : 0;
        }
        int r = result(k, a, b, carry, wide);
        return out | (r == 0 ? Check.Z : 0) | (r >= half ? Check.S : 0);
    }

    private static void everyOperation() {
        for (int k = 0; k < 8; k++) {
            for (int i = 0; i < 11; i++) {
                for (int j = 0; j < 11; j++) {
                    for (int old = 0; old < 2; old++) {
                        accumulator(k, BYTES[i], BYTES[j], old, false);
                        accumulator(k, WORDS[i], WORDS[j], old, true);
                    }
                }
            }
        }
    }

    private static void accumulator(int k, int a, int b, int carry, boolean wide) {
        SmallComputer x = Check.with(8 * k + (wide ? 5 : 4), b & 255, b >> 8);
        x.put(Check.AX, wide ? a : 0xAB00 | a);
        // Flags that the operation sets stand the other way before it.
        int kept = Check.I | Check.D;
        int due = flags(k, a, b, carry, wide);
        x.put(Check.FLAGS, kept | carry | (~due & (Check.O | Check.Z | Check.S)));
        x.step(1);
        String what = "operation " + k + " of " + a + ", " + b + " carry " + carry + (wide ? " wide" : "");
        int want = k == 7 ? a : result(k, a, b, carry, wide);
        Check.registerDue(what, x, Check.AX, wide ? want : 0xAB00 | want);
        Check.registerDue(what, x, Check.FLAGS, kept | due);
        Check.registerDue(what, x, Check.IP, wide ? 515 : 514);
    }

    private static void formsAndOperands() {
        // SUB in its four forms with a modrm; BX is 300, so that the operand is at 300.
        SmallComputer x = Check.with(40, 15, 41, 15, 42, 15, 43, 15);
        x.put(Check.BX, 300);
        Check.write(x, 300, 0x30, 0x40);
        x.put(Check.CX, 0x1210);
        x.step(1);
        Check.wordDue("E b less R b", x, 300, 0x4020);
        x.step(1);
        Check.wordDue("E w less R w", x, 300, 0x2E10);
        x.step(1);
        Check.registerDue("R b less E b", x, Check.CX, 0x1200);
        Check.registerDue("R b less E b", x, Check.FLAGS, Check.Z);
        x.step(1);
        Check.registerDue("R w less E w", x, Check.CX, (0x1200 - 0x2E10) & 65535);
        Check.wordDue("E stays", x, 300, 0x2E10);
        // CMP changes neither.
        x = Check.ran(2, 57, 216, 56, 251);
        Check.registerDue("CMP", x, Check.AX, 0);
        Check.registerDue("CMP", x, Check.BX, 0);
        Check.registerDue("CMP", x, Check.FLAGS, Check.Z);
    }

    private static void givenOperands() {
        int[] memoryByR = new int[8];
        for (int k = 0; k < 8; k++) {
            SmallComputer x = Check.with(128, 8 * k + 6, 44, 1, 0x81, 129, 0xC3 + 8 * k, 0x34, 0x92, 131, 0xC6 + 8 * k, 0xF0);
            x.poke(300, 0x7F);
            x.put(Check.BX, 0x8234);
            x.put(Check.SI, 0x00F1);
            x.step(1);
            memoryByR[k] = k == 7 ? 0x7F : result(k, 0x7F, 0x81, 0, false);
            Check.due("128 with " + k, x.peek(300), memoryByR[k]);
            Check.registerDue("128 with " + k, x, Check.FLAGS, flags(k, 0x7F, 0x81, 0, false));
            x.put(Check.FLAGS, Check.C);
            x.step(1);
            Check.registerDue("129 with " + k, x, Check.BX, k == 7 ? 0x8234 : result(k, 0x8234, 0x9234, 1, true));
            Check.registerDue("129 with " + k, x, Check.FLAGS, flags(k, 0x8234, 0x9234, 1, true));
            x.put(Check.FLAGS, Check.C);
            x.step(1);
            Check.registerDue("131 with " + k, x, Check.SI, k == 7 ? 0xF1 : result(k, 0xF1, 0xFFF0, 1, true));
            Check.registerDue("131 with " + k, x, Check.FLAGS, flags(k, 0xF1, 0xFFF0, 1, true));
            Check.registerDue("given operands with " + k, x, Check.IP, 524);
            x = Check.with(131, 0xC6 + 8 * k, 0x7F);
            x.put(Check.SI, 0x8000);
            x.step(1);
            Check.registerDue("131 up with " + k, x, Check.SI, k == 7 ? 0x8000 : result(k, 0x8000, 0x7F, 0, true));
            Check.registerDue("131 up with " + k, x, Check.FLAGS, flags(k, 0x8000, 0x7F, 0, true));
            Check.due("interrupts", x.interrupts(), 0);
        }
    }

    private static void countingRegisters() {
        for (int k = 0; k < 8; k++) {
            for (int carry = 0; carry < 2; carry++) {
                for (int a : WORDS) {
                    SmallComputer x = Check.with(64 + k);
                    x.put(k, a);
                    x.put(Check.FLAGS, carry);
                    x.step(1);
                    Check.registerDue("INC " + k + " of " + a, x, k, (a + 1) & 65535);
                    Check.registerDue("INC " + k + " of " + a, x, Check.FLAGS, flags(0, a, 1, 0, true) & ~Check.C | carry);
                    x = Check.with(72 + k);
                    x.put(k, a);
                    x.put(Check.FLAGS, carry);
                    x.step(1);
                    Check.registerDue("DEC " + k + " of " + a, x, k, (a - 1) & 65535);
                    Check.registerDue("DEC " + k + " of " + a, x, Check.FLAGS, flags(5, a, 1, 0, true) & ~Check.C | carry);
                }
            }
        }
    }

    private static void countingOperands() {
        for (int i = 0; i < BYTES.length; i++) {
            for (int down = 0; down < 2; down++) {
                int k = down == 0 ? 0 : 5;
                SmallComputer x = Check.with(254, 8 * down + 7, 255, 0xC1 + 8 * down);
                x.put(Check.BX, 700);
                x.poke(700, BYTES[i]);
                x.poke(701, 77);
                x.put(Check.CX, WORDS[i]);
                x.put(Check.FLAGS, Check.C);
                x.step(1);
                Check.due("254 " + down, x.peek(700), result(k, BYTES[i], 1, 0, false));
                Check.due("254 next byte", x.peek(701), 77);
                Check.registerDue("254 " + down, x, Check.FLAGS, flags(k, BYTES[i], 1, 0, false) | Check.C);
                x.put(Check.FLAGS, 0);
                x.step(1);
                Check.registerDue("255 " + down, x, Check.CX, result(k, WORDS[i], 1, 0, true));
                Check.registerDue("255 " + down, x, Check.FLAGS, flags(k, WORDS[i], 1, 0, true) & ~Check.C);
            }
        }
    }

    private static void notAndNegate() {
        for (int i = 0; i < BYTES.length; i++) {
            SmallComputer x = Check.with(246, 0xD4, 247, 0x16, 88, 2, 246, 0xDC, 247, 0x1E, 88, 2);
            x.put(Check.AX, BYTES[i] << 8 | 0x5A);
            Check.write(x, 600, WORDS[i] & 255, WORDS[i] >> 8);
            x.put(Check.FLAGS, 3777);
            x.step(2);
            Check.registerDue("NOT", x, Check.AX, (BYTES[i] ^ 255) << 8 | 0x5A);
            Check.wordDue("NOT", x, 600, WORDS[i] ^ 65535);
            Check.registerDue("NOT changes no flags", x, Check.FLAGS, 3777);
            x.put(Check.FLAGS, 0);
            x.step(1);
            Check.registerDue("0 less it", x, Check.AX, (-(BYTES[i] ^ 255) & 255) << 8 | 0x5A);
            Check.registerDue("0 less it", x, Check.FLAGS, flags(5, 0, BYTES[i] ^ 255, 0, false));
            x.step(1);
            Check.wordDue("0 less it", x, 600, -(WORDS[i] ^ 65535) & 65535);
            Check.registerDue("0 less it", x, Check.FLAGS, flags(5, 0, WORDS[i] ^ 65535, 0, true));
        }
    }

    private static void multiplying() {
        for (int i = 0; i < 11; i++) {
            for (int j = 0; j < 11; j++) {
                SmallComputer x = Check.with(246, 0xE1, 247, 0xE3);
                x.put(Check.AX, 0xEE00 | BYTES[i]);
                x.put(Check.CX, 0xDD00 | BYTES[j]);
                x.put(Check.FLAGS, Check.Z | Check.S | (i & 1));
                x.step(1);
                int product = BYTES[i] * BYTES[j];
                Check.registerDue("MUL b", x, Check.AX, product);
                Check.registerDue("MUL b", x, Check.DX, 0);
                Check.registerDue("MUL b", x, Check.FLAGS, Check.Z | Check.S | (product > 255 ? Check.C | Check.O : 0));
                x.put(Check.AX, WORDS[i]);
                x.put(Check.BX, WORDS[j]);
                x.put(Check.DX, 999);
                x.put(Check.FLAGS, Check.O | Check.I);
                x.step(1);
                long wideProduct = (long) WORDS[i] * WORDS[j];
                Check.registerDue("MUL w", x, Check.AX, (int) (wideProduct % 65536));
                Check.registerDue("MUL w", x, Check.DX, (int) (wideProduct / 65536));
                Check.registerDue("MUL w", x, Check.FLAGS, Check.I | (wideProduct > 65535 ? Check.C | Check.O : 0));
            }
        }
    }

    private static void dividing() {
        for (int i = 1; i < 11; i++) {
            for (int j = 0; j < 11; j++) {
                for (int k = 0; k < 11; k++) {
                    divided(BYTES[i], BYTES[j], BYTES[k], false);
                    divided(WORDS[i], WORDS[j], WORDS[k], true);
                }
            }
        }
        divisionEdges();
    }

    /** A whole made of its divisor, quotient and rest, where the rest is less than the divisor. */
    private static void divided(int divisor, int quotient, int rest, boolean wide) {
        if (rest >= divisor) {
            return;
        }
        SmallComputer x = Check.with(wide ? 247 : 246, 0xF1);
        long whole = (long) divisor * quotient + rest;
        x.put(Check.AX, (int) (whole & 65535));
        x.put(Check.DX, wide ? (int) (whole >> 16) : 4321);
        x.put(Check.CX, divisor);
        x.step(1);
        String what = "DIV of " + whole + " by " + divisor;
        Check.registerDue(what, x, Check.AX, wide ? quotient : 256 * rest + quotient);
        Check.registerDue(what, x, Check.DX, wide ? rest : 4321);
        Check.due(what + ": interrupts()", x.interrupts(), 0);
    }

    private static void divisionEdges() {
        SmallComputer x = Check.with(246, 0xF1, 247, 0xF3, 246, 0xF4);
        x.put(Check.AX, 255 * 200 + 199);
        x.put(Check.CX, 200);
        x.put(Check.FLAGS, 3777);
        x.step(1);
        Check.registerDue("DIV b", x, Check.AX, 199 << 8 | 255);
        x.put(Check.DX, 65534);
        x.put(Check.AX, 65535);
        x.put(Check.BX, 65535);
        x.step(1);
        Check.registerDue("DIV w", x, Check.AX, 65535);
        Check.registerDue("DIV w", x, Check.DX, 65534);
        Check.registerDue("DIV changes no flags", x, Check.FLAGS, 3777);
        Check.due("interrupts", x.interrupts(), 0);
        x.put(Check.AX, 0x0100);
        x.step(1);
        Check.due("256 / AH has no room", x.interrupts(), 1);
    }

    private static void divisionFaults() {
        int[][] rows = {{246, 0xF1, 500, 0, 0}, {246, 0xF1, 256 * 3, 0, 3}, {247, 0xF1, 5, 0, 0}, {247, 0xF1, 0, 7, 7}};
        for (int[] row : rows) {
            SmallComputer x = Check.with(row[0], row[1]);
            Check.write(x, 0, 0x21, 0x03, 0x05, 0);
            x.put(Check.AX, row[2]);
            x.put(Check.DX, row[3]);
            x.put(Check.CX, row[4]);
            x.put(Check.FLAGS, 3777);
            x.step(1);
            Check.registerDue("fault", x, Check.AX, row[2]);
            Check.registerDue("fault", x, Check.DX, row[3]);
            Check.registerDue("fault", x, Check.IP, 0x321);
            Check.registerDue("fault", x, Check.CS, 5);
            Check.registerDue("fault", x, Check.SP, 250);
            Check.registerDue("fault", x, Check.FLAGS, 3777 - Check.I);
            Check.wordDue("fault: IP behind it", x, 250, 514);
            Check.wordDue("fault: CS", x, 252, 0);
            Check.wordDue("fault: FLAGS", x, 254, 3777);
            Check.due("fault: interrupts", x.interrupts(), 1);
        }
    }
}
