/** Promise 6: jumps, loops, calls and what is UNKNOWN. */
public final class JumpTest {
    public static void main(String[] args) {
        conditions();
        loops();
        jumpsAndCalls();
        interruptsAndReturns();
        unknownCodes();
        unknownForms();
        tooManyPrefixes();
        Check.end();
    }

    private static boolean holds(int c, int flags) {
        boolean carry = (flags & Check.C) != 0, zero = (flags & Check.Z) != 0;
        boolean sign = (flags & Check.S) != 0, over = (flags & Check.O) != 0;
        boolean[] table = {over, !over, carry, !carry, zero, !zero, carry || zero, !carry && !zero, sign, !sign,
            false, false, sign != over, sign == over, zero || sign != over, !zero && sign == over};
        return table[c];
    }

    private static void conditions() {
        int[] bits = {Check.C, Check.Z, Check.S, Check.O};
        for (int c = 0; c < 16; c++) {
            for (int n = 0; n < 16; n++) {
                int flags = Check.I | Check.D;
                for (int i = 0; i < 4; i++) {
                    flags |= (n >> i & 1) != 0 ? bits[i] : 0;
                }
                SmallComputer x = Check.with(112 + c, n < 8 ? 0x80 : 0x7F);
                x.put(Check.FLAGS, flags);
                x.step(1);
                String what = "condition " + c + " with " + flags;
                if (c == 10 || c == 11) {
                    Check.due(what, x.interrupts(), 1);
                    Check.wordDue(what, x, 250, 512);
                } else {
                    Check.registerDue(what, x, Check.IP, !holds(c, flags) ? 514 : n < 8 ? 386 : 641);
                    Check.registerDue(what, x, Check.FLAGS, flags);
                }
            }
        }
    }

    private static void loops() {
        int[][] rows = {{2, 1, 386}, {1, 0, 514}, {0, 65535, 386}};
        for (int[] row : rows) {
            SmallComputer x = Check.with(226, 0x80);
            x.put(Check.CX, row[0]);
            x.put(Check.FLAGS, Check.C);
            x.step(1);
            Check.registerDue("226", x, Check.CX, row[1]);
            Check.registerDue("226", x, Check.IP, row[2]);
            Check.registerDue("226", x, Check.FLAGS, Check.C);
        }
    }

    private static void jumpsAndCalls() {
        SmallComputer x = Check.ran(1, 233, 0x34, 0x12);
        Check.registerDue("233", x, Check.IP, 515 + 0x1234);
        Check.registerDue("233", x, Check.SP, 256);
        x = Check.ran(1, 233, 0x00, 0xFD);
        Check.registerDue("233 wraps", x, Check.IP, (515 + 0xFD00) & 65535);
        x = Check.ran(1, 235, 0xFE);
        Check.registerDue("235", x, Check.IP, 512);
        x = Check.ran(1, 232, 0x10, 0x00);
        Check.registerDue("232", x, Check.IP, 531);
        Check.wordDue("232", x, 254, 515);
        x.poke(531, 195);
        x.step(1);
        Check.registerDue("195", x, Check.IP, 515);
        Check.registerDue("195", x, Check.SP, 256);
    }

    private static void interruptsAndReturns() {
        for (int n = 0; n < 256; n += 7) {
            SmallComputer x = Check.with(205, n);
            Check.write(x, 4 * (n % 16), 0x00, 0x03, 0x00, 0x10);
            x.put(Check.FLAGS, 3777);
            x.put(Check.SS, 1);
            x.step(1);
            Check.registerDue("INT " + n, x, Check.IP, 0x300);
            Check.registerDue("INT " + n, x, Check.CS, 0x1000);
            Check.registerDue("INT " + n, x, Check.FLAGS, 3777 - Check.I);
            Check.wordDue("INT " + n + ": IP", x, 16 + 250, 514);
            Check.wordDue("INT " + n + ": CS", x, 16 + 252, 0);
            Check.wordDue("INT " + n + ": FLAGS", x, 16 + 254, 3777);
            Check.due("INT " + n + ": interrupts()", x.interrupts(), 1);
            x.poke(0x300, 207);
            // Bits that are no flags are dropped when the flags come back.
            Check.write(x, 16 + 254, 255, 255);
            x.step(1);
            Check.registerDue("IRET", x, Check.IP, 514);
            Check.registerDue("IRET", x, Check.CS, 0);
            Check.registerDue("IRET", x, Check.FLAGS, 3777);
            Check.registerDue("IRET", x, Check.SP, 256);
            Check.due("IRET: interrupts()", x.interrupts(), 1);
        }
        // The words that are pushed may be the ones that are read.
        SmallComputer x = Check.with(205, 1);
        x.put(Check.SP, 10);
        x.step(1);
        Check.registerDue("INT over its own words", x, Check.IP, 514);
        Check.registerDue("INT over its own words", x, Check.CS, 0);
    }

    private static void unknownDue(int... program) {
        SmallComputer x = Check.with(program);
        Check.write(x, 24, 0x00, 0x03, 0x05, 0x00);
        for (int k = 0; k < 4; k++) {
            x.put(k, 0x0101 * (k + 1));
        }
        x.put(Check.SI, 400);
        x.put(Check.DI, 420);
        x.put(Check.FLAGS, Check.I | Check.C);
        String what = "unknown " + java.util.Arrays.toString(program);
        x.step(1);
        Check.due(what, x.interrupts(), 1);
        Check.registerDue(what, x, Check.IP, 0x300);
        Check.registerDue(what, x, Check.CS, 5);
        Check.registerDue(what, x, Check.SP, 250);
        Check.registerDue(what, x, Check.FLAGS, Check.C);
        Check.wordDue(what, x, 250, 512);
        Check.wordDue(what, x, 254, Check.I | Check.C);
        for (int k = 0; k < 4; k++) {
            Check.registerDue(what, x, k, 0x0101 * (k + 1));
        }
        Check.registerDue(what, x, Check.SI, 400);
        Check.registerDue(what, x, Check.DI, 420);
        Check.due(what + ": halted()", x.halted(), false);
    }

    private static boolean known(int code) {
        int[] alone = {6, 14, 22, 30, 7, 23, 31, 38, 46, 54, 62, 128, 129, 131, 136, 137, 138, 139, 140, 141, 142, 144,
            164, 165, 170, 171, 172, 173, 174, 175, 226, 232, 233, 235, 195, 246, 247, 254, 255, 205, 207, 228, 230,
            242, 243, 244, 248, 249, 250, 251, 252, 253};
        for (int one : alone) {
            if (code == one) {
                return true;
            }
        }
        return code < 64 && code % 8 < 6 || code >= 64 && code < 96 || code >= 112 && code < 128
            && code != 122 && code != 123 || code >= 176 && code < 192;
    }

    private static void unknownCodes() {
        for (int code = 0; code < 256; code++) {
            if (!known(code)) {
                unknownDue(code, 0xC0);
                unknownDue(243, 38, code, 0xC0);
            } else if (code != 205) {
                // With r = 2 the codes with a modrm that know no other r go on, but 254 and 255 want 0.
                int modrm = code >= 254 ? 0x07 : 0x17;
                SmallComputer x = Check.with(code, modrm, 144, 144);
                x.put(Check.CX, 1);
                x.step(1);
                Check.due("code " + code + " is known", x.interrupts(), 0);
            }
        }
    }

    private static void unknownForms() {
        for (int r = 0; r < 8; r++) {
            for (int m = 0; m < 256; m += 64) {
                if (r < 2 || r == 5 || r == 7) {
                    unknownDue(246, m + 8 * r + 4);
                    unknownDue(247, m + 8 * r + 4);
                }
                if (r > 1) {
                    unknownDue(254, m + 8 * r + 4);
                    unknownDue(255, m + 8 * r + 4);
                }
                if (r % 4 == 1) {
                    unknownDue(142, m + 8 * r + 4);
                    unknownDue(62, 142, m + 8 * r + 4);
                }
            }
            unknownDue(141, 0xC0 + 8 * r + 3);
        }
    }

    private static void tooManyPrefixes() {
        unknownDue(38, 46, 54, 62, 144);
        unknownDue(243, 243, 243, 243, 170);
        unknownDue(62, 243, 62, 242, 64);
        SmallComputer x = Check.ran(1, 243, 62, 242, 64);
        Check.due("three prefixes", x.interrupts(), 0);
        Check.registerDue("three prefixes", x, Check.AX, 1);
    }
}
