import java.util.Arrays;

/** Promise 6: jumps, loops, calls, interrupts and what is UNKNOWN. */
public final class JumpTest {
    public static void main(String[] args) {
        conditions();
        conditionsThatAreNone();
        distancesOfConditions();
        loops();
        jumps();
        visitsAndReturns();
        visitReadsItsWordFirst();
        interruptsByNumber();
        returnsFromInterrupts();
        interruptOverItsOwnWords();
        unknownCodes();
        knownCodes();
        unknownUnary();
        unknownCounting();
        unknownMoves();
        Check.end();
    }

    private static boolean holds(int c, int flags) {
        boolean carry = (flags & Check.C) != 0, zero = (flags & Check.Z) != 0;
        boolean sign = (flags & Check.S) != 0, over = (flags & Check.O) != 0;
        boolean[] table = {over, !over, carry, !carry, zero, !zero, carry || zero, !carry && !zero, sign, !sign,
            false, false, sign != over, sign == over, zero || sign != over, !zero && sign == over};
        return table[c];
    }

    private static int flagsOf(int n) {
        int[] bits = {Check.C, Check.Z, Check.S, Check.O, Check.I, Check.D};
        int flags = 0;
        for (int i = 0; i < bits.length; i++) {
            flags |= (n >> i & 1) != 0 ? bits[i] : 0;
        }
        return flags;
    }

    private static void conditions() {
        Check.sentence("112 + c: IP grows by sb if c");
        for (int c = 0; c < 16; c++) {
            for (int n = 0; n < 64 && c != 10 && c != 11; n++) {
                int flags = flagsOf(n);
                Computer x = Check.with(112 + c, 0x20);
                x.put(Check.FLAGS, flags);
                x.step(1);
                String what = "condition " + c + " with " + flags;
                Check.registerDue(what, x, Check.IP, holds(c, flags) ? 546 : 514);
                Check.registerDue(what, x, Check.FLAGS, flags);
            }
        }
    }

    private static void conditionsThatAreNone() {
        Check.sentence("(10, 11: UNKNOWN)");
        for (int code = 122; code <= 123; code++) {
            for (int n = 0; n < 64; n++) {
                Computer x = Check.with(code, 0x20);
                x.put(Check.FLAGS, flagsOf(n));
                x.step(1);
                Check.due("code " + code + ": interrupts()", x.interrupts(), 1);
                Check.wordDue("code " + code + ": IP", x, 250, 512);
                Check.wordDue("code " + code + ": FLAGS", x, 254, flagsOf(n));
            }
        }
    }

    private static void distancesOfConditions() {
        Check.sentence("(in displacements a byte counts signed)");
        int[][] rows = {{0, 514}, {1, 515}, {127, 641}, {128, 386}, {129, 387}, {254, 512}, {255, 513}};
        for (int[] row : rows) {
            for (int c = 0; c < 16; c++) {
                if (c != 10 && c != 11) {
                    Computer x = Check.with(112 + c, row[0]);
                    // An even condition holds with the first set of flags, an odd one with the second.
                    x.put(Check.FLAGS, c % 2 == 0 ? Check.C | Check.Z | (c == 0 ? Check.O : Check.S) : 0);
                    x.step(1);
                    Check.registerDue("condition " + c + " by " + row[0], x, Check.IP, row[1]);
                }
            }
        }
    }

    private static void loops() {
        Check.sentence("226: CX becomes less by 1; if it is not 0 then, IP grows by sb");
        int[][] rows = {{2, 1, 386}, {1, 0, 514}, {0, 65535, 386}, {65535, 65534, 386}, {256, 255, 386}};
        int[] all = {0, Check.ALL_FLAGS};
        for (int[] row : rows) {
            for (int flags : all) {
                Computer x = Check.with(226, 0x80);
                x.put(Check.CX, row[0]);
                x.put(Check.FLAGS, flags);
                x.step(1);
                Check.registerDue("226 with CX " + row[0], x, Check.CX, row[1]);
                Check.registerDue("226 with CX " + row[0], x, Check.IP, row[2]);
                Check.registerDue("226 with CX " + row[0], x, Check.FLAGS, flags);
            }
        }
        Computer x = Check.with(64, 226, 253);
        x.put(Check.CX, 5);
        x.step(10);
        Check.registerDue("five times", x, Check.AX, 5);
        Check.registerDue("five times", x, Check.IP, 515);
    }

    private static void jumps() {
        Check.sentence("233: IP grows by iw; 235: IP grows by sb");
        Computer x = Check.ran(1, 233, 0x34, 0x12);
        Check.registerDue("233", x, Check.IP, 515 + 0x1234);
        Check.registerDue("233", x, Check.SP, 256);
        x = Check.ran(1, 233, 0x80, 0x00);
        Check.registerDue("a word is not a signed byte", x, Check.IP, 643);
        int[][] rows = {{0, 514}, {1, 515}, {127, 641}, {128, 386}, {254, 512}, {255, 513}};
        for (int[] row : rows) {
            x = Check.ran(1, 235, row[0]);
            Check.registerDue("235 by " + row[0], x, Check.IP, row[1]);
            Check.registerDue("235 by " + row[0], x, Check.SP, 256);
        }
    }

    private static void visitsAndReturns() {
        Check.sentence("232: PUSH IP (behind iw) and IP grows by iw; 195: POP IP");
        Computer x = Check.ran(1, 232, 0x10, 0x00);
        Check.registerDue("232", x, Check.IP, 531);
        Check.registerDue("232", x, Check.SP, 254);
        Check.wordDue("232", x, 254, 515);
        x.poke(531, 195);
        x.step(1);
        Check.registerDue("195", x, Check.IP, 515);
        Check.registerDue("195", x, Check.SP, 256);
        int[] words = {0, 1, 32767, 32768, 65535};
        for (int word : words) {
            x = Check.with(195);
            Check.write(x, 256, word & 255, word >> 8);
            x.step(1);
            Check.registerDue("195 to " + word, x, Check.IP, word);
        }
    }

    private static void visitReadsItsWordFirst() {
        Check.sentence("PUSH IP (behind iw)");
        Computer x = Check.with(232, 0x10, 0x00);
        x.put(Check.SP, 515);
        x.step(1);
        Check.registerDue("232 pushes over its own word", x, Check.IP, 531);
        Check.wordDue("232 pushes over its own word", x, 513, 515);
    }

    private static void interruptsByNumber() {
        Check.sentence("205: INT ib; FLAGS, CS and IP are pushed, I := 0");
        for (int n = 0; n < 256; n++) {
            Computer x = Check.with(205, n);
            Check.write(x, 4 * (n % 16), 0x00, 0x03, 0x00, 0x10);
            x.put(Check.FLAGS, Check.ALL_FLAGS);
            x.put(Check.SS, 5);
            x.step(1);
            Check.registerDue("INT " + n, x, Check.IP, 0x300);
            Check.registerDue("INT " + n, x, Check.CS, 0x1000);
            Check.registerDue("INT " + n, x, Check.SP, 250);
            Check.registerDue("INT " + n, x, Check.FLAGS, Check.ALL_FLAGS - Check.I);
            Check.wordDue("INT " + n + ": IP", x, 80 + 250, 514);
            Check.wordDue("INT " + n + ": CS", x, 80 + 252, 0);
            Check.wordDue("INT " + n + ": FLAGS", x, 80 + 254, Check.ALL_FLAGS);
            Check.due("INT " + n + ": interrupts()", x.interrupts(), 1);
        }
        // I is pushed as it was, and 0 then, be it 1 or 0 before.
        Computer x = Check.ran(1, 205, 5);
        Check.registerDue("INT without I", x, Check.FLAGS, 0);
        Check.wordDue("INT without I", x, 254, 0);
    }

    private static void returnsFromInterrupts() {
        Check.sentence("207: POP IP, POP CS, POP FLAGS (of these six bits)");
        int[][] rows = {{65535, Check.ALL_FLAGS}, {0, 0}, {65535 - Check.ALL_FLAGS, 0}, {Check.C, Check.C},
            {Check.I | 2, Check.I}, {Check.O | 0x1000, Check.O}};
        for (int[] row : rows) {
            Computer x = Check.with(207);
            Check.write(x, 256, 0x34, 0x12, 0x78, 0x56, row[0] & 255, row[0] >> 8);
            x.put(Check.FLAGS, ~row[1]);
            x.step(1);
            Check.registerDue("207", x, Check.IP, 0x1234);
            Check.registerDue("207", x, Check.CS, 0x5678);
            Check.registerDue("207 with FLAGS " + row[0], x, Check.FLAGS, row[1]);
            Check.registerDue("207", x, Check.SP, 262);
            Check.due("207: interrupts()", x.interrupts(), 0);
        }
    }

    private static void interruptOverItsOwnWords() {
        Check.sentence("FLAGS, CS and IP are pushed, I := 0, IP and CS become the words");
        Computer x = Check.with(205, 1);
        x.put(Check.SP, 10);
        x.step(1);
        Check.registerDue("INT over its own words", x, Check.IP, 514);
        Check.registerDue("INT over its own words", x, Check.CS, 0);
    }

    /** INT 6 from the first byte, and neither a register nor the bytes that the operands lead to have changed. */
    private static void unknownDue(int... program) {
        Computer x = Check.with(program);
        Check.write(x, 24, 0x00, 0x03, 0x05, 0x00);
        int[] registers = {0x0101, 0x0202, 0x0303, 390, 256, 405, 400, 420};
        for (int k = 0; k < 8; k++) {
            x.put(k, registers[k]);
        }
        for (int address = 380; address < 430; address++) {
            x.poke(address, address & 255);
        }
        x.put(Check.FLAGS, Check.I | Check.C);
        String what = "unknown " + Arrays.toString(program);
        x.step(1);
        Check.due(what, x.interrupts(), 1);
        Check.registerDue(what, x, Check.IP, 0x300);
        Check.registerDue(what, x, Check.CS, 5);
        Check.registerDue(what, x, Check.FLAGS, Check.C);
        Check.wordDue(what + ": IP", x, 250, 512);
        Check.wordDue(what + ": CS", x, 252, 0);
        Check.wordDue(what + ": FLAGS", x, 254, Check.I | Check.C);
        for (int k = 0; k < 8; k++) {
            Check.registerDue(what, x, k, k == Check.SP ? 250 : registers[k]);
        }
        Check.registerDue(what, x, Check.ES, 0);
        Check.registerDue(what, x, Check.SS, 0);
        Check.registerDue(what, x, Check.DS, 0);
        for (int address = 380; address < 430; address++) {
            Check.due(what + ": peek(" + address + ")", x.peek(address), address & 255);
        }
        Check.due(what + ": halted()", x.halted(), false);
    }

    static boolean known(int code) {
        int[] alone = {6, 14, 22, 30, 7, 23, 31, 38, 46, 54, 62, 128, 129, 131, 136, 137, 138, 139, 140, 141, 142, 144,
            164, 165, 170, 171, 172, 173, 174, 175, 226, 232, 233, 235, 195, 246, 247, 254, 255, 205, 207, 228, 230,
            242, 243, 244, 248, 249, 250, 251, 252, 253};
        for (int one : alone) {
            if (code == one) {
                return true;
            }
        }
        return code < 64 && code % 8 < 6 || code >= 64 && code < 96 || code >= 112 && code < 128
            && code != 122 && code != 123 || code >= 176 && code < 192;
    }

    private static void unknownCodes() {
        Check.sentence("All others are UNKNOWN: INT 6. Nothing else of such an instruction is done");
        for (int code = 0; code < 256; code++) {
            if (!known(code)) {
                // What follows might be taken for a modrm of a known neighbour, so each r is tried.
                for (int r = 0; r < 8; r++) {
                    unknownDue(code, 0xC1 + 8 * r);
                    unknownDue(code, 0x07 + 8 * r);
                    unknownDue(243, 38, code, 0xC1 + 8 * r);
                }
            }
        }
    }

    private static void knownCodes() {
        Check.sentence("All others are UNKNOWN: the codes that are given are not");
        for (int code = 0; code < 256; code++) {
            if (known(code) && code != 205) {
                // With r = 2 the codes with a modrm that know no other r go on, but 254 and 255 want 0.
                int modrm = code >= 254 ? 0x07 : 0x17;
                Computer x = Check.with(code, modrm, 144, 144);
                x.put(Check.CX, 1);
                x.step(1);
                Check.due("code " + code + " is known", x.interrupts(), 0);
            }
        }
    }

    private static void unknownUnary() {
        Check.sentence("246, 247: other r: UNKNOWN");
        int[] others = {0, 1, 5, 7};
        for (int r : others) {
            for (int m = 0; m < 256; m += 64) {
                unknownDue(246, m + 8 * r + 4);
                unknownDue(247, m + 8 * r + 4);
                unknownDue(246, m + 8 * r + 6, 0x90, 0x01);
            }
        }
    }

    private static void unknownCounting() {
        Check.sentence("254, 255: other r: UNKNOWN");
        for (int r = 2; r < 8; r++) {
            for (int m = 0; m < 256; m += 64) {
                unknownDue(254, m + 8 * r + 4);
                unknownDue(255, m + 8 * r + 4);
                unknownDue(255, m + 8 * r + 6, 0x90, 0x01);
            }
        }
    }

    private static void unknownMoves() {
        Check.sentence("142: (r mod 4 = 1: UNKNOWN); 141: (m = 3: UNKNOWN)");
        for (int m = 0; m < 256; m += 64) {
            unknownDue(142, m + 8 + 4);
            unknownDue(142, m + 40 + 4);
            unknownDue(62, 142, m + 8 + 4);
        }
        for (int r = 0; r < 8; r++) {
            unknownDue(141, 0xC0 + 8 * r + 3);
        }
    }
}
