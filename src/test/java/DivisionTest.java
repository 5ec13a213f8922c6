/** Promise 6: DIV, with the last quotient that has room and the first one that has none, and the divisor 0. */
public final class DivisionTest {
    private static final int[] BYTES = {0, 1, 2, 15, 85, 127, 128, 129, 170, 254, 255};
    private static final int[] WORDS = {0, 1, 255, 256, 21845, 32767, 32768, 32769, 43690, 65534, 65535};

    public static void main(String[] args) {
        quotientsWithRoom();
        quotientsWithoutRoom();
        divisionByZero();
        divisorsInTheDividend();
        flagsStay();
        faultPrefixed();
        Check.end();
    }

    private static Computer divided(boolean wide, long whole, int divisor) {
        Computer x = Check.with(wide ? 247 : 246, 0xF1);
        Check.write(x, 0, 0x21, 0x03, 0x05, 0);
        x.put(Check.AX, (int) (whole & 65535));
        x.put(Check.DX, wide ? (int) (whole >> 16) : 4321);
        x.put(Check.CX, divisor);
        x.put(Check.FLAGS, Check.ALL_FLAGS);
        x.step(1);
        return x;
    }

    /** A whole made of its divisor, quotient and rest, where the rest is less than the divisor. */
    private static void quotientDue(boolean wide, int divisor, int quotient, int rest) {
        if (rest >= divisor) {
            return;
        }
        long whole = (long) divisor * quotient + rest;
        Computer x = divided(wide, whole, divisor);
        String what = "DIV of " + whole + " by " + divisor;
        Check.registerDue(what, x, Check.AX, wide ? quotient : 256 * rest + quotient);
        Check.registerDue(what, x, Check.DX, wide ? rest : 4321);
        Check.registerDue(what, x, Check.CX, divisor);
        Check.registerDue(what, x, Check.IP, 514);
        Check.due(what + ": interrupts()", x.interrupts(), 0);
    }

    private static void quotientsWithRoom() {
        Check.sentence("AL := AX / E, AH := the rest, or AX := (DX, AX) / E, DX := the rest, without sign");
        for (int i = 1; i < 11; i++) {
            for (int j = 0; j < 11; j++) {
                for (int k = 0; k < 11; k++) {
                    quotientDue(false, BYTES[i], BYTES[j], BYTES[k]);
                    quotientDue(true, WORDS[i], WORDS[j], WORDS[k]);
                }
                // The largest rest that there is.
                quotientDue(false, BYTES[i], BYTES[j], BYTES[i] - 1);
                quotientDue(true, WORDS[i], WORDS[j], WORDS[i] - 1);
            }
        }
    }

    private static void faultDue(boolean wide, long whole, int divisor) {
        Computer x = divided(wide, whole, divisor);
        String what = "DIV of " + whole + " by " + divisor;
        Check.registerDue(what, x, Check.AX, (int) (whole & 65535));
        Check.registerDue(what, x, Check.DX, wide ? (int) (whole >> 16) : 4321);
        Check.registerDue(what, x, Check.CX, divisor);
        Check.registerDue(what, x, Check.IP, 0x321);
        Check.registerDue(what, x, Check.CS, 5);
        Check.registerDue(what, x, Check.SP, 250);
        Check.registerDue(what, x, Check.FLAGS, Check.ALL_FLAGS - Check.I);
        Check.wordDue(what + ": IP behind it", x, 250, 514);
        Check.wordDue(what + ": CS", x, 252, 0);
        Check.wordDue(what + ": FLAGS", x, 254, Check.ALL_FLAGS);
        Check.due(what + ": interrupts()", x.interrupts(), 1);
    }

    private static void quotientsWithoutRoom() {
        Check.sentence("A DIV with a quotient that has no room changes nothing and is INT 0");
        for (int i = 1; i < 11; i++) {
            if (256 * BYTES[i] <= 65535) {
                faultDue(false, 256 * BYTES[i], BYTES[i]);
            }
            faultDue(false, 65535, BYTES[i] == 255 ? 1 : BYTES[i]);
            faultDue(true, 65536L * WORDS[i], WORDS[i]);
            faultDue(true, 65536L * 65535 + 65535, WORDS[i]);
            // One less has room: the quotient is the largest one, and so is the rest.
            quotientDue(false, BYTES[i], 255, BYTES[i] - 1);
            quotientDue(true, WORDS[i], 65535, WORDS[i] - 1);
        }
        faultDue(false, 65535, 255);
        quotientDue(false, 255, 255, 254);
    }

    private static void divisionByZero() {
        Check.sentence("A DIV by 0 changes nothing and is INT 0, IP being behind it");
        int[] wholes = {0, 1, 255, 256, 65535};
        for (int whole : wholes) {
            faultDue(false, whole, 0);
            faultDue(true, whole, 0);
            faultDue(true, (long) whole << 16, 0);
        }
        // A byte divisor is a byte: the other half of its register does not count.
        Computer x = Check.with(246, 0xF1);
        x.put(Check.AX, 10);
        x.put(Check.CX, 0xFF00);
        x.step(1);
        Check.due("CL is 0: interrupts()", x.interrupts(), 1);
        x = Check.with(246, 0xF5);
        x.put(Check.AX, 10);
        x.put(Check.CX, 0x0300);
        x.step(1);
        Check.registerDue("CH is 3", x, Check.AX, 0x0103);
    }

    private static void divisorsInTheDividend() {
        Check.sentence("AX / E, where E is a part of it");
        Computer x = Check.with(246, 0xF0);
        x.put(Check.AX, 0x0710);
        x.step(1);
        Check.registerDue("by AL", x, Check.AX, 0x0071);
        x = Check.with(246, 0xF4);
        x.put(Check.AX, 0x1000);
        x.step(1);
        Check.due("by AH there is never room: interrupts()", x.interrupts(), 1);
        x = Check.with(247, 0xF0);
        x.put(Check.AX, 0x0100);
        x.put(Check.DX, 0x00FF);
        x.step(1);
        Check.registerDue("by AX", x, Check.AX, 0xFF01);
        Check.registerDue("by AX", x, Check.DX, 0);
        x = Check.with(247, 0xF2);
        x.put(Check.DX, 9);
        x.step(1);
        Check.due("by DX there is never room: interrupts()", x.interrupts(), 1);
        x = Check.with(247, 0x37);
        x.put(Check.BX, 300);
        x.put(Check.AX, 1000);
        Check.write(x, 300, 7, 0);
        x.step(1);
        Check.registerDue("by a word of memory", x, Check.AX, 142);
        Check.registerDue("by a word of memory", x, Check.DX, 6);
        Check.wordDue("by a word of memory, that stays", x, 300, 7);
    }

    private static void flagsStay() {
        Check.sentence("Nothing else changes flags");
        int[] all = {0, Check.ALL_FLAGS, Check.C | Check.O, Check.Z | Check.S};
        for (int flags : all) {
            Computer x = Check.with(246, 0xF1, 247, 0xF3);
            x.put(Check.AX, 0);
            x.put(Check.CX, 3);
            x.put(Check.BX, 3);
            x.put(Check.FLAGS, flags);
            x.step(2);
            Check.registerDue("DIV", x, Check.FLAGS, flags);
        }
    }

    private static void faultPrefixed() {
        Check.sentence("IP being behind it");
        Computer x = Check.with(62, 243, 247, 0xB7, 0x10, 0);
        x.put(Check.BX, 300);
        x.put(Check.AX, 5);
        x.step(1);
        Check.due("a DIV of six bytes: interrupts()", x.interrupts(), 1);
        Check.wordDue("a DIV of six bytes", x, 250, 518);
    }
}
