import java.util.Arrays;

/** Promise 6: the string instructions and their prefixes 242 and 243. */
public final class StringTest {
    private static final int SOURCE = 0x10 * 40, OVER = 0x10 * 50, TARGET = 0x10 * 30;
    private static final int[] CODES = {164, 165, 170, 171, 172, 173, 174, 175};
    private static final int[] REPEATS = {242, 243};

    public static void main(String[] args) {
        once();
        onceWithoutCx();
        prefixChoosesTheSource();
        prefixLeavesTheTarget();
        overlappingWord();
        comparedAsCmp();
        repeatedWithCxZero();
        repeatedWithCxOne();
        repeatedWithMostCx();
        repeatedToTheEnd();
        repeatedWhateverZ();
        scannedWhileEqual();
        scannedWhileNotEqual();
        scannedToTheLast();
        requestsBetween();
        Check.end();
    }

    private static Computer with(int... program) {
        Computer x = Check.with(program);
        x.put(Check.DS, 40);
        x.put(Check.SS, 50);
        x.put(Check.ES, 30);
        x.put(Check.SI, 4);
        x.put(Check.DI, 6);
        x.put(Check.AX, 0xA1A2);
        Check.write(x, SOURCE + 4, 0x34, 0x12);
        Check.write(x, OVER + 4, 0x78, 0x56);
        Check.write(x, TARGET + 6, 0xA3, 0xA1, 0x99);
        return x;
    }

    private static void once() {
        Check.sentence("MOVS, STOS, LODS, SCAS; SI and DI grow by 1 or 2, or become less by that if D");
        for (int code : CODES) {
            for (int back = 0; back < 2; back++) {
                Computer x = with(code);
                x.put(Check.FLAGS, back == 0 ? 0 : Check.D);
                x.put(Check.CX, 9);
                x.step(1);
                String what = "code " + code + (back == 0 ? "" : " back");
                boolean wide = code % 2 == 1;
                int by = (wide ? 2 : 1) * (back == 0 ? 1 : -1);
                int kind = code - code % 2;
                Check.registerDue(what, x, Check.SI, kind == 164 || kind == 172 ? 4 + by : 4);
                Check.registerDue(what, x, Check.DI, kind == 172 ? 6 : 6 + by);
                Check.registerDue(what, x, Check.AX, kind != 172 ? 0xA1A2 : wide ? 0x1234 : 0xA134);
                int word = kind == 164 ? 0x1234 : kind == 170 ? 0xA1A2 : 0xA1A3;
                Check.wordDue(what, x, TARGET + 6, wide ? word : 0xA100 | word & 255);
                Check.due(what + ": byte behind", x.peek(TARGET + 8), 0x99);
                int flags = kind == 174 ? Check.C | Check.S : 0;
                Check.registerDue(what, x, Check.FLAGS, flags | (back == 0 ? 0 : Check.D));
                Check.registerDue(what, x, Check.CX, 9);
                Check.registerDue(what, x, Check.IP, 513);
            }
        }
    }

    private static void onceWithoutCx() {
        Check.sentence("without 243 or 242 CX says nothing");
        for (int code : CODES) {
            Computer x = with(code);
            x.put(Check.CX, 0);
            x.step(1);
            Check.registerDue("code " + code, x, Check.CX, 0);
            Check.due("code " + code + " is done", x.register(Check.SI) + x.register(Check.DI) > 10, true);
        }
    }

    private static void prefixChoosesTheSource() {
        Check.sentence("what is at the prefix's segment or DS, SI");
        Computer x = with(54, 165);
        x.step(1);
        Check.wordDue("MOVS with a prefix", x, TARGET + 6, 0x5678);
        x = with(54, 172);
        x.step(1);
        Check.registerDue("LODS with a prefix", x, Check.AX, 0xA178);
        x = with(243, 54, 164);
        x.put(Check.CX, 2);
        x.step(2);
        Check.wordDue("MOVS with a prefix, repeated", x, TARGET + 6, 0x5678);
    }

    private static void prefixLeavesTheTarget() {
        Check.sentence("at ES:DI");
        int[] prefixes = {46, 54, 62};
        for (int prefix : prefixes) {
            Computer x = with(prefix, 171, prefix, 174, prefix, 164);
            x.step(1);
            Check.wordDue("STOS stays in ES", x, TARGET + 6, 0xA1A2);
            x.put(Check.DI, 6);
            x.step(1);
            Check.registerDue("SCAS stays in ES", x, Check.FLAGS, Check.Z);
            x.put(Check.DI, 6);
            x.poke(TARGET + 6, 1);
            x.step(1);
            Check.due("MOVS stays in ES", x.peek(TARGET + 6) == 1, false);
        }
    }

    private static void overlappingWord() {
        Check.sentence("at ES:DI becomes what is at the prefix's segment or DS, SI: the word is read, then put");
        Computer x = with(165);
        x.put(Check.ES, 40);
        x.put(Check.DI, 5);
        x.step(1);
        Check.due("MOVS over itself", x.peek(SOURCE + 5), 0x34);
        Check.due("MOVS over itself", x.peek(SOURCE + 6), 0x12);
    }

    private static void comparedAsCmp() {
        Check.sentence("SCAS: CMP of AL or AX with what is at ES:DI");
        int[] values = {0, 1, 127, 128, 129, 255, 256, 32767, 32768, 65535};
        for (int a : values) {
            for (int b : values) {
                for (int wide = 0; wide < 2; wide++) {
                    // The same by 57 or 56: CMP of E with R, E being AX and R being DX.
                    Computer x = Check.with(174 + wide, 56 + wide, 0xD0);
                    x.put(Check.DI, 300);
                    x.put(Check.AX, a);
                    x.put(Check.DX, b);
                    Check.write(x, 300, b & 255, b >> 8);
                    x.step(1);
                    int scanned = x.register(Check.FLAGS);
                    Check.registerDue("SCAS changes no AX", x, Check.AX, a);
                    Check.wordDue("SCAS changes no memory", x, 300, b);
                    x.put(Check.FLAGS, 0);
                    x.step(1);
                    Check.due("SCAS of " + a + " and " + b, scanned, x.register(Check.FLAGS));
                }
            }
        }
    }

    private static void repeatedWithCxZero() {
        Check.sentence("if CX is 0, nothing more");
        int[] flags = {0, Check.ALL_FLAGS};
        for (int prefix : REPEATS) {
            for (int code : CODES) {
                for (int before : flags) {
                    Computer x = with(prefix, code);
                    x.put(Check.FLAGS, before);
                    x.step(1);
                    String what = "code " + code + " with CX 0";
                    Check.registerDue(what, x, Check.IP, 514);
                    Check.registerDue(what, x, Check.CX, 0);
                    Check.registerDue(what, x, Check.SI, 4);
                    Check.registerDue(what, x, Check.DI, 6);
                    Check.registerDue(what, x, Check.AX, 0xA1A2);
                    Check.registerDue(what, x, Check.FLAGS, before);
                    Check.wordDue(what, x, TARGET + 6, 0xA1A3);
                }
            }
        }
    }

    private static void repeatedWithCxOne() {
        Check.sentence("CX becomes less by 1, and IP goes back, unless CX is 0 then");
        for (int prefix : REPEATS) {
            for (int code : CODES) {
                Computer x = with(prefix, code);
                x.put(Check.CX, 1);
                // What SCAS finds is such that Z alone would let it go on.
                x.put(Check.AX, prefix == 243 ? 0xA1A3 : 0xA1A2);
                x.step(1);
                String what = "code " + code + " behind " + prefix + " with CX 1";
                Check.registerDue(what, x, Check.IP, 514);
                Check.registerDue(what, x, Check.CX, 0);
                Check.due(what + ": it is done", x.register(Check.SI) != 4 || x.register(Check.DI) != 6, true);
            }
        }
    }

    private static void repeatedWithMostCx() {
        Check.sentence("CX becomes less by 1, and IP goes back to the instruction's first byte");
        int[][] rows = {{2, 1}, {256, 255}, {32768, 32767}, {65535, 65534}};
        for (int[] row : rows) {
            Computer x = with(243, 171);
            x.put(Check.CX, row[0]);
            x.step(1);
            Check.registerDue("CX " + row[0], x, Check.CX, row[1]);
            Check.registerDue("CX " + row[0], x, Check.IP, 512);
            Check.registerDue("CX " + row[0] + ": done once", x, Check.DI, 8);
        }
    }

    private static void repeatedToTheEnd() {
        Check.sentence("the instruction is done once, CX becomes less by 1");
        for (int prefix : REPEATS) {
            Computer x = with(54, prefix, 170, 144);
            x.put(Check.CX, 3);
            for (int left = 2; left >= 0; left--) {
                x.step(1);
                Check.registerDue("STOS repeated", x, Check.CX, left);
                Check.registerDue("STOS repeated", x, Check.DI, 9 - left);
                Check.registerDue("STOS repeated", x, Check.IP, left == 0 ? 515 : 512);
            }
            Check.due("STOS repeated", x.peek(TARGET + 8), 0xA2);
            Check.due("STOS repeated", x.peek(TARGET + 9), 0);
            x = with(prefix, 164);
            x.put(Check.CX, 2);
            x.put(Check.SI, 5);
            x.put(Check.DI, 7);
            x.put(Check.FLAGS, Check.D);
            x.step(2);
            Check.wordDue("MOVS repeated, back", x, TARGET + 6, 0x1234);
            Check.registerDue("MOVS repeated, back", x, Check.IP, 514);
            Check.registerDue("MOVS repeated, back", x, Check.SI, 3);
        }
    }

    private static void repeatedWhateverZ() {
        Check.sentence("or, for SCAS, Z: for the others Z says nothing");
        int[] flags = {0, Check.Z};
        for (int prefix : REPEATS) {
            for (int before : flags) {
                for (int code : CODES) {
                    if (code < 174) {
                        Computer x = with(prefix, code);
                        x.put(Check.CX, 2);
                        x.put(Check.FLAGS, before);
                        x.step(1);
                        Check.registerDue("code " + code + " behind " + prefix, x, Check.IP, 512);
                        x.step(1);
                        Check.registerDue("code " + code + " behind " + prefix, x, Check.IP, 514);
                        Check.registerDue("code " + code + " behind " + prefix, x, Check.FLAGS, before);
                    }
                }
            }
        }
    }

    /** AL or AX is 7; the items stand in a row, and as many of them as said are looked at. */
    private static void scanDue(int prefix, int looked, int... items) {
        for (int wide = 0; wide < 2; wide++) {
            Computer x = with(prefix, 174 + wide);
            x.put(Check.AX, 7);
            x.put(Check.CX, items.length);
            for (int i = 0; i < items.length; i++) {
                x.poke(TARGET + 6 + i * (1 + wide), items[i]);
                if (wide == 1) {
                    x.poke(TARGET + 7 + 2 * i, 0);
                }
            }
            String what = "SCAS behind " + prefix + " of " + Arrays.toString(items);
            for (int i = 1; i <= looked; i++) {
                x.step(1);
                Check.registerDue(what, x, Check.CX, items.length - i);
                Check.registerDue(what, x, Check.DI, 6 + i * (1 + wide));
                Check.registerDue(what, x, Check.IP, i == looked ? 514 : 512);
            }
            boolean equal = items[looked - 1] == 7;
            Check.due(what + ": Z", (x.register(Check.FLAGS) & Check.Z) != 0, equal);
        }
    }

    private static void scannedWhileEqual() {
        Check.sentence("unless, for SCAS, Z is not 1 with 243");
        scanDue(243, 1, 8, 7, 7);
        scanDue(243, 2, 7, 8, 7);
        scanDue(243, 3, 7, 7, 6, 7);
    }

    private static void scannedWhileNotEqual() {
        Check.sentence("unless, for SCAS, Z is not 0 with 242");
        scanDue(242, 1, 7, 8, 8);
        scanDue(242, 2, 8, 7, 8);
        scanDue(242, 3, 6, 8, 7, 8);
    }

    private static void scannedToTheLast() {
        Check.sentence("unless CX is 0 then");
        scanDue(243, 3, 7, 7, 7);
        scanDue(242, 3, 6, 8, 6);
        scanDue(243, 1, 7);
        scanDue(242, 1, 8);
        scanDue(243, 2, 7, 8);
        scanDue(242, 2, 8, 7);
    }

    private static void requestsBetween() {
        Check.sentence("IP goes back to the instruction's first byte: a request may come between");
        Computer x = Check.with(176, 0, 230, 33, 62, 243, 170);
        x.put(Check.CX, 3);
        x.put(Check.DI, 900);
        x.put(Check.FLAGS, Check.I);
        x.step(3);
        Check.registerDue("before the request", x, Check.CX, 2);
        x.key(1);
        x.step(1);
        Check.due("the request is given", x.interrupts(), 1);
        Check.wordDue("the repeated instruction's first byte", x, 250, 516);
        Check.registerDue("it waits", x, Check.CX, 2);
        x.put(Check.IP, 516);
        x.put(Check.CS, 0);
        x.step(2);
        Check.registerDue("and goes on", x, Check.CX, 0);
        Check.registerDue("and goes on", x, Check.DI, 903);
        Check.registerDue("and goes on", x, Check.IP, 519);
    }
}
