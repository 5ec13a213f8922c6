/** Promise 6: the string instructions and their prefixes. */
public final class StringTest {
    private static final int SOURCE = 0x10 * 40, OVER = 0x10 * 50, TARGET = 0x10 * 30;

    public static void main(String[] args) {
        once();
        prefixChoosesTheSource();
        overlappingWord();
        repeated();
        repeatedNever();
        scanned();
        requestsBetween();
        Check.end();
    }

    private static SmallComputer with(int... program) {
        SmallComputer x = Check.with(program);
        x.put(Check.DS, 40);
        x.put(Check.SS, 50);
        x.put(Check.ES, 30);
        x.put(Check.SI, 4);
        x.put(Check.DI, 6);
        x.put(Check.AX, 0xA1A2);
        Check.write(x, SOURCE + 4, 0x34, 0x12);
        Check.write(x, OVER + 4, 0x78, 0x56);
        Check.write(x, TARGET + 6, 0xA3, 0xA1, 0x99);
        return x;
    }

    private static void once() {
        for (int code = 164; code <= 175; code++) {
            if (code > 165 && code < 170) {
                continue;
            }
            for (int back = 0; back < 2; back++) {
                SmallComputer x = with(code);
                x.put(Check.FLAGS, back == 0 ? 0 : Check.D);
                x.put(Check.CX, 9);
                x.step(1);
                String what = "code " + code + (back == 0 ? "" : " back");
                boolean wide = code % 2 == 1;
                int by = (wide ? 2 : 1) * (back == 0 ? 1 : -1);
                int kind = code - code % 2;
                Check.registerDue(what, x, Check.SI, kind == 164 || kind == 172 ? 4 + by : 4);
                Check.registerDue(what, x, Check.DI, kind == 172 ? 6 : 6 + by);
                Check.registerDue(what, x, Check.AX, kind != 172 ? 0xA1A2 : wide ? 0x1234 : 0xA134);
                int word = kind == 164 ? 0x1234 : kind == 170 ? 0xA1A2 : 0xA1A3;
                Check.wordDue(what, x, TARGET + 6, wide ? word : 0xA100 | word & 255);
                Check.due(what + ": byte behind", x.peek(TARGET + 8), 0x99);
                int flags = kind == 174 ? Check.C | Check.S : 0;
                Check.registerDue(what, x, Check.FLAGS, flags | (back == 0 ? 0 : Check.D));
                Check.registerDue(what, x, Check.CX, 9);
                Check.registerDue(what, x, Check.IP, 513);
            }
        }
        SmallComputer x = with(164, 172);
        x.put(Check.SI, 65535);
        x.put(Check.DI, 65535);
        x.step(1);
        Check.registerDue("SI wraps", x, Check.SI, 0);
        Check.registerDue("DI wraps", x, Check.DI, 0);
        x.put(Check.FLAGS, Check.D);
        x.step(1);
        Check.registerDue("SI wraps back", x, Check.SI, 65535);
    }

    private static void prefixChoosesTheSource() {
        SmallComputer x = with(54, 165);
        x.step(1);
        Check.wordDue("MOVS with a prefix", x, TARGET + 6, 0x5678);
        x = with(54, 172);
        x.step(1);
        Check.registerDue("LODS with a prefix", x, Check.AX, 0xA178);
        x = with(54, 171, 54, 174);
        x.step(1);
        Check.wordDue("STOS stays in ES", x, TARGET + 6, 0xA1A2);
        x.put(Check.DI, 6);
        x.step(1);
        Check.registerDue("SCAS stays in ES", x, Check.FLAGS, Check.Z);
    }

    private static void overlappingWord() {
        SmallComputer x = with(165);
        x.put(Check.ES, 40);
        x.put(Check.DI, 5);
        x.step(1);
        Check.due("MOVS over itself", x.peek(SOURCE + 5), 0x34);
        Check.due("MOVS over itself", x.peek(SOURCE + 6), 0x12);
    }

    private static void repeated() {
        int[] prefixes = {242, 243};
        for (int prefix : prefixes) {
            SmallComputer x = with(54, prefix, 170, 144);
            x.put(Check.CX, 3);
            for (int left = 2; left >= 0; left--) {
                x.step(1);
                Check.registerDue("STOS repeated", x, Check.CX, left);
                Check.registerDue("STOS repeated", x, Check.DI, 9 - left);
                Check.registerDue("STOS repeated", x, Check.IP, left == 0 ? 515 : 512);
            }
            Check.due("STOS repeated", x.peek(TARGET + 8), 0xA2);
            Check.due("STOS repeated", x.peek(TARGET + 9), 0);
            x = with(prefix, 173);
            x.put(Check.CX, 2);
            x.put(Check.FLAGS, Check.Z);
            x.step(1);
            Check.registerDue("LODS repeated", x, Check.AX, 0x1234);
            Check.registerDue("LODS repeated", x, Check.IP, 512);
            x.step(1);
            Check.registerDue("LODS repeated", x, Check.AX, 0);
            Check.registerDue("LODS repeated", x, Check.IP, 514);
            x = with(prefix, 164);
            x.put(Check.CX, 2);
            x.step(2);
            Check.wordDue("MOVS repeated", x, TARGET + 6, 0x1234);
            Check.registerDue("MOVS repeated", x, Check.IP, 514);
        }
    }

    private static void repeatedNever() {
        for (int code = 164; code <= 175; code++) {
            if (code > 165 && code < 170) {
                continue;
            }
            SmallComputer x = with(243, code);
            x.put(Check.FLAGS, Check.O);
            x.step(1);
            String what = "code " + code + " with CX 0";
            Check.registerDue(what, x, Check.IP, 514);
            Check.registerDue(what, x, Check.CX, 0);
            Check.registerDue(what, x, Check.SI, 4);
            Check.registerDue(what, x, Check.DI, 6);
            Check.registerDue(what, x, Check.AX, 0xA1A2);
            Check.registerDue(what, x, Check.FLAGS, Check.O);
            Check.wordDue(what, x, TARGET + 6, 0xA1A3);
        }
    }

    /** AL is 7; two bytes are equal to it and then one is not, or the other way round. */
    private static void scanned() {
        int[][] rows = {{243, 7, 8, 512}, {242, 8, 7, 512}, {242, 7, 7, 514}, {243, 8, 8, 514}};
        for (int[] row : rows) {
            SmallComputer x = with(row[0], 174);
            x.put(Check.AX, 7);
            x.put(Check.CX, 5);
            Check.write(x, TARGET + 6, row[1], row[2]);
            x.step(1);
            Check.registerDue("SCAS with " + row[0], x, Check.IP, row[3]);
            Check.registerDue("SCAS with " + row[0], x, Check.CX, 4);
            Check.registerDue("SCAS with " + row[0], x, Check.DI, 7);
            if (row[3] == 512) {
                x.step(1);
                Check.registerDue("SCAS ends", x, Check.IP, 514);
                Check.registerDue("SCAS ends", x, Check.CX, 3);
            }
        }
        SmallComputer x = with(242, 243, 174);
        x.put(Check.AX, 0xA3);
        x.put(Check.CX, 2);
        x.step(1);
        Check.registerDue("the last prefix counts", x, Check.IP, 512);
        x = with(243, 242, 174);
        x.put(Check.AX, 0xA3);
        x.put(Check.CX, 2);
        x.step(1);
        Check.registerDue("the last prefix counts", x, Check.IP, 515);
        x = with(243, 144, 170);
        x.put(Check.CX, 2);
        x.step(2);
        Check.registerDue("a prefix of the instruction before", x, Check.CX, 2);
        Check.registerDue("a prefix of the instruction before", x, Check.IP, 515);
        x = with(243, 174);
        x.put(Check.AX, 0xA3);
        x.put(Check.CX, 1);
        x.step(1);
        Check.registerDue("CX ends SCAS", x, Check.IP, 514);
        Check.registerDue("CX ends SCAS", x, Check.FLAGS, Check.Z);
    }

    private static void requestsBetween() {
        // All lines on, then STOS repeated; a key comes in between.
        SmallComputer x = Check.with(176, 0, 230, 33, 243, 170);
        x.put(Check.CX, 3);
        x.put(Check.DI, 900);
        x.put(Check.FLAGS, Check.I);
        x.step(3);
        Check.registerDue("before the request", x, Check.CX, 2);
        x.key(1);
        x.step(1);
        Check.due("the request is given", x.interrupts(), 1);
        Check.wordDue("the repeated instruction's first byte", x, 250, 516);
        Check.registerDue("it waits", x, Check.CX, 2);
    }
}
