/** Promises 7 and 8: register and put. */
public final class RegisterTest {
    private static final int[] OTHERS = {-1, 14, 15, 16, -14, Check.MIN, Check.MAX};

    public static void main(String[] args) {
        everyRegister();
        valuesWrap();
        flagsKeepSixBits();
        otherRegistersAnswer();
        otherRegistersRefused();
        Check.end();
    }

    private static void everyRegister() {
        Check.sentence("Register 0 .. 7, segment 8 .. 11, IP 12, FLAGS 13");
        Computer x = new Computer();
        for (int k = 0; k <= 12; k++) {
            Check.due("put(" + k + ")", x.put(k, 1000 + k), true);
        }
        Check.due("put(13)", x.put(13, Check.C), true);
        for (int k = 0; k <= 12; k++) {
            Check.registerDue("after put", x, k, 1000 + k);
        }
        Check.registerDue("after put", x, 13, 1);
        // Each one is the register that the instructions know by that number.
        x = Check.with(64 + 7, 30, 249);
        x.put(Check.DI, 4);
        x.put(Check.DS, 0x1234);
        x.step(3);
        Check.registerDue("INC DI", x, 7, 5);
        Check.wordDue("PUSH DS", x, 254, 0x1234);
        Check.registerDue("249", x, 13, Check.C);
        Check.registerDue("three bytes", x, 12, 515);
    }

    private static void valuesWrap() {
        Check.sentence("becomes v mod 65536");
        int[][] rows = {{0, 0}, {65535, 65535}, {65536, 0}, {65537, 1}, {-1, 65535}, {-65535, 1}, {-65536, 0},
            {-65537, 65535}, {Check.MIN, 0}, {Check.MAX, 65535}, {70000, 4464}};
        for (int[] row : rows) {
            Computer x = new Computer();
            for (int k = 0; k <= 12; k++) {
                x.put(k, 0x5555);
                Check.due("put(" + k + ", " + row[0] + ")", x.put(k, row[0]), true);
                Check.registerDue("put " + row[0], x, k, row[1]);
            }
            x.put(13, row[0]);
            Check.registerDue("put " + row[0], x, 13, row[1] & Check.ALL_FLAGS);
        }
    }

    private static void flagsKeepSixBits() {
        Check.sentence("of FLAGS only the six bits");
        Computer x = new Computer();
        for (int bit = 0; bit < 32; bit++) {
            x.put(13, 1 << bit);
            boolean kept = bit == 0 || bit == 6 || bit == 7 || bit == 9 || bit == 10 || bit == 11;
            Check.registerDue("bit " + bit, x, 13, kept ? 1 << bit : 0);
            x.put(13, ~(1 << bit));
            Check.registerDue("all but bit " + bit, x, 13, kept ? Check.ALL_FLAGS - (1 << bit) : Check.ALL_FLAGS);
        }
        Check.due("put(13, 65535)", x.put(13, 65535), true);
        Check.registerDue("put 65535", x, 13, 3777);
    }

    private static void otherRegistersAnswer() {
        Check.sentence("register: -1 for another one");
        Computer x = new Computer();
        for (int k = 0; k <= 13; k++) {
            x.put(k, 65535);
        }
        Check.registerDue("the first one", x, 0, 65535);
        Check.registerDue("the last one", x, 13, 3777);
        for (int k : OTHERS) {
            Check.registerDue("another one", x, k, -1);
        }
    }

    private static void otherRegistersRefused() {
        Check.sentence("put: false for another k");
        Computer x = new Computer();
        for (int k : OTHERS) {
            Check.due("put(" + k + ", 5)", x.put(k, 5), false);
            for (int own = 0; own <= 13; own++) {
                Check.registerDue("put(" + k + ", 5)", x, own, own == Check.SP ? 256 : own == Check.IP ? 512 : 0);
            }
        }
        Check.due("put(0, 5)", x.put(0, 5), true);
        Check.due("put(13, 1)", x.put(13, 1), true);
    }
}
