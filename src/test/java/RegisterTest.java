/** Promises 7 and 8: register and put. */
public final class RegisterTest {
    public static void main(String[] args) {
        everyRegister();
        valuesWrap();
        flagsKeepSixBits();
        othersAreRefused();
        Check.end();
    }

    private static void everyRegister() {
        SmallComputer x = new SmallComputer();
        for (int k = 0; k <= 12; k++) {
            Check.due("put(" + k + ")", x.put(k, 1000 + k), true);
        }
        Check.due("put(13)", x.put(13, Check.C), true);
        for (int k = 0; k <= 12; k++) {
            Check.registerDue("after put", x, k, 1000 + k);
        }
        Check.registerDue("after put", x, 13, 1);
    }

    private static void valuesWrap() {
        SmallComputer x = new SmallComputer();
        int[][] rows = {{65535, 65535}, {65536, 0}, {-1, 65535}, {-65536, 0}, {-65537, 65535},
            {Integer.MIN_VALUE, 0}, {Integer.MAX_VALUE, 65535}, {70000, 4464}};
        for (int[] row : rows) {
            for (int k = 0; k <= 12; k++) {
                Check.due("put(" + k + ", " + row[0] + ")", x.put(k, row[0]), true);
                Check.registerDue("put " + row[0], x, k, row[1]);
            }
            x.put(13, row[0]);
            Check.registerDue("put " + row[0], x, 13, row[1] & 3777);
        }
    }

    private static void flagsKeepSixBits() {
        SmallComputer x = new SmallComputer();
        for (int bit = 0; bit < 32; bit++) {
            x.put(13, 1 << bit);
            boolean kept = bit == 0 || bit == 6 || bit == 7 || bit == 9 || bit == 10 || bit == 11;
            Check.registerDue("bit " + bit, x, 13, kept ? 1 << bit : 0);
        }
    }

    private static void othersAreRefused() {
        SmallComputer x = new SmallComputer();
        String before = Check.seen(x);
        int[] others = {-1, 14, 15, Integer.MIN_VALUE, Integer.MAX_VALUE};
        for (int k : others) {
            Check.due("register(" + k + ")", x.register(k), -1);
            Check.due("put(" + k + ", 5)", x.put(k, 5), false);
            Check.sameDue("put(" + k + ", 5)", before, x);
        }
    }
}
