import java.util.List;
import java.util.function.Supplier;

/** "A call that is refused changes nothing", for each call that can be refused, in each of several states. */
public final class RefusalTest {
    private static final List<Supplier<Computer>> STATES = List.of(Computer::new, RefusalTest::busy,
        RefusalTest::resting, RefusalTest::keepingOff, RefusalTest::loadedToTheEnd);
    private static final int[] NO_BYTES = {-1, 256, 257, -255, 65536, Check.MIN, Check.MAX};
    private static final int[] NO_ADDRESSES = {-1, 1024, 1025, -1023, 65536, Check.MIN, Check.MAX};

    public static void main(String[] args) {
        statesAreAsMeant();
        pokeRefused();
        loadRefusedBySize();
        loadRefusedByRoom();
        seekRefused();
        stepRefused();
        putRefused();
        keyRefusedByCode();
        keyRefusedWhenFour();
        transferRefusedByByte();
        transferRefusedWhenClosed();
        askingChangesNothing();
        Check.end();
    }

    private static void program(Computer x, int... words) {
        for (int word : words) {
            Check.due("load", x.load(word, 4), true);
        }
        // Each word is two instructions.
        Check.due("step", x.step(2 * words.length), true);
    }

    /** AL := b and port gets AL, as one word of a program. */
    private static int gets(int port, int b) {
        return 176 << 24 | b << 16 | 230 << 8 | port;
    }

    /** Nothing, and then a port answers, as one word of a program. */
    private static int answers(int port) {
        return 62 << 24 | 144 << 16 | 228 << 8 | port;
    }

    /** Every part in the middle of something: turns at their higher bytes, a channel that is open, keys, a service. */
    private static Computer busy() {
        Computer x = new Computer();
        program(x, gets(131, 3), gets(2, 254), gets(3, 0), gets(3, 2), gets(10, 0), gets(33, 248), gets(32, 11),
            gets(64, 50), gets(64, 0), gets(64, 7), answers(64));
        x.key(17);
        x.put(Check.FLAGS, Check.I);
        x.step(1);
        x.key(18);
        for (int k = 0; k <= 7; k++) {
            x.put(k, 0x1111 * (k + 1));
        }
        x.put(Check.DS, 0x21);
        x.put(Check.FLAGS, Check.D | Check.C | Check.I);
        x.put(Check.CS, 0);
        x.put(Check.IP, 800);
        x.seek(801);
        x.load(0x414A4349, 4);
        x.seek(1020);
        return x;
    }

    /** In HALT, with four keys, the channel closed by its last byte, and the load at 600. */
    private static Computer resting() {
        Computer x = new Computer();
        program(x, gets(10, 0), gets(33, 0), gets(2, 9));
        x.transfer(200);
        for (int code = 33; code <= 36; code++) {
            x.key(code);
        }
        x.load(244, 1);
        x.step(1);
        x.seek(600);
        return x;
    }

    /** Behind 251, with a request that is kept off for one step. */
    private static Computer keepingOff() {
        Computer x = new Computer();
        program(x, gets(33, 0), gets(10, 0));
        x.load(0xFB404040, 4);
        x.key(44);
        x.step(1);
        return x;
    }

    private static Computer loadedToTheEnd() {
        Computer x = new Computer();
        x.seek(1023);
        x.load(77, 1);
        return x;
    }

    private static void statesAreAsMeant() {
        Check.sentence("the states that the refused calls are made in");
        Computer x = busy();
        Check.due("busy: lines(0)", x.lines(0), 0);
        Check.due("busy: lines(1)", x.lines(1), 2);
        Check.due("busy: lines(2)", x.lines(2), 248);
        Check.due("busy: count()", x.count(), 45);
        Check.due("busy: interrupts()", x.interrupts(), 1);
        Check.due("busy: transfer", x.transfer(1) && x.transfer(2) && x.transfer(3), true);
        Check.due("busy: transfer when LEFT was 0", x.transfer(4), false);
        x = resting();
        Check.due("resting: halted()", x.halted(), true);
        Check.due("resting: lines(0)", x.lines(0), 6);
        x = keepingOff();
        Check.registerDue("keeping off", x, Check.FLAGS, Check.I);
        Check.due("keeping off: lines(0)", x.lines(0), 2);
    }

    private static void pokeRefused() {
        Check.sentence("poke: false if address is not 0 .. 1023 or b not 0 .. 255");
        for (Supplier<Computer> state : STATES) {
            for (int address : NO_ADDRESSES) {
                Check.refused("poke(" + address + ", 99)", state, x -> x.poke(address, 99));
            }
            for (int b : NO_BYTES) {
                Check.refused("poke(0, " + b + ")", state, x -> x.poke(0, b));
                Check.refused("poke(1023, " + b + ")", state, x -> x.poke(1023, b));
            }
            Check.refused("poke(-1, 256)", state, x -> x.poke(-1, 256));
        }
    }

    private static void loadRefusedBySize() {
        Check.sentence("load: false if n is not 1 .. 4");
        int[] sizes = {0, 5, -1, 8, Check.MIN, Check.MAX};
        for (Supplier<Computer> state : STATES) {
            for (int n : sizes) {
                Check.refused("load(0x51525354, " + n + ")", state, x -> x.load(0x51525354, n));
            }
        }
    }

    private static void loadRefusedByRoom() {
        Check.sentence("load: false if it would go beyond 1023");
        for (int n = 1; n <= 4; n++) {
            int size = n;
            for (int place = 1025 - n; place <= 1024; place++) {
                int from = place;
                Check.refused("load of " + n + " at " + place, () -> placed(from), x -> x.load(0x51525354, size));
            }
        }
    }

    private static Computer placed(int place) {
        if (place == 1024) {
            return loadedToTheEnd();
        }
        Computer x = new Computer();
        x.seek(place);
        return x;
    }

    private static void seekRefused() {
        Check.sentence("seek: false if it is not 0 .. 1023");
        for (Supplier<Computer> state : STATES) {
            for (int address : NO_ADDRESSES) {
                Check.refused("seek(" + address + ")", state, x -> x.seek(address));
            }
        }
    }

    private static void stepRefused() {
        Check.sentence("step: false if n is not 1 .. 100");
        int[] counts = {0, -1, 101, 102, 1000, -100, Check.MIN, Check.MAX};
        for (Supplier<Computer> state : STATES) {
            for (int n : counts) {
                Check.refused("step(" + n + ")", state, x -> x.step(n));
            }
        }
    }

    private static void putRefused() {
        Check.sentence("put: false for another k");
        int[] others = {-1, 14, 15, 16, -8, Check.MIN, Check.MAX};
        for (Supplier<Computer> state : STATES) {
            for (int k : others) {
                Check.refused("put(" + k + ", 0x0ED3)", state, x -> x.put(k, 0x0ED3));
            }
        }
    }

    private static void keyRefusedByCode() {
        Check.sentence("key: false if code is not 0 .. 255");
        for (Supplier<Computer> state : STATES) {
            for (int code : NO_BYTES) {
                Check.refused("key(" + code + ")", state, x -> x.key(code));
            }
        }
    }

    private static void keyRefusedWhenFour() {
        Check.sentence("key: false if 4 wait");
        int[] codes = {0, 1, 255, 256, -1};
        for (int code : codes) {
            Check.refused("a fifth key(" + code + ")", RefusalTest::resting, x -> x.key(code));
        }
    }

    private static void transferRefusedByByte() {
        Check.sentence("transfer: false if b is not 0 .. 255");
        for (Supplier<Computer> state : STATES) {
            for (int b : NO_BYTES) {
                Check.refused("transfer(" + b + ")", state, x -> x.transfer(b));
            }
        }
    }

    private static void transferRefusedWhenClosed() {
        Check.sentence("transfer: false if it is closed");
        int[] bytes = {0, 99, 255, 256};
        for (int b : bytes) {
            Check.refused("transfer(" + b + ") at first", Computer::new, x -> x.transfer(b));
            Check.refused("transfer(" + b + ") behind the last byte", RefusalTest::resting, x -> x.transfer(b));
            Check.refused("transfer(" + b + ") when it was closed", RefusalTest::closedInBetween, x -> x.transfer(b));
        }
    }

    private static Computer closedInBetween() {
        Computer x = new Computer();
        program(x, gets(2, 30), gets(3, 0), gets(3, 5), gets(10, 0), gets(10, 4));
        return x;
    }

    /** Not refused, but answered with -1 for what there is not: these change nothing either. */
    private static void askingChangesNothing() {
        Check.sentence("peek, register and lines: -1");
        int[] others = {-1, 1024, Check.MIN, Check.MAX};
        for (Supplier<Computer> state : STATES) {
            for (int other : others) {
                Check.refused("asking for " + other, state,
                    x -> x.peek(other) != -1 || x.register(other) != -1 || x.lines(other) != -1);
            }
        }
    }
}
