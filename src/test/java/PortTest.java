import java.util.Arrays;

/** The ports that are told, those that are not, and the instructions that reach them. */
public final class PortTest {
    private static final int[] ANSWERING = {8, 32, 33, 64, 96, 100};
    private static final int[] GETTING = {2, 3, 10, 12, 32, 33, 64, 131};
    private static final int[] BYTES = {0, 2, 4, 10, 11, 32, 255};
    private static final int CONTROLLER = 0, TIMER = 1, KEYBOARD = 2, CHANNEL = 3, PARTS = 4;

    public static void main(String[] args) {
        otherPortsAnswer255();
        otherPortsDoNothing();
        askingDoesNothingMore();
        instructionsMoveAByte();
        Check.end();
    }

    private static boolean among(int[] ports, int port) {
        return Arrays.binarySearch(ports, port) >= 0;
    }

    private static void otherPortsAnswer255() {
        Check.sentence("what is not told here answers 255");
        for (int port = 0; port < 256; port++) {
            if (!among(ANSWERING, port)) {
                Computer x = new Computer();
                Check.due("port " + port, Bus.in(x, port), 255);
                Bus.out(x, port, 85);
                Check.due("port " + port + " when it got a byte", Bus.in(x, port), 255);
            }
        }
    }

    /**
     * Keys of which one was taken, lines requested and in service, an open channel in the middle of a turn, DONE, and
     * a timer that runs, has got a lower byte and has answered one.
     */
    private static Computer busy() {
        Computer x = new Computer();
        Bus.out(x, 33, 253);
        x.key(7);
        x.key(8);
        x.key(9);
        Bus.given(x);
        Bus.in(x, 96);
        Bus.out(x, 10, 0);
        x.transfer(1);
        Bus.out(x, 10, 0);
        Bus.out(x, 3, 3);
        Bus.out(x, 64, 200);
        Bus.out(x, 64, 2);
        Bus.out(x, 64, 3);
        Bus.in(x, 64);
        Check.due("busy: lines(0)", x.lines(0), 6);
        Check.due("busy: lines(1)", x.lines(1), 2);
        return x;
    }

    private static int partOf(int port) {
        return port == 32 || port == 33 ? CONTROLLER : port == 64 ? TIMER : port == 96 || port == 100 ? KEYBOARD : CHANNEL;
    }

    private static String seen(Computer x, int part) {
        StringBuilder text = new StringBuilder().append(x.interrupts()).append(x.halted()).append(' ');
        switch (part) {
            case CONTROLLER:
                text.append(x.lines(0)).append(' ').append(x.lines(1)).append(' ').append(x.lines(2)).append(' ');
                text.append(Bus.in(x, 32)).append(' ').append(Bus.in(x, 33));
                break;
            case TIMER:
                text.append(x.count()).append(' ').append(Bus.in(x, 64)).append(' ').append(Bus.in(x, 64)).append(' ');
                Bus.out(x, 64, 1);
                text.append(x.count());
                break;
            case KEYBOARD:
                for (int i = 0; i < 3; i++) {
                    text.append(Bus.in(x, 100)).append(' ').append(Bus.in(x, 96)).append(' ');
                }
                break;
            default:
                channelSeen(x, text);
                break;
        }
        return text.toString();
    }

    private static void channelSeen(Computer x, StringBuilder text) {
        text.append(Bus.in(x, 8)).append(x.transfer(90)).append(' ');
        // A higher byte if the turn was in its middle, else a lower one.
        Bus.out(x, 3, 0);
        for (int i = 0; i < 6; i++) {
            text.append(x.transfer(91 + i)).append(' ');
        }
        for (int page = 0; page < 4; page++) {
            for (int place = 0; place < 10; place++) {
                text.append(x.peek(256 * page + place)).append(' ');
            }
        }
    }

    private static void otherPortsDoNothing() {
        Check.sentence("what is not told here does nothing");
        for (int part = 0; part < PARTS; part++) {
            for (int b : BYTES) {
                Computer twin = busy();
                Bus.out(twin, 1, b);
                String want = seen(twin, part);
                for (int port = 0; port < 256; port++) {
                    // A port that is told leaves the parts alone that it does not belong to.
                    if (!among(GETTING, port) || partOf(port) != part) {
                        Computer x = busy();
                        Bus.out(x, port, b);
                        Check.due("port " + port + " gets " + b + ": part " + part, seen(x, part).equals(want), true);
                    }
                }
            }
        }
    }

    /** To ask a port changes nothing but what is told: 96 takes a key, 64 its turn, 8 takes DONE. */
    private static void askingDoesNothingMore() {
        Check.sentence("what is not told here does nothing");
        for (int part = 0; part < PARTS; part++) {
            Computer twin = busy();
            Bus.in(twin, 1);
            String want = seen(twin, part);
            for (int port = 0; port < 256; port++) {
                boolean takes = port == 8 || port == 64 || port == 96;
                if (!takes || partOf(port) != part) {
                    Computer x = busy();
                    Bus.in(x, port);
                    Check.due("port " + port + " answers: part " + part, seen(x, part).equals(want), true);
                }
            }
        }
    }

    private static void instructionsMoveAByte() {
        Check.sentence("228: AL := port ib; 230: port ib gets AL");
        Computer x = Check.with(230, 33, 228, 33, 228, 99);
        x.put(Check.AX, 0x12A7);
        x.put(Check.FLAGS, Check.ALL_FLAGS);
        x.step(1);
        Check.due("230: lines(2)", x.lines(2), 0xA7);
        Check.registerDue("230", x, Check.AX, 0x12A7);
        x.put(Check.AX, 0x3400);
        x.step(1);
        Check.registerDue("228", x, Check.AX, 0x34A7);
        x.step(1);
        Check.registerDue("228 of another port", x, Check.AX, 0x34FF);
        Check.registerDue("ports change no flags", x, Check.FLAGS, Check.ALL_FLAGS);
        Check.registerDue("three instructions of two bytes", x, Check.IP, 518);
    }
}
