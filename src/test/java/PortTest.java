import java.util.Arrays;

/** The ports that are told, those that are not, and the instructions that reach them. */
public final class PortTest {
    private static final int[] ANSWERING = {8, 32, 33, 64, 96, 100};
    private static final int[] GETTING = {2, 3, 10, 12, 32, 33, 64, 131};

    public static void main(String[] args) {
        otherPortsAnswer255();
        otherPortsDoNothing();
        askingDoesNothingMore();
        instructionsMoveAByte();
        Check.end();
    }

    private static boolean among(int[] ports, int port) {
        return Arrays.binarySearch(ports, port) >= 0;
    }

    private static void otherPortsAnswer255() {
        Check.sentence("what is not told here answers 255");
        for (int port = 0; port < 256; port++) {
            if (!among(ANSWERING, port)) {
                Computer x = new Computer();
                Check.due("port " + port, Bus.in(x, port), 255);
                Bus.out(x, port, 85);
                Check.due("port " + port + " when it got a byte", Bus.in(x, port), 255);
            }
        }
    }

    /** Keys, an open channel in the middle of a turn, and a timer that runs and has got a lower byte. */
    private static Computer busy() {
        Computer x = new Computer();
        Bus.out(x, 10, 0);
        Bus.out(x, 3, 3);
        Bus.out(x, 64, 200);
        Bus.out(x, 64, 0);
        Bus.out(x, 64, 3);
        Bus.in(x, 64);
        x.key(7);
        x.key(8);
        return x;
    }

    private static String seen(Computer x) {
        StringBuilder text = new StringBuilder();
        for (int which = 0; which < 3; which++) {
            text.append(x.lines(which)).append(' ');
        }
        text.append(x.count()).append(' ').append(Bus.in(x, 64)).append(' ');
        Bus.out(x, 64, 1);
        text.append(x.count()).append(' ');
        Bus.out(x, 3, 0);
        for (int i = 0; i < 6; i++) {
            text.append(x.transfer(90 + i)).append(x.peek(i)).append(' ');
        }
        int[] ports = {8, 32, 33, 100, 96, 96, 96};
        for (int port : ports) {
            text.append(Bus.in(x, port)).append(' ');
        }
        return text.append(x.interrupts()).append(x.halted()).toString();
    }

    private static void otherPortsDoNothing() {
        Check.sentence("what is not told here does nothing");
        int[] bytes = {0, 4, 10, 11, 32, 255};
        for (int b : bytes) {
            Computer twin = busy();
            Bus.out(twin, 1, b);
            String want = seen(twin);
            for (int port = 0; port < 256; port++) {
                if (!among(GETTING, port)) {
                    Computer x = busy();
                    Bus.out(x, port, b);
                    Check.due("port " + port + " gets " + b, seen(x).equals(want), true);
                }
            }
        }
    }

    /** To ask a port changes nothing but what is told: 96 takes a key, 64 its turn, 8 takes DONE. */
    private static void askingDoesNothingMore() {
        Check.sentence("what is not told here does nothing");
        Computer twin = busy();
        Bus.in(twin, 1);
        String want = seen(twin);
        for (int port = 0; port < 256; port++) {
            if (port != 64 && port != 96) {
                Computer x = busy();
                Bus.in(x, port);
                Check.due("port " + port + " answers", seen(x).equals(want), true);
            }
        }
    }

    private static void instructionsMoveAByte() {
        Check.sentence("228: AL := port ib; 230: port ib gets AL");
        Computer x = Check.with(230, 33, 228, 33, 228, 99);
        x.put(Check.AX, 0x12A7);
        x.put(Check.FLAGS, Check.ALL_FLAGS);
        x.step(1);
        Check.due("230: lines(2)", x.lines(2), 0xA7);
        Check.registerDue("230", x, Check.AX, 0x12A7);
        x.put(Check.AX, 0x3400);
        x.step(1);
        Check.registerDue("228", x, Check.AX, 0x34A7);
        x.step(1);
        Check.registerDue("228 of another port", x, Check.AX, 0x34FF);
        Check.registerDue("ports change no flags", x, Check.FLAGS, Check.ALL_FLAGS);
        Check.registerDue("three instructions of two bytes", x, Check.IP, 518);
    }
}
