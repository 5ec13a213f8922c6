/** Promises 2 to 5: poke, load, seek and peek. */
public final class MemoryTest {
    public static void main(String[] args) {
        pokeAndPeek();
        loadGoesOn();
        loadRefuses();
        seekMovesTheLoad();
        Check.end();
    }

    private static void pokeAndPeek() {
        SmallComputer x = new SmallComputer();
        Check.due("poke(0, 255)", x.poke(0, 255), true);
        Check.due("poke(1023, 1)", x.poke(1023, 1), true);
        Check.due("poke(7, 9)", x.poke(7, 9), true);
        Check.due("poke(7, 0)", x.poke(7, 0), true);
        Check.due("peek(0)", x.peek(0), 255);
        Check.due("peek(1023)", x.peek(1023), 1);
        Check.due("peek(7)", x.peek(7), 0);
        Check.due("peek(-1)", x.peek(-1), -1);
        Check.due("peek(1024)", x.peek(1024), -1);
        Check.due("peek(MIN)", x.peek(Integer.MIN_VALUE), -1);
        Check.due("peek(MAX)", x.peek(Integer.MAX_VALUE), -1);
        String before = Check.seen(x);
        int[][] refused = {{-1, 0}, {1024, 0}, {Integer.MIN_VALUE, 0}, {Integer.MAX_VALUE, 0},
            {0, -1}, {0, 256}, {0, Integer.MIN_VALUE}, {0, Integer.MAX_VALUE}, {-1, 256}};
        for (int[] call : refused) {
            String text = "poke(" + call[0] + ", " + call[1] + ")";
            Check.due(text, x.poke(call[0], call[1]), false);
            Check.sameDue(text, before, x);
        }
    }

    private static void loadGoesOn() {
        SmallComputer x = new SmallComputer();
        Check.due("load 4", x.load(0x81020384, 4), true);
        Check.due("load 1", x.load(0x01020305, 1), true);
        Check.due("load 2", x.load(-2, 2), true);
        Check.due("load 3", x.load(0x7F0A0B0C, 3), true);
        int[] want = {0x81, 2, 3, 0x84, 5, 255, 254, 10, 11, 12, 0};
        for (int i = 0; i < want.length; i++) {
            Check.due("peek(" + (512 + i) + ")", x.peek(512 + i), want[i]);
        }
        Check.registerDue("load moves no IP", x, Check.IP, 512);
    }

    private static void loadRefuses() {
        SmallComputer x = new SmallComputer();
        String before = Check.seen(x);
        int[] wrongSizes = {0, 5, -1, Integer.MIN_VALUE, Integer.MAX_VALUE};
        for (int n : wrongSizes) {
            Check.due("load(-1, " + n + ")", x.load(-1, n), false);
            Check.sameDue("load(-1, " + n + ")", before, x);
        }
        Check.due("load after a refused one", x.load(7, 1), true);
        Check.due("peek(512)", x.peek(512), 7);
        x.seek(1021);
        Check.due("load 4 beyond the end", x.load(0x01010101, 4), false);
        Check.due("peek(1021) after it", x.peek(1021), 0);
        Check.due("load 3 up to the end", x.load(0x010203, 3), true);
        Check.due("peek(1023)", x.peek(1023), 3);
        Check.due("load at the end", x.load(9, 1), false);
        Check.due("peek(0)", x.peek(0), 0);
        Check.due("seek(0)", x.seek(0), true);
        Check.due("load at 0", x.load(9, 1), true);
        Check.due("peek(0)", x.peek(0), 9);
    }

    private static void seekMovesTheLoad() {
        SmallComputer x = new SmallComputer();
        Check.due("seek(1023)", x.seek(1023), true);
        int[] refused = {-1, 1024, Integer.MIN_VALUE, Integer.MAX_VALUE};
        for (int address : refused) {
            Check.due("seek(" + address + ")", x.seek(address), false);
        }
        Check.due("load(1, 1)", x.load(1, 1), true);
        Check.due("peek(1023)", x.peek(1023), 1);
        Check.due("seek(3)", x.seek(3), true);
        x.poke(100, 1);
        Check.due("load(2, 1)", x.load(2, 1), true);
        Check.due("peek(3)", x.peek(3), 2);
    }
}
