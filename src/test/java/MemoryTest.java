/** Promises 2 to 5: poke, load, seek and peek. */
public final class MemoryTest {
    private static final int[] NO_ADDRESSES = {-1, 1024, 1025, -1024, 65536, Check.MIN, Check.MAX};

    public static void main(String[] args) {
        memoryHas1024Bytes();
        pokeKeepsEachByte();
        pokeWithinItsEdges();
        pokeBeyondItsEdges();
        peekWhereThereIsNone();
        loadPutsTheLowestBytes();
        loadGoesOnWhereItEnded();
        loadOfWrongSizes();
        loadUpToTheEnd();
        loadBeyondTheEnd();
        seekWithinItsEdges();
        seekBeyondItsEdges();
        Check.end();
    }

    private static void memoryHas1024Bytes() {
        Check.sentence("MEMORY has 1024 bytes");
        for (int quarter = 0; quarter < 4; quarter++) {
            Computer x = new Computer();
            for (int i = 0; i < 256; i++) {
                int address = 256 * quarter + i;
                Check.due("poke(" + address + ", " + (255 - i) + ")", x.poke(address, 255 - i), true);
            }
            for (int i = 0; i < 256; i++) {
                Check.due("peek(" + (256 * quarter + i) + ")", x.peek(256 * quarter + i), 255 - i);
            }
        }
    }

    private static void pokeKeepsEachByte() {
        Check.sentence("Byte at an address of memory becomes b");
        Computer x = new Computer();
        for (int b = 0; b <= 255; b++) {
            Check.due("poke(700, " + b + ")", x.poke(700, b), true);
            if (b % 8 == 7) {
                Check.due("peek(700)", x.peek(700), b);
            }
        }
        Check.due("poke(700, 0)", x.poke(700, 0), true);
        Check.due("peek(700)", x.peek(700), 0);
        Check.due("its neighbour", x.peek(699), 0);
        Check.due("its neighbour", x.peek(701), 0);
    }

    private static void pokeWithinItsEdges() {
        Check.sentence("poke: address 0 .. 1023, b 0 .. 255");
        int[] addresses = {0, 1, 1022, 1023};
        int[] bytes = {0, 1, 254, 255};
        for (int address : addresses) {
            for (int b : bytes) {
                Computer x = new Computer();
                x.poke(address, 100);
                Check.due("poke(" + address + ", " + b + ")", x.poke(address, b), true);
                Check.due("peek(" + address + ")", x.peek(address), b);
                Check.due("peek(" + (1023 - address) + ")", x.peek(1023 - address), 0);
            }
        }
    }

    private static void pokeBeyondItsEdges() {
        Check.sentence("poke: false if address is not 0 .. 1023 or b not 0 .. 255");
        Computer x = new Computer();
        for (int address : NO_ADDRESSES) {
            Check.due("poke(" + address + ", 0)", x.poke(address, 0), false);
            Check.due("poke(" + address + ", 256)", x.poke(address, 256), false);
        }
        int[] noBytes = {-1, 256, -256, 65535, Check.MIN, Check.MAX};
        for (int b : noBytes) {
            Check.due("poke(0, " + b + ")", x.poke(0, b), false);
            Check.due("poke(1023, " + b + ")", x.poke(1023, b), false);
            Check.due("peek(0)", x.peek(0), 0);
            Check.due("peek(1023)", x.peek(1023), 0);
        }
    }

    private static void peekWhereThereIsNone() {
        Check.sentence("peek: -1 if there is none");
        Computer x = new Computer();
        x.poke(0, 255);
        x.poke(1023, 254);
        Check.due("peek(0)", x.peek(0), 255);
        Check.due("peek(1023)", x.peek(1023), 254);
        for (int address : NO_ADDRESSES) {
            Check.due("peek(" + address + ")", x.peek(address), -1);
        }
    }

    private static void loadPutsTheLowestBytes() {
        Check.sentence("The n lowest bytes of word, the highest of them first");
        int[] words = {0x81020384, -1, 0, Check.MIN, Check.MAX, 0x00FF00FF, 0xFE00FD00};
        for (int word : words) {
            for (int n = 1; n <= 4; n++) {
                Computer x = new Computer();
                x.poke(512 + n, 0x66);
                x.poke(511, 0x65);
                Check.due("load(" + word + ", " + n + ")", x.load(word, n), true);
                for (int i = 0; i < n; i++) {
                    int want = word >>> 8 * (n - 1 - i) & 255;
                    Check.due("load(" + word + ", " + n + "): peek(" + (512 + i) + ")", x.peek(512 + i), want);
                }
                Check.due("the byte behind", x.peek(512 + n), 0x66);
                Check.due("the byte before", x.peek(511), 0x65);
                Check.registerDue("load moves no IP", x, Check.IP, 512);
            }
        }
    }

    private static void loadGoesOnWhereItEnded() {
        Check.sentence("from the place where the last load ended (512 at first)");
        Computer x = new Computer();
        Check.due("load 4", x.load(0x81020384, 4), true);
        Check.due("load 1", x.load(0x01020305, 1), true);
        x.poke(900, 1);
        x.peek(901);
        x.step(1);
        Check.due("load 2", x.load(-2, 2), true);
        Check.due("load 3", x.load(0x7F0A0B0C, 3), true);
        int[] want = {0x81, 2, 3, 0x84, 5, 255, 254, 10, 11, 12, 0};
        for (int i = 0; i < want.length; i++) {
            Check.due("peek(" + (512 + i) + ")", x.peek(512 + i), want[i]);
        }
    }

    private static void loadOfWrongSizes() {
        Check.sentence("load: false if n is not 1 .. 4");
        Computer x = new Computer();
        int[] wrongSizes = {0, 5, -1, -4, 6, Check.MIN, Check.MAX};
        for (int n : wrongSizes) {
            Check.due("load(-1, " + n + ")", x.load(-1, n), false);
            Check.due("load(-1, " + n + "): peek(512)", x.peek(512), 0);
        }
        Check.due("load after the refused ones", x.load(7, 1), true);
        Check.due("peek(512)", x.peek(512), 7);
    }

    private static void loadUpToTheEnd() {
        Check.sentence("load: up to 1023");
        for (int n = 1; n <= 4; n++) {
            Computer x = new Computer();
            x.seek(1024 - n);
            Check.due("load of " + n + " up to the end", x.load(0x01020304, n), true);
            Check.due("peek(1023)", x.peek(1023), 4);
            Check.due("peek(" + (1024 - n) + ")", x.peek(1024 - n), 5 - n);
            Check.due("peek(0)", x.peek(0), 0);
        }
    }

    private static void loadBeyondTheEnd() {
        Check.sentence("load: false if it would go beyond 1023");
        for (int n = 2; n <= 4; n++) {
            Computer x = new Computer();
            x.seek(1025 - n);
            Check.due("load of " + n + ", one too many", x.load(0x01010101, n), false);
            Check.due("nothing is put", x.peek(1025 - n) + x.peek(1023) + x.peek(0), 0);
            Check.due("load of one less, at the same place", x.load(0x01020304, n - 1), true);
            Check.due("peek(1023)", x.peek(1023), 4);
        }
        Computer x = new Computer();
        x.seek(1020);
        Check.due("load of the last four", x.load(0x01020304, 4), true);
        for (int n = 1; n <= 4; n++) {
            Check.due("load when memory is full", x.load(9, n), false);
        }
        Check.due("peek(0)", x.peek(0), 0);
        Check.due("peek(1023)", x.peek(1023), 4);
        Check.due("seek(1023)", x.seek(1023), true);
        Check.due("load after the seek", x.load(9, 1), true);
        Check.due("peek(1023)", x.peek(1023), 9);
        // 128 loads of 4 fill what is behind 512.
        x = new Computer();
        for (int i = 0; i < 128; i++) {
            Check.due("load " + i, x.load(i, 4), true);
        }
        Check.due("load 128", x.load(128, 4), false);
        Check.due("load 128, of one byte", x.load(128, 1), false);
        Check.due("peek(1023)", x.peek(1023), 127);
    }

    private static void seekWithinItsEdges() {
        Check.sentence("The place where the next load begins becomes address");
        int[] addresses = {0, 1, 512, 1020, 1022, 1023};
        for (int address : addresses) {
            Computer x = new Computer();
            x.load(1, 1);
            Check.due("seek(" + address + ")", x.seek(address), true);
            Check.due("load(2, 1)", x.load(2, 1), true);
            Check.due("peek(" + address + ")", x.peek(address), 2);
            Check.due("the load goes on there", x.load(3, 1), address < 1023);
            Check.due("the load goes on there", x.peek(address + 1), address < 1023 ? 3 : -1);
        }
        Computer x = new Computer();
        x.seek(40);
        x.seek(50);
        x.load(8, 1);
        Check.due("the last seek counts", x.peek(50) - x.peek(40), 8);
    }

    private static void seekBeyondItsEdges() {
        Check.sentence("seek: false if it is not 0 .. 1023");
        for (int address : NO_ADDRESSES) {
            Computer x = new Computer();
            x.seek(77);
            Check.due("seek(" + address + ")", x.seek(address), false);
            Check.due("load(2, 1)", x.load(2, 1), true);
            Check.due("the place stays", x.peek(77), 2);
        }
    }
}
