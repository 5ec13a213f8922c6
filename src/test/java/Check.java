import java.util.function.Predicate;
import java.util.function.Supplier;

/** What the tests share: counting wrong answers, making computers with a program, and comparing twins. */
final class Check {
    static final int AX = 0, CX = 1, DX = 2, BX = 3, SP = 4, BP = 5, SI = 6, DI = 7;
    static final int ES = 8, CS = 9, SS = 10, DS = 11, IP = 12, FLAGS = 13;
    static final int C = 1, Z = 64, S = 128, I = 512, D = 1024, O = 2048;
    static final int ALL_FLAGS = C | Z | S | I | D | O;
    static final int MIN = Integer.MIN_VALUE, MAX = Integer.MAX_VALUE;

    private static final int SLICES = 16;
    private static final int SLICE = 1024 / SLICES;

    private static int wrong = 0;
    private static String sentence = "";

    private Check() {
    }

    /** The document's words that the next answers are due by; they stand before each wrong answer. */
    static void sentence(String words) {
        sentence = words;
    }

    static void due(String call, long got, long want) {
        if (got != want) {
            wrong++;
            String by = sentence.isEmpty() ? "" : "[" + sentence + "] ";
            System.out.println(by + call + " answered " + got + ", due is " + want);
        }
    }

    static void due(String call, boolean got, boolean want) {
        due(call, got ? 1 : 0, want ? 1 : 0);
    }

    /** A new computer with these bytes from 512 on, where it begins. */
    static Computer with(int... program) {
        Computer x = new Computer();
        write(x, 512, program);
        return x;
    }

    /** The bytes are written round the end of memory, as addresses are reckoned. */
    static void write(Computer x, int address, int... bytes) {
        for (int i = 0; i < bytes.length; i++) {
            int at = Math.floorMod(address + i, 1024);
            due("poke(" + at + ", " + bytes[i] + ")", x.poke(at, bytes[i]), true);
        }
    }

    /** The program runs as many steps as said. */
    static Computer ran(int steps, int... program) {
        Computer x = with(program);
        due("step(" + steps + ")", x.step(steps), true);
        return x;
    }

    static void registerDue(String what, Computer x, int k, int want) {
        due(what + ": register(" + k + ")", x.register(k), want);
    }

    static void wordDue(String what, Computer x, int address, int want) {
        int low = x.peek(Math.floorMod(address, 1024));
        int high = x.peek(Math.floorMod(address + 1, 1024));
        due(what + ": word at " + address, low | high << 8, want);
    }

    /**
     * That the call is refused and changes nothing: whatever is asked then is answered as by a twin that did not
     * get the call. No one object has calls enough to show all of its memory, so there is a pair for each slice.
     */
    static void refused(String call, Supplier<Computer> made, Predicate<Computer> refusedCall) {
        for (int slice = 0; slice < SLICES; slice++) {
            Computer got = made.get();
            Computer twin = made.get();
            due(call, refusedCall.test(got), false);
            String want = seen(twin, slice);
            due(call + " left all as it was", seen(got, slice).equals(want), true);
        }
    }

    /** What can be seen of a computer, and of one slice of its memory, by looking, loading, bytes and steps. */
    private static String seen(Computer x, int slice) {
        StringBuilder text = new StringBuilder();
        look(x, text);
        lookAtSlice(x, slice, text);
        text.append(x.load(0x7B7C7D7E, 2)).append(x.transfer(0x5B)).append(x.transfer(0x5C)).append(x.transfer(0x5D));
        lookAtSlice(x, slice, text);
        text.append(x.key(0x61)).append(x.key(0x62));
        for (int i = 0; i < 3; i++) {
            text.append(x.step(1));
            look(x, text);
        }
        int[] ports = {64, 64, 64, 32, 33, 8, 100, 96, 96, 96, 96, 96, 100};
        for (int port : ports) {
            text.append(Bus.answer(x, port)).append(' ');
        }
        return text.toString();
    }

    private static void look(Computer x, StringBuilder text) {
        for (int k = 0; k <= 13; k++) {
            text.append('r').append(x.register(k)).append(' ');
        }
        for (int which = 0; which <= 2; which++) {
            text.append('l').append(x.lines(which)).append(' ');
        }
        text.append(x.halted()).append(x.count()).append(' ').append(x.interrupts()).append(' ');
    }

    private static void lookAtSlice(Computer x, int slice, StringBuilder text) {
        for (int address = slice * SLICE; address < (slice + 1) * SLICE; address++) {
            text.append(x.peek(address)).append(' ');
        }
    }

    static void end() {
        System.out.println(wrong == 0 ? "all answers are as due" : wrong + " answers are not as due");
        if (wrong != 0) {
            System.exit(1);
        }
    }
}
