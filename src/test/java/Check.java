/** What the tests share: counting wrong answers, and making computers with a program. */
final class Check {
    static final int AX = 0, CX = 1, DX = 2, BX = 3, SP = 4, BP = 5, SI = 6, DI = 7;
    static final int ES = 8, CS = 9, SS = 10, DS = 11, IP = 12, FLAGS = 13;
    static final int C = 1, Z = 64, S = 128, I = 512, D = 1024, O = 2048;

    private static int wrong = 0;

    private Check() {
    }

    static void due(String call, long got, long want) {
        if (got != want) {
            wrong++;
            System.out.println(call + " answered " + got + ", due is " + want);
        }
    }

    static void due(String call, boolean got, boolean want) {
        due(call, got ? 1 : 0, want ? 1 : 0);
    }

    /** A new computer with these bytes from 512 on, where it begins. */
    static SmallComputer with(int... program) {
        SmallComputer x = new SmallComputer();
        write(x, 512, program);
        return x;
    }

    static void write(SmallComputer x, int address, int... bytes) {
        for (int i = 0; i < bytes.length; i++) {
            due("poke(" + (address + i) + ", " + bytes[i] + ")", x.poke(address + i, bytes[i]), true);
        }
    }

    /** The program runs as many steps as said. */
    static SmallComputer ran(int steps, int... program) {
        SmallComputer x = with(program);
        due("step(" + steps + ")", x.step(steps), true);
        return x;
    }

    static void registerDue(String what, SmallComputer x, int k, int want) {
        due(what + ": register(" + k + ")", x.register(k), want);
    }

    static void wordDue(String what, SmallComputer x, int address, int want) {
        due(what + ": word at " + address, x.peek(address) | x.peek(address + 1) << 8, want);
    }

    /** All that can be seen without changing anything, in one text. */
    static String seen(SmallComputer x) {
        StringBuilder text = new StringBuilder();
        for (int address = 0; address < 1024; address++) {
            text.append(x.peek(address)).append(' ');
        }
        for (int k = 0; k <= 13; k++) {
            text.append('r').append(x.register(k)).append(' ');
        }
        for (int which = 0; which <= 2; which++) {
            text.append('l').append(x.lines(which)).append(' ');
        }
        return text.append(x.halted()).append(x.count()).append(' ').append(x.interrupts()).toString();
    }

    static void sameDue(String call, String before, SmallComputer x) {
        due(call + " left all as it was", before.equals(seen(x)), true);
    }

    static void end() {
        System.out.println(wrong == 0 ? "all answers are as due" : wrong + " answers are not as due");
        if (wrong != 0) {
            System.exit(1);
        }
    }
}
