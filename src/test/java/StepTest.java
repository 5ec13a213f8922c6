/** Promises 6, 9 and 14: what a step is, halted and interrupts. */
public final class StepTest {
    public static void main(String[] args) {
        steps();
        halting();
        requestsWantI();
        keptOff();
        interruptsCounted();
        Check.end();
    }

    private static void steps() {
        int[] refused = {0, 101, -1, Integer.MIN_VALUE, Integer.MAX_VALUE};
        SmallComputer x = Check.with(64, 64);
        String before = Check.seen(x);
        for (int n : refused) {
            Check.due("step(" + n + ")", x.step(n), false);
            Check.sameDue("step(" + n + ")", before, x);
        }
        for (int i = 0; i < 200; i++) {
            x.poke(512 + i, 64);
        }
        Check.due("step(1)", x.step(1), true);
        Check.registerDue("step(1)", x, Check.AX, 1);
        Check.due("step(100)", x.step(100), true);
        Check.registerDue("step(100)", x, Check.AX, 101);
    }

    /** All lines open, I as said, then the program. */
    private static SmallComputer open(int flags, int... program) {
        SmallComputer x = Check.ran(2, 176, 0, 230, 33);
        x.put(Check.IP, 600);
        x.put(Check.FLAGS, flags);
        Check.write(x, 600, program);
        Check.write(x, 36, 0x20, 0x03);
        return x;
    }

    private static void halting() {
        SmallComputer x = open(Check.I, 244, 64);
        Check.due("halted()", x.halted(), false);
        x.step(1);
        Check.due("halted()", x.halted(), true);
        Check.registerDue("HALT", x, Check.IP, 601);
        x.step(50);
        Check.registerDue("in HALT", x, Check.IP, 601);
        Check.registerDue("in HALT", x, Check.AX, 0);
        x.put(Check.IP, 601);
        Check.due("put does not end HALT", x.halted(), true);
        x.put(Check.FLAGS, 0);
        x.key(5);
        x.step(3);
        Check.due("without I it stays", x.halted(), true);
        Check.due("without I it stays", x.interrupts(), 0);
        x.put(Check.FLAGS, Check.I | Check.C);
        x.step(1);
        Check.due("the request ends HALT", x.halted(), false);
        Check.registerDue("the request", x, Check.IP, 0x320);
        Check.registerDue("the request", x, Check.FLAGS, Check.C);
        Check.wordDue("the request: IP", x, 250, 601);
        Check.wordDue("the request: FLAGS", x, 254, Check.I | Check.C);
        Check.due("the request", x.interrupts(), 1);
        // An interrupt that is no request cannot come in HALT: an UNKNOWN code waits.
        x = open(Check.I, 244, 96);
        x.step(5);
        Check.due("nothing is done in HALT", x.interrupts(), 0);
    }

    private static void requestsWantI() {
        SmallComputer x = open(0, 64, 64, 64);
        x.key(1);
        x.step(2);
        Check.due("without I", x.interrupts(), 0);
        Check.registerDue("without I", x, Check.AX, 2);
        x.put(Check.FLAGS, Check.I);
        x.step(1);
        Check.due("with I", x.interrupts(), 1);
        Check.registerDue("the request is all of the step", x, Check.AX, 2);
        Check.wordDue("with I: IP", x, 250, 602);
        // A return that sets I keeps nothing off.
        x = open(0, 207);
        Check.write(x, 250, 0x90, 0x02, 0, 0, 0, 0x02);
        x.put(Check.SP, 250);
        x.key(1);
        x.step(2);
        Check.due("after IRET", x.interrupts(), 1);
        Check.wordDue("after IRET", x, 250, 0x290);
    }

    private static void keptOff() {
        int[][] programs = {{23, 64, 64}, {142, 0xD0, 64, 64}, {142, 0xF0, 64, 64}, {251, 64, 64}, {62, 23, 64, 64}};
        for (int[] program : programs) {
            SmallComputer x = open(Check.I, program);
            Check.write(x, 256, 0, 0);
            x.put(Check.AX, 0);
            x.step(1);
            x.key(1);
            x.step(1);
            Check.due("kept off behind " + program[0], x.interrupts(), 0);
            Check.registerDue("the next instruction is done", x, Check.AX, 1);
            x.step(1);
            Check.due("given then", x.interrupts(), 1);
            Check.registerDue("given then", x, Check.AX, 1);
        }
        int[][] others = {{31, 64}, {7, 64}, {142, 0xC0, 64}, {142, 0xD8, 64}, {249, 64}, {253, 64}, {22, 64},
            {140, 0xD0, 64}, {144, 64}, {62, 62, 62, 62, 23}, {142, 0xC8}};
        for (int[] program : others) {
            SmallComputer x = open(Check.I, program);
            Check.write(x, 256, 0, 0);
            x.step(1);
            int before = x.interrupts();
            x.put(Check.FLAGS, Check.I);
            x.key(1);
            x.step(1);
            Check.due("not kept off behind " + program[0], x.interrupts(), before + 1);
            Check.due("not kept off behind " + program[0], x.lines(1), 2);
        }
        // Behind 251 and HALT: the step of the HALT is kept off, the next one is not.
        SmallComputer x = open(0, 251, 244, 64);
        x.key(1);
        x.step(2);
        Check.due("251 and HALT", x.halted(), true);
        x.step(1);
        Check.due("251 and HALT", x.halted(), false);
        Check.due("251 and HALT", x.interrupts(), 1);
        // One 251 after the other keeps it off each time.
        x = open(0, 251, 251, 251, 64);
        x.key(1);
        x.step(4);
        Check.due("251 three times", x.interrupts(), 0);
        x.step(1);
        Check.due("251 three times", x.interrupts(), 1);
    }

    private static void interruptsCounted() {
        SmallComputer x = open(0, 205, 3);
        x.step(1);
        Check.due("INT", x.interrupts(), 1);
        x.put(Check.IP, 600);
        Check.write(x, 600, 246, 0xF6);
        x.put(Check.CS, 0);
        x.put(Check.DX, 0);
        x.step(1);
        Check.due("division", x.interrupts(), 2);
        x.put(Check.IP, 600);
        x.put(Check.CS, 0);
        Check.write(x, 600, 96);
        x.step(1);
        Check.due("unknown", x.interrupts(), 3);
        x.put(Check.FLAGS, Check.I);
        x.key(1);
        x.step(1);
        Check.due("request", x.interrupts(), 4);
        x.put(Check.IP, 600);
        x.put(Check.CS, 0);
        x.poke(600, 144);
        x.step(1);
        Check.due("nothing", x.interrupts(), 4);
    }
}
