import java.util.Arrays;

/** Promises 6, 9 and 14: what a step is, halted and interrupts. */
public final class StepTest {
    public static void main(String[] args) {
        stepsWithinTheirEdges();
        stepsBeyondTheirEdges();
        manyStepsAreSingleSteps();
        haltedFromHaltOn();
        nothingIsDoneInHalt();
        haltEndsByARequestAlone();
        haltWithoutI();
        haltMasked();
        requestsWantI();
        requestIsAllOfTheStep();
        keptOffForOneStep();
        notKeptOff();
        keptOffThenHalt();
        keptOffAgainAndAgain();
        keptOffOverCalls();
        interruptsCounted();
        interruptsNotCounted();
        Check.end();
    }

    /** All lines open, FLAGS as said, and the program at 600; line 1 leads to 800. */
    private static Computer open(int flags, int... program) {
        Computer x = Check.ran(2, 176, 0, 230, 33);
        x.put(Check.IP, 600);
        x.put(Check.FLAGS, flags);
        Check.write(x, 600, program);
        Check.write(x, 36, 0x20, 0x03);
        return x;
    }

    private static void stepsWithinTheirEdges() {
        Check.sentence("step: n steps, 1 .. 100");
        int[] counts = {1, 2, 50, 99, 100};
        for (int n : counts) {
            Computer x = Check.with(64, 235, 253);
            Check.due("step(" + n + ")", x.step(n), true);
            Check.registerDue("step(" + n + ")", x, Check.AX, (n + 1) / 2);
            Check.registerDue("step(" + n + ")", x, Check.IP, n % 2 == 0 ? 512 : 513);
        }
    }

    private static void stepsBeyondTheirEdges() {
        Check.sentence("step: false if n is not 1 .. 100");
        int[] refused = {0, -1, 101, 102, 256, -100, Check.MIN, Check.MAX};
        Computer x = Check.with(64, 235, 253);
        for (int n : refused) {
            Check.due("step(" + n + ")", x.step(n), false);
            Check.registerDue("step(" + n + ")", x, Check.AX, 0);
            Check.registerDue("step(" + n + ")", x, Check.IP, 512);
        }
    }

    private static void manyStepsAreSingleSteps() {
        Check.sentence("n steps");
        int[] program = {64, 3, 216, 80, 251, 226, 249};
        Computer one = open(Check.I, program);
        Computer many = open(Check.I, program);
        one.key(3);
        many.key(3);
        for (int i = 0; i < 100; i++) {
            one.step(1);
        }
        many.step(100);
        for (int k = 0; k <= 13; k++) {
            Check.registerDue("step(100) and 100 times step(1)", many, k, one.register(k));
        }
        Check.due("interrupts()", many.interrupts(), one.interrupts());
    }

    private static void haltedFromHaltOn() {
        Check.sentence("Whether it is in HALT");
        Computer x = open(0, 144, 244, 64);
        Check.due("before", x.halted(), false);
        x.step(1);
        Check.due("before", x.halted(), false);
        x.step(1);
        Check.due("in HALT", x.halted(), true);
        Check.registerDue("behind HALT", x, Check.IP, 602);
        x.put(Check.IP, 600);
        x.poke(600, 64);
        x.put(Check.FLAGS, Check.I);
        Check.due("put and poke do not end HALT", x.halted(), true);
        x.step(1);
        Check.due("nor does a step", x.halted(), true);
    }

    private static void nothingIsDoneInHalt() {
        Check.sentence("Otherwise, if it is in HALT, nothing");
        Computer x = open(Check.I, 244, 64, 96);
        x.step(1);
        x.step(100);
        Check.registerDue("in HALT", x, Check.IP, 601);
        Check.registerDue("in HALT", x, Check.AX, 0);
        Check.registerDue("in HALT", x, Check.SP, 256);
        Check.due("in HALT: interrupts()", x.interrupts(), 0);
        x.put(Check.IP, 602);
        x.step(5);
        Check.due("an UNKNOWN code waits: interrupts()", x.interrupts(), 0);
    }

    private static void haltEndsByARequestAlone() {
        Check.sentence("it is given as INT 8 + its line, HALT ends");
        Computer x = open(Check.I | Check.C, 244, 64);
        x.step(3);
        x.key(5);
        Check.due("the key alone does not end it", x.halted(), true);
        x.step(1);
        Check.due("the request ends HALT", x.halted(), false);
        Check.registerDue("the request", x, Check.IP, 800);
        Check.registerDue("the request", x, Check.FLAGS, Check.C);
        Check.wordDue("the request: IP behind HALT", x, 250, 601);
        Check.wordDue("the request: CS", x, 252, 0);
        Check.wordDue("the request: FLAGS", x, 254, Check.I | Check.C);
        Check.due("interrupts()", x.interrupts(), 1);
        Check.write(x, 800, 207);
        x.step(2);
        Check.registerDue("it goes on behind HALT", x, Check.AX, 1);
    }

    private static void haltWithoutI() {
        Check.sentence("if I is 1");
        Computer x = open(0, 244, 64);
        x.key(5);
        x.step(4);
        Check.due("without I: halted()", x.halted(), true);
        Check.due("without I: interrupts()", x.interrupts(), 0);
        Check.due("without I: lines(0)", x.lines(0), 2);
        x.put(Check.FLAGS, Check.ALL_FLAGS - Check.I);
        x.step(1);
        Check.due("with all other flags: halted()", x.halted(), true);
        x.put(Check.FLAGS, Check.I);
        x.step(1);
        Check.due("with I: halted()", x.halted(), false);
        Check.due("with I: interrupts()", x.interrupts(), 1);
    }

    private static void haltMasked() {
        Check.sentence("and the controller has a request to give");
        Computer x = Check.with(244);
        x.put(Check.FLAGS, Check.I);
        x.key(1);
        x.step(3);
        Check.due("masked: halted()", x.halted(), true);
        Check.due("masked: interrupts()", x.interrupts(), 0);
    }

    private static void requestsWantI() {
        Check.sentence("if I is 1");
        Computer x = open(Check.ALL_FLAGS - Check.I, 144, 144, 144);
        x.key(1);
        x.step(2);
        Check.due("without I", x.interrupts(), 0);
        Check.registerDue("without I", x, Check.IP, 602);
        x.put(Check.FLAGS, Check.I);
        x.step(1);
        Check.due("with I", x.interrupts(), 1);
        Check.wordDue("with I: IP", x, 250, 602);
        // Given, I is 0: the next one waits, though its line is lower.
        x = open(Check.I, 144);
        x.key(1);
        x.step(1);
        Check.registerDue("I := 0", x, Check.FLAGS, 0);
        Bus.out(x, 32, 32);
        Bus.in(x, 96);
        x.key(2);
        x.step(3);
        Check.due("without I again", x.interrupts(), 1);
    }

    private static void requestIsAllOfTheStep() {
        Check.sentence("and that is all of the step");
        Computer x = open(Check.I, 64, 64);
        x.poke(800, 67);
        x.key(1);
        x.step(1);
        Check.registerDue("no instruction where it was", x, Check.AX, 0);
        Check.registerDue("nor where it is now", x, Check.BX, 0);
        Check.registerDue("nor where it is now", x, Check.IP, 800);
        x.step(1);
        Check.registerDue("one in the next step", x, Check.BX, 1);
    }

    private static void keptOffForOneStep() {
        Check.sentence("the instruction before (in the step before) was no POP SS, no 142 to SS and no 251");
        int[][] programs = {{23, 64, 64}, {142, 0xD0, 64, 64}, {142, 0xF0, 64, 64}, {251, 64, 64}, {62, 23, 64, 64},
            {142, 0x16, 0, 0, 64, 64}, {243, 251, 64, 64}, {38, 142, 0xD0, 64, 64}};
        for (int[] program : programs) {
            Computer x = open(Check.I, program);
            String what = "behind " + Arrays.toString(program);
            x.step(1);
            x.key(1);
            x.step(1);
            Check.due(what + ": interrupts()", x.interrupts(), 0);
            Check.registerDue(what + ", the next instruction is done", x, Check.AX, 1);
            x.step(1);
            Check.due(what + ", given then: interrupts()", x.interrupts(), 1);
            Check.registerDue(what + ", given then", x, Check.AX, 1);
        }
        // I was 0 before 251, and the request was there.
        Computer x = open(0, 251, 64, 64);
        x.key(1);
        x.step(2);
        Check.due("behind the 251 that sets I", x.interrupts(), 0);
        x.step(1);
        Check.due("behind the instruction behind it", x.interrupts(), 1);
        Check.wordDue("behind the instruction behind it", x, 250, 602);
    }

    private static void notKeptOff() {
        Check.sentence("was no POP SS, no 142 to SS and no 251: others keep nothing off");
        int[][] others = {{31, 64}, {7, 64}, {142, 0xC0, 64}, {142, 0xD8, 64}, {142, 0xE0, 64}, {142, 0xF8, 64}, {249},
            {250}, {253}, {22, 64}, {140, 0xD0, 64}, {144, 64}, {62, 62, 62, 62, 23}, {142, 0xC8}, {142, 0xE8}, {15},
            {54, 144}, {90}, {92}, {139, 0xD0}, {207}, {205, 9}, {244}};
        for (int[] program : others) {
            Computer x = open(Check.I, program);
            x.step(1);
            int before = x.interrupts();
            x.put(Check.FLAGS, Check.I);
            x.key(1);
            x.step(1);
            String what = "behind " + Arrays.toString(program);
            Check.due(what + ": interrupts()", x.interrupts(), before + 1);
            Check.due(what + ": lines(1)", x.lines(1), 2);
        }
        // I that 207 takes from the stack, or that put sets, keeps nothing off.
        Computer x = open(0, 207);
        Check.write(x, 250, 0x90, 0x02, 0, 0, 0, 0x02);
        x.put(Check.SP, 250);
        x.key(1);
        x.step(2);
        Check.due("behind 207", x.interrupts(), 1);
        Check.wordDue("behind 207", x, 250, 0x290);
        x = open(0, 144, 144);
        x.key(1);
        x.step(1);
        x.put(Check.FLAGS, Check.I);
        x.put(Check.SS, 0);
        x.step(1);
        Check.due("behind put", x.interrupts(), 1);
    }

    private static void keptOffThenHalt() {
        Check.sentence("(in the step before)");
        Computer x = open(0, 251, 244, 64);
        x.key(1);
        x.step(2);
        Check.due("251 and HALT: halted()", x.halted(), true);
        Check.due("251 and HALT: interrupts()", x.interrupts(), 0);
        x.step(1);
        Check.due("a step on: halted()", x.halted(), false);
        Check.due("a step on: interrupts()", x.interrupts(), 1);
        Check.wordDue("a step on: IP", x, 250, 602);
    }

    private static void keptOffAgainAndAgain() {
        Check.sentence("(in the step before)");
        int[][] programs = {{251, 251, 251, 144}, {23, 251, 23, 144}, {251, 23, 251, 144}};
        for (int[] program : programs) {
            Computer x = open(Check.I, program);
            x.step(1);
            x.key(1);
            x.step(3);
            Check.due("three of them: interrupts()", x.interrupts(), 0);
            Check.registerDue("three of them and one more", x, Check.IP, 604);
            x.step(1);
            Check.due("then: interrupts()", x.interrupts(), 1);
        }
    }

    private static void keptOffOverCalls() {
        Check.sentence("the instruction before (in the step before), whatever calls come between");
        Computer x = open(0, 251, 64, 64);
        x.step(1);
        x.key(1);
        x.poke(900, 1);
        x.put(Check.CX, 5);
        x.step(0);
        x.step(101);
        x.seek(3);
        x.peek(3);
        x.step(1);
        Check.due("kept off still", x.interrupts(), 0);
        x.step(1);
        Check.due("given then", x.interrupts(), 1);
    }

    private static void interruptsCounted() {
        Check.sentence("How many interrupts were done so far, of any kind");
        Computer x = open(0, 205, 3);
        x.step(1);
        Check.due("INT", x.interrupts(), 1);
        again(x, 0, 246, 0xF6);
        Check.due("division", x.interrupts(), 2);
        again(x, 0, 96);
        Check.due("unknown", x.interrupts(), 3);
        again(x, 0, 62, 62, 62, 62);
        Check.due("four prefixes", x.interrupts(), 4);
        x.key(1);
        again(x, Check.I, 144);
        Check.due("request", x.interrupts(), 5);
        again(x, 0, 144);
        Check.due("nothing", x.interrupts(), 5);
        // Each one of many: INT 1 leads to itself.
        x = Check.with(205, 1);
        Check.write(x, 4, 0, 2, 0, 0);
        for (int i = 1; i <= 5; i++) {
            x.put(Check.SP, 256);
            x.step(20);
            Check.due("INT over and over", x.interrupts(), 20 * i);
        }
    }

    private static void again(Computer x, int flags, int... program) {
        Check.write(x, 600, program);
        x.put(Check.CS, 0);
        x.put(Check.IP, 600);
        x.put(Check.FLAGS, flags);
        x.step(1);
    }

    private static void interruptsNotCounted() {
        Check.sentence("How many interrupts were done so far: what was not done does not count");
        Computer x = open(0, 207);
        x.step(1);
        Check.due("207", x.interrupts(), 0);
        x = open(0, 232, 5, 0);
        x.step(1);
        Check.due("232", x.interrupts(), 0);
        x = open(0, 144);
        x.key(1);
        x.step(1);
        Check.due("a request that waits", x.interrupts(), 0);
    }
}
