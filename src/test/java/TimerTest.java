/** Promise 13, count, and the timer's port 64. */
public final class TimerTest {
    public static void main(String[] args) {
        notRunning();
        lowerByteAlone();
        startsWithTheHigherByte();
        zeroIs65536();
        countsDownToStart();
        shortestStart();
        longStarts();
        startAnew();
        lowerByteLeavesStart();
        requestsEachTime();
        countsInEveryStep();
        requestInTheSameStep();
        answersInTurn();
        answersAreOfOneCount();
        answersWhileNotRunning();
        answersHaveATurnOfTheirOwn();
        Check.end();
    }

    private static void start(Computer x, int word) {
        Bus.out(x, 64, word & 255);
        Bus.out(x, 64, word >> 8);
    }

    /** From here on nothing happens in a step but that the timer counts. */
    private static void idle(Computer x) {
        Check.write(x, 512, 235, 254);
        x.put(Check.CS, 0);
        x.put(Check.IP, 512);
    }

    private static void notRunning() {
        Check.sentence("count: 0 if it does not run");
        Computer x = new Computer();
        Check.due("count() at first", x.count(), 0);
        idle(x);
        x.step(100);
        Check.due("count() after 100 steps", x.count(), 0);
        Check.due("lines(0) after 100 steps", x.lines(0), 0);
    }

    private static void lowerByteAlone() {
        Check.sentence("port 64 gets bytes, lower and higher in turn");
        Computer x = new Computer();
        Bus.out(x, 64, 2);
        Check.due("count() after the lower byte", x.count(), 0);
        idle(x);
        x.step(100);
        Check.due("count() after the lower byte and 100 steps", x.count(), 0);
        Check.due("lines(0) after the lower byte and 100 steps", x.lines(0), 0);
    }

    private static void startsWithTheHigherByte() {
        Check.sentence("with each higher one its START becomes the word, its COUNT too, and it runs");
        int[] words = {1, 2, 255, 256, 257, 0x1234, 0x3412, 32767, 32768, 65280, 65534, 65535};
        for (int word : words) {
            Computer x = new Computer();
            start(x, word);
            Check.due("count() with START " + word, x.count(), word);
            idle(x);
            x.step(1);
            Check.due("count() with START " + word + " a step on", x.count(), word == 1 ? 1 : word - 1);
        }
    }

    private static void zeroIs65536() {
        Check.sentence("(0 is 65536)");
        // Port 64 never meets 65536 itself: a step counts before it asks, and 512 calls have no steps enough for START.
        Computer x = new Computer();
        start(x, 0);
        Check.due("count()", x.count(), 65536);
        idle(x);
        x.step(1);
        Check.due("count() a step on", x.count(), 65535);
        Check.due("lines(0) a step on", x.lines(0), 0);
        x.step(100);
        Check.due("count() 100 steps on", x.count(), 65435);
        Check.due("lower byte of 65434", Bus.in(x, 64), 65434 & 255);
        Check.due("higher byte of 65434", Bus.in(x, 64), 65434 >> 8);
    }

    private static void countsDownToStart() {
        Check.sentence("COUNT becomes less by 1; at 0 it becomes START, and line 0 is requested");
        Computer x = new Computer();
        start(x, 3);
        idle(x);
        int[] counts = {2, 1, 3, 2, 1, 3};
        for (int i = 0; i < counts.length; i++) {
            x.step(1);
            Check.due("count() in step " + i, x.count(), counts[i]);
            Check.due("lines(0) in step " + i, x.lines(0), i < 2 ? 0 : 1);
        }
    }

    private static void shortestStart() {
        Check.sentence("START 1: at 0 it becomes START in every step");
        Computer x = new Computer();
        start(x, 1);
        Check.due("count()", x.count(), 1);
        Check.due("lines(0)", x.lines(0), 0);
        idle(x);
        for (int i = 0; i < 3; i++) {
            x.step(1);
            Check.due("count()", x.count(), 1);
            Check.due("lines(0)", x.lines(0), 1);
        }
    }

    private static void longStarts() {
        Check.sentence("at 0 it becomes START");
        int[] words = {100, 255, 256, 257, 300, 512};
        for (int word : words) {
            Computer x = new Computer();
            start(x, word);
            idle(x);
            for (int left = word - 1; left > 0; left -= Math.min(100, left)) {
                x.step(Math.min(100, left));
            }
            Check.due("START " + word + ": count() at the end", x.count(), 1);
            Check.due("START " + word + ": lines(0) at the end", x.lines(0), 0);
            x.step(1);
            Check.due("START " + word + ": count() behind it", x.count(), word);
            Check.due("START " + word + ": lines(0) behind it", x.lines(0), 1);
        }
    }

    private static void startAnew() {
        Check.sentence("with each higher one its START becomes the word, its COUNT too");
        Computer x = new Computer();
        start(x, 50);
        start(x, 0x1234);
        Check.due("count() anew", x.count(), 0x1234);
        start(x, 2);
        Check.due("count() anew", x.count(), 2);
        Check.due("lines(0)", x.lines(0), 0);
        idle(x);
        x.step(2);
        Check.due("count() is START anew", x.count(), 2);
        Check.due("lines(0)", x.lines(0), 1);
        // The lower byte of before is no part of it.
        x = new Computer();
        start(x, 0x00FF);
        start(x, 0x0100);
        Check.due("count() anew", x.count(), 0x0100);
        start(x, 0);
        Check.due("count() anew", x.count(), 65536);
    }

    private static void lowerByteLeavesStart() {
        Check.sentence("with each higher one, not with a lower one");
        Computer x = new Computer();
        start(x, 3);
        Bus.out(x, 64, 200);
        Check.due("count() after the lower byte", x.count(), 2);
        idle(x);
        x.step(2);
        Check.due("START is what it was", x.count(), 3);
        Bus.out(x, 64, 0);
        Check.due("count() after the higher byte", x.count(), 200);
    }

    private static void requestsEachTime() {
        Check.sentence("at 0 it becomes START, and line 0 is requested");
        Computer x = new Computer();
        Bus.out(x, 33, 254);
        start(x, 90);
        for (int i = 0; i < 3; i++) {
            idle(x);
            x.step(90);
            Check.due("lines(0)", x.lines(0), 1);
            // The step that gives it counts too, and so does the one that ends its service.
            Check.due("given", Bus.given(x), true);
            Check.due("lines(0)", x.lines(0), 0);
            Bus.out(x, 32, 32);
            Check.due("count()", x.count(), 90 - 2 * (i + 1));
        }
    }

    private static void countsInEveryStep() {
        Check.sentence("A STEP: the timer counts; then ..");
        Computer x = new Computer();
        start(x, 100);
        Check.write(x, 600, 96, 244, 144);
        x.put(Check.IP, 600);
        x.step(1);
        Check.due("in the step of an UNKNOWN code", x.count(), 99);
        x.put(Check.CS, 0);
        x.put(Check.IP, 601);
        x.step(1);
        Check.due("in the step of HALT", x.count(), 98);
        x.step(10);
        Check.due("in HALT", x.count(), 88);
        Check.due("in HALT", x.halted(), true);
        Check.due("step(0)", x.step(0), false);
        Check.due("step(101)", x.step(101), false);
        Check.due("in refused calls", x.count(), 88);
        // Without an instruction of its own: a step that gives a request.
        x = new Computer();
        Bus.out(x, 33, 253);
        start(x, 100);
        x.key(1);
        Check.due("given", Bus.given(x), true);
        Check.due("in the step that gives a request", x.count(), 99);
    }

    private static void requestInTheSameStep() {
        Check.sentence("the timer counts; then, if the controller has a request to give");
        Computer x = new Computer();
        Bus.out(x, 33, 254);
        start(x, 4);
        x.poke(700, 244);
        x.put(Check.IP, 700);
        x.put(Check.FLAGS, Check.I);
        x.step(3);
        Check.due("COUNT 1", x.count(), 1);
        Check.due("COUNT 1: halted()", x.halted(), true);
        Check.due("COUNT 1: interrupts()", x.interrupts(), 0);
        x.step(1);
        Check.due("given in the step of the request", x.interrupts(), 1);
        Check.due("given in the step of the request: count()", x.count(), 4);
        Check.due("given in the step of the request: lines(0)", x.lines(0), 0);
        Check.due("given in the step of the request: lines(1)", x.lines(1), 1);
        Check.due("given in the step of the request: halted()", x.halted(), false);
    }

    private static void answersInTurn() {
        Check.sentence("Port 64 answers the lower and the higher byte of COUNT");
        Computer x = new Computer();
        start(x, 0x1302);
        Check.due("lower", Bus.in(x, 64), 0x01);
        Check.due("higher", Bus.in(x, 64), 0x13);
        Check.due("lower", Bus.in(x, 64), 0xFF);
        Check.due("higher", Bus.in(x, 64), 0x12);
        x = new Computer();
        start(x, 0);
        Check.due("lower of 65535", Bus.in(x, 64), 255);
        Check.due("higher of 65535", Bus.in(x, 64), 255);
        x = new Computer();
        start(x, 1);
        Check.due("lower of 1", Bus.in(x, 64), 1);
        Check.due("higher of 1", Bus.in(x, 64), 0);
    }

    private static void answersAreOfOneCount() {
        Check.sentence("of COUNT as it was when the lower one was answered");
        Computer x = new Computer();
        start(x, 0x0201);
        Check.due("lower of 0x0200", Bus.in(x, 64), 0);
        Check.due("higher of 0x0200, though it is 0x01FF now", Bus.in(x, 64), 2);
        Check.due("count()", x.count(), 0x01FF);
        x = new Computer();
        start(x, 0x0302);
        Check.due("lower of 0x0301", Bus.in(x, 64), 1);
        idle(x);
        x.step(100);
        start(x, 0x7777);
        Check.due("higher of 0x0301, though it was begun anew", Bus.in(x, 64), 3);
        Check.due("lower of 0x7775", Bus.in(x, 64), 0x75);
    }

    private static void answersWhileNotRunning() {
        Check.sentence("(0, too, if it does not run)");
        Computer x = new Computer();
        for (int i = 0; i < 3; i++) {
            Check.due("not running", Bus.in(x, 64), 0);
        }
        start(x, 0x4000);
        Check.due("higher of the 0 that was answered", Bus.in(x, 64), 0);
        Check.due("lower of 0x3FFE", Bus.in(x, 64), 0xFE);
        Check.due("higher of 0x3FFE", Bus.in(x, 64), 0x3F);
    }

    private static void answersHaveATurnOfTheirOwn() {
        Check.sentence("in a turn of their own");
        Computer x = new Computer();
        Bus.out(x, 64, 0x34);
        Check.due("answered between two bytes", Bus.in(x, 64), 0);
        Bus.out(x, 64, 0x12);
        Check.due("the second one was the higher one", x.count(), 0x1234);
        Bus.out(x, 64, 0x78);
        Check.due("the higher byte of the 0 before", Bus.in(x, 64), 0);
        Check.due("the lower one alone", x.count(), 0x1232);
        Bus.out(x, 64, 0x56);
        Check.due("count() anew", x.count(), 0x5678);
    }
}
