/** Promises 10 to 13: key, transfer, lines and count, and the ports that they belong to. */
public final class PortTest {
    public static void main(String[] args) {
        otherPorts();
        maskAndLines();
        orderOfRequests();
        endOfService();
        timerRuns();
        timerTurns();
        timerAnswers();
        keysWait();
        keyPorts();
        channelIsSet();
        channelTurns();
        channelEnds();
        channelRefuses();
        Check.end();
    }

    /** Port gets b, by an instruction of its own; the timer counts one step. */
    private static void out(SmallComputer x, int port, int b) {
        Check.write(x, 512, 230, port);
        x.put(Check.AX, 0x7700 | b);
        one(x);
    }

    private static int in(SmallComputer x, int port) {
        Check.write(x, 512, 228, port);
        x.put(Check.AX, 0x77A5);
        one(x);
        Check.due("AH stays", x.register(Check.AX) >> 8, 0x77);
        return x.register(Check.AX) & 255;
    }

    private static void one(SmallComputer x) {
        x.put(Check.CS, 0);
        x.put(Check.IP, 512);
        Check.due("step(1)", x.step(1), true);
        Check.registerDue("port", x, Check.IP, 514);
    }

    private static void request(SmallComputer x) {
        x.put(Check.FLAGS, Check.I);
        x.put(Check.IP, 600);
        x.poke(600, 144);
        x.put(Check.CS, 0);
        x.put(Check.SP, 256);
        x.step(1);
        x.put(Check.FLAGS, 0);
    }

    private static void otherPorts() {
        SmallComputer x = new SmallComputer();
        for (int port = 0; port < 256; port++) {
            boolean told = port == 8 || port == 32 || port == 33 || port == 64 || port == 96 || port == 100;
            if (!told) {
                Check.due("port " + port, in(x, port), 255);
            }
            boolean gets = port == 2 || port == 3 || port == 10 || port == 12 || port == 32 || port == 33
                || port == 64 || port == 131;
            if (!gets) {
                out(x, port, 85);
            }
        }
        Check.due("lines(0)", x.lines(0), 0);
        Check.due("lines(1)", x.lines(1), 0);
        Check.due("lines(2)", x.lines(2), 255);
        Check.due("count()", x.count(), 0);
        Check.due("transfer(1)", x.transfer(1), false);
        int[] wrong = {-1, 3, Integer.MIN_VALUE, Integer.MAX_VALUE};
        for (int which : wrong) {
            Check.due("lines(" + which + ")", x.lines(which), -1);
        }
    }

    private static void maskAndLines() {
        SmallComputer x = new SmallComputer();
        Check.due("port 33 at first", in(x, 33), 255);
        int[] masks = {0, 0xA5, 255, 0xFD};
        for (int mask : masks) {
            out(x, 33, mask);
            Check.due("port 33", in(x, 33), mask);
            Check.due("lines(2)", x.lines(2), mask);
        }
        Check.due("key(9)", x.key(9), true);
        Check.due("lines(0)", x.lines(0), 2);
        Check.due("port 32", in(x, 32), 2);
        out(x, 32, 11);
        Check.due("port 32 in service", in(x, 32), 0);
        request(x);
        Check.due("port 32 in service", in(x, 32), 2);
        Check.due("lines(0)", x.lines(0), 0);
        Check.due("lines(1)", x.lines(1), 2);
        out(x, 32, 12);
        out(x, 32, 0);
        Check.due("other bytes say nothing", in(x, 32), 2);
        out(x, 32, 10);
        Check.due("port 32 requested", in(x, 32), 0);
        Check.due("lines(1) stays", x.lines(1), 2);
    }

    /** A computer with lines 0, 1 and 2 requested, and the mask as said; the timer stands at its start then. */
    private static SmallComputer requested(int mask) {
        SmallComputer x = new SmallComputer();
        out(x, 10, 0);
        x.transfer(0);
        x.key(1);
        out(x, 64, 100);
        out(x, 64, 0);
        out(x, 33, mask);
        x.poke(512, 235);
        x.poke(513, 254);
        x.put(Check.IP, 512);
        x.step(99);
        Check.due("three lines are requested", x.lines(0), 7);
        return x;
    }

    private static void orderOfRequests() {
        for (int mask = 0; mask < 8; mask++) {
            SmallComputer x = requested(mask);
            for (int line = 0; line < 3; line++) {
                Check.write(x, 32 + 4 * line, 0x50 + line, 0x03);
            }
            int lowest = (mask & 1) == 0 ? 0 : (mask & 2) == 0 ? 1 : (mask & 4) == 0 ? 2 : -1;
            request(x);
            Check.due("mask " + mask, x.lines(1), lowest < 0 ? 0 : 1 << lowest);
            Check.due("mask " + mask, x.lines(0), lowest < 0 ? 7 : 7 & ~(1 << lowest));
            Check.registerDue("mask " + mask, x, Check.IP, lowest < 0 ? 601 : 0x350 + lowest);
            Check.due("mask " + mask, x.interrupts(), lowest < 0 ? 0 : 1);
            request(x);
            Check.due("none but a lower one follows", x.interrupts(), lowest < 0 ? 0 : 1);
        }
        // A lower line comes between.
        SmallComputer x = requested(3);
        request(x);
        Check.due("line 2", x.lines(1), 4);
        out(x, 33, 1);
        request(x);
        Check.due("line 1 over it", x.lines(1), 6);
        out(x, 33, 0);
        request(x);
        Check.due("line 0 over them", x.lines(1), 7);
        Check.due("interrupts()", x.interrupts(), 3);
    }

    private static void endOfService() {
        SmallComputer x = requested(3);
        request(x);
        out(x, 33, 0);
        request(x);
        Check.due("in service", x.lines(1), 5);
        request(x);
        Check.due("line 1 waits", x.lines(1), 5);
        out(x, 32, 32);
        Check.due("the lowest one ends", x.lines(1), 4);
        request(x);
        Check.due("line 1 is given", x.lines(1), 6);
        out(x, 32, 32);
        out(x, 32, 32);
        Check.due("all end", x.lines(1), 0);
        out(x, 32, 32);
        Check.due("none is left", x.lines(1), 0);
        // A line in service is not given again before its end.
        x = new SmallComputer();
        out(x, 33, 0);
        x.key(1);
        request(x);
        in(x, 96);
        x.key(2);
        Check.due("requested again", x.lines(0), 2);
        request(x);
        Check.due("not given again", x.interrupts(), 1);
        out(x, 32, 32);
        request(x);
        Check.due("given after the end", x.interrupts(), 2);
    }

    private static void timerRuns() {
        SmallComputer x = new SmallComputer();
        out(x, 64, 3);
        Check.due("count() after the lower byte", x.count(), 0);
        out(x, 64, 0);
        Check.due("count() after the higher byte", x.count(), 3);
        Check.write(x, 512, 235, 254);
        x.put(Check.IP, 512);
        int[] counts = {2, 1, 3, 2, 1, 3};
        for (int i = 0; i < counts.length; i++) {
            x.step(1);
            Check.due("count() in step " + i, x.count(), counts[i]);
            Check.due("lines(0) in step " + i, x.lines(0), i < 2 ? 0 : 1);
        }
        x = new SmallComputer();
        out(x, 64, 0);
        out(x, 64, 0);
        Check.due("0 is 65536", x.count(), 65536);
        Check.due("65536 is 0", in(x, 33), 255);
        Check.due("count()", x.count(), 65535);
        x = new SmallComputer();
        out(x, 64, 1);
        out(x, 64, 0);
        Check.due("START 1", x.lines(0), 0);
        x.step(1);
        Check.due("START 1", x.count(), 1);
        Check.due("START 1", x.lines(0), 1);
        // It counts in HALT, and in the step that gives its own request.
        x = new SmallComputer();
        out(x, 33, 254);
        out(x, 64, 4);
        out(x, 64, 0);
        Check.write(x, 700, 244);
        x.put(Check.IP, 700);
        x.put(Check.FLAGS, Check.I);
        x.step(3);
        Check.due("in HALT", x.count(), 1);
        Check.due("in HALT", x.halted(), true);
        x.step(1);
        Check.due("given in the same step", x.interrupts(), 1);
        Check.due("given in the same step", x.count(), 4);
        Check.due("given in the same step", x.lines(0), 0);
        Check.due("given in the same step", x.halted(), false);
    }

    private static void timerTurns() {
        SmallComputer x = new SmallComputer();
        out(x, 64, 0x34);
        Check.due("answers have their own turn", in(x, 64), 0);
        out(x, 64, 0x12);
        Check.due("count()", x.count(), 0x1234);
        out(x, 64, 0x78);
        Check.due("the lower byte alone", x.count(), 0x1233);
        out(x, 64, 0x56);
        Check.due("count() anew", x.count(), 0x5678);
    }

    private static void timerAnswers() {
        SmallComputer x = new SmallComputer();
        Check.due("lower, not running", in(x, 64), 0);
        Check.due("higher, not running", in(x, 64), 0);
        out(x, 64, 0x02);
        out(x, 64, 0x13);
        Check.due("lower", in(x, 64), 0x01);
        for (int i = 0; i < 4; i++) {
            in(x, 33);
        }
        Check.due("higher of the same count", in(x, 64), 0x13);
        Check.due("lower anew", in(x, 64), 0xFB);
        Check.due("higher anew", in(x, 64), 0x12);
        // The count that is answered is the one of the lower byte, though the timer did not run then.
        x = new SmallComputer();
        in(x, 64);
        out(x, 64, 0);
        out(x, 64, 0x40);
        Check.due("higher of 0", in(x, 64), 0);
        Check.due("lower", in(x, 64), 0xFE);
        Check.due("higher", in(x, 64), 0x3F);
        x = new SmallComputer();
        out(x, 64, 1);
        out(x, 64, 0);
        out(x, 64, 0);
        out(x, 64, 0);
        Check.due("65536", x.count(), 65536);
        Check.due("lower of 65535", in(x, 64), 255);
        Check.due("higher of 65535", in(x, 64), 255);
    }

    private static void keysWait() {
        SmallComputer x = new SmallComputer();
        String before = Check.seen(x);
        int[] refused = {-1, 256, Integer.MIN_VALUE, Integer.MAX_VALUE};
        for (int code : refused) {
            Check.due("key(" + code + ")", x.key(code), false);
            Check.sameDue("key(" + code + ")", before, x);
        }
        int[] codes = {255, 0, 7, 9};
        for (int code : codes) {
            Check.due("key(" + code + ")", x.key(code), true);
        }
        Check.due("the fifth key", x.key(1), false);
        Check.due("a wrong fifth key", x.key(256), false);
        for (int code : codes) {
            Check.due("port 100", in(x, 100), 1);
            Check.due("port 96", in(x, 96), code);
        }
        Check.due("port 100, none", in(x, 100), 0);
        Check.due("port 96, none", in(x, 96), 0);
        Check.due("key(3)", x.key(3), true);
        Check.due("port 96", in(x, 96), 3);
    }

    private static void keyPorts() {
        SmallComputer x = new SmallComputer();
        out(x, 33, 0);
        x.key(1);
        Check.due("the first key requests", x.lines(0), 2);
        request(x);
        Check.due("given", x.lines(0), 0);
        x.key(2);
        x.key(3);
        Check.due("a later key requests nothing", x.lines(0), 0);
        in(x, 100);
        Check.due("port 100 requests nothing", x.lines(0), 0);
        in(x, 96);
        Check.due("one is left", x.lines(0), 2);
        out(x, 32, 32);
        request(x);
        in(x, 96);
        Check.due("one is left", x.lines(0), 2);
        out(x, 32, 32);
        request(x);
        in(x, 96);
        Check.due("none is left", x.lines(0), 0);
        in(x, 96);
        Check.due("none was left", x.lines(0), 0);
        x.key(4);
        Check.due("a first key again", x.lines(0), 2);
        in(x, 96);
        Check.due("a key that is taken leaves its request", x.lines(0), 2);
    }

    private static void channelIsSet() {
        for (int page = 0; page < 8; page++) {
            SmallComputer x = new SmallComputer();
            out(x, 131, page);
            out(x, 2, 0x91);
            out(x, 2, 0x33);
            out(x, 3, 1);
            out(x, 3, 0);
            Check.due("closed", x.transfer(1), false);
            out(x, 10, 0xFB);
            Check.due("open", x.transfer(0xEE), true);
            Check.due("page " + page, x.peek(256 * (page % 4) + 0x91), 0xEE);
            out(x, 10, 4);
            Check.due("closed again", x.transfer(2), false);
            out(x, 10, 1);
            Check.due("open again", x.transfer(255), true);
            Check.due("page " + page, x.peek(256 * (page % 4) + 0x92), 255);
            Check.due("lines(0)", x.lines(0), 4);
        }
    }

    private static int room(SmallComputer x, int most) {
        int taken = 0;
        while (taken < most && x.transfer(1)) {
            taken++;
        }
        return taken;
    }

    private static void channelTurns() {
        SmallComputer x = new SmallComputer();
        // The turn is shared: the second byte of any of the two ports is the higher one.
        out(x, 3, 5);
        out(x, 2, 0x44);
        out(x, 2, 0x55);
        out(x, 3, 0);
        out(x, 10, 0);
        Check.due("LEFT 5", room(x, 300), 6);
        Check.due("PLACE 0x55", x.peek(0x55), 1);
        Check.due("PLACE 0x55", x.peek(0x44), 0);
        x = new SmallComputer();
        out(x, 3, 2);
        out(x, 12, 99);
        out(x, 3, 3);
        out(x, 3, 1);
        out(x, 10, 0);
        Check.due("LEFT 0x103", room(x, 400), 0x104);
        // Each byte counts at once: the higher one of LEFT stays when the lower one comes.
        x = new SmallComputer();
        out(x, 3, 201);
        out(x, 3, 1);
        out(x, 3, 2);
        out(x, 10, 0);
        Check.due("LEFT 0x102", room(x, 400), 0x103);
        x = new SmallComputer();
        out(x, 2, 7);
        out(x, 3, 1);
        out(x, 12, 0);
        out(x, 12, 0);
        out(x, 3, 4);
        out(x, 10, 0);
        Check.due("LEFT 0x104", room(x, 400), 0x105);
        Check.due("PLACE 7", x.peek(7), 1);
    }

    private static void channelEnds() {
        SmallComputer x = new SmallComputer();
        out(x, 131, 3);
        out(x, 2, 255);
        out(x, 12, 0);
        out(x, 3, 1);
        out(x, 10, 0);
        Check.due("transfer(5)", x.transfer(5), true);
        Check.due("not done", in(x, 8), 0);
        Check.due("lines(0)", x.lines(0), 0);
        Check.due("transfer(6)", x.transfer(6), true);
        Check.due("peek(1023)", x.peek(1023), 5);
        Check.due("PLACE wraps in its page", x.peek(768), 6);
        Check.due("closed", x.transfer(7), false);
        Check.due("peek(769)", x.peek(769), 0);
        Check.due("lines(0)", x.lines(0), 4);
        Check.due("done", in(x, 8), 2);
        Check.due("done no more", in(x, 8), 0);
        out(x, 10, 0);
        Check.due("LEFT stays 0", x.transfer(8), true);
        Check.due("closed at once", x.transfer(8), false);
        Check.due("peek(769)", x.peek(769), 8);
        out(x, 10, 0);
        Check.due("opening leaves DONE", in(x, 8), 2);
    }

    private static void channelRefuses() {
        SmallComputer x = new SmallComputer();
        out(x, 10, 0);
        String before = Check.seen(x);
        int[] refused = {-1, 256, Integer.MIN_VALUE, Integer.MAX_VALUE};
        for (int b : refused) {
            Check.due("transfer(" + b + ")", x.transfer(b), false);
            Check.sameDue("transfer(" + b + ")", before, x);
        }
        Check.due("transfer(0)", x.transfer(0), true);
        before = Check.seen(x);
        Check.due("transfer(9), closed", x.transfer(9), false);
        Check.sameDue("transfer(9), closed", before, x);
    }
}
