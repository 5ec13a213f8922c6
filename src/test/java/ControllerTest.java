/** Promise 12, lines, and the controller's ports 32 and 33. */
public final class ControllerTest {
    public static void main(String[] args) {
        linesWithinTheirEdges();
        linesOfAnotherWhich();
        everyMask();
        lowestUnmaskedIsGiven();
        givenIsInService();
        lowerThanEveryLineInService();
        maskedLineInServiceStillCounts();
        nothingToGive();
        lowestInServiceEnds();
        endWithNoneInService();
        requestedOrInServiceAnswered();
        otherBytesToPort32();
        interruptOfEachLine();
        Check.end();
    }

    /** A computer whose lines of these bits (of 0, 1 and 2) are requested, with all lines masked. */
    private static Computer requested(int bits) {
        Computer x = new Computer();
        if ((bits & 1) != 0) {
            Bus.out(x, 64, 1);
            Bus.out(x, 64, 0);
            Bus.in(x, 33);
            // A long start, so that the timer requests its line no more.
            Bus.out(x, 64, 0);
            Bus.out(x, 64, 0);
        }
        if ((bits & 2) != 0) {
            x.key(1);
        }
        if ((bits & 4) != 0) {
            Bus.out(x, 10, 0);
            x.transfer(0);
        }
        Check.due("requested(" + bits + "): lines(0)", x.lines(0), bits);
        return x;
    }

    /** Makes the line be in service, unless a lower one is. */
    private static void serve(Computer x, int line) {
        Bus.out(x, 33, 255 - (1 << line));
        Check.due("line " + line + " is given", Bus.given(x), true);
        Bus.out(x, 33, 255);
    }

    private static void linesWithinTheirEdges() {
        Check.sentence("The controller's lines as bits: 0 requested, 1 in service, 2 masked");
        Computer x = requested(7);
        serve(x, 2);
        Bus.out(x, 33, 0x5A);
        Check.due("lines(0)", x.lines(0), 3);
        Check.due("lines(1)", x.lines(1), 4);
        Check.due("lines(2)", x.lines(2), 0x5A);
    }

    private static void linesOfAnotherWhich() {
        Check.sentence("lines: -1 for another which");
        Computer x = requested(7);
        int[] others = {-1, 3, 4, -2, 256, Check.MIN, Check.MAX};
        for (int which : others) {
            Check.due("lines(" + which + ")", x.lines(which), -1);
        }
    }

    private static void everyMask() {
        Check.sentence("Port 33 gets and answers the masked lines, as bits");
        for (int mask = 0; mask < 256; mask++) {
            Computer x = new Computer();
            Bus.out(x, 33, mask);
            Check.due("port 33", Bus.in(x, 33), mask);
            Check.due("lines(2)", x.lines(2), mask);
            Check.due("lines(0)", x.lines(0), 0);
            Check.due("lines(1)", x.lines(1), 0);
        }
    }

    private static void lowestUnmaskedIsGiven() {
        Check.sentence("the lowest line that is requested and not masked");
        for (int bits = 0; bits < 8; bits++) {
            for (int mask = 0; mask < 8; mask++) {
                Computer x = requested(bits);
                Bus.out(x, 33, mask);
                int open = bits & ~mask;
                int lowest = open & -open;
                Check.due("requested " + bits + ", masked " + mask, Bus.given(x), open != 0);
                Check.due("requested " + bits + ", masked " + mask + ": lines(1)", x.lines(1), lowest);
                Check.due("requested " + bits + ", masked " + mask + ": lines(0)", x.lines(0), bits - lowest);
                Check.due("requested " + bits + ", masked " + mask + ": lines(2)", x.lines(2), mask);
            }
        }
        // Masking the highest lines, that nothing requests, keeps nothing off; masking all does.
        Computer x = requested(7);
        Bus.out(x, 33, 0xF8);
        Check.due("0xF8 masked", Bus.given(x), true);
        x = requested(7);
        Bus.out(x, 33, 0xFF);
        Check.due("0xFF masked", Bus.given(x), false);
    }

    private static void givenIsInService() {
        Check.sentence("given, it is not requested any more, but in service");
        Computer x = requested(2);
        serve(x, 1);
        Check.due("lines(0)", x.lines(0), 0);
        Check.due("lines(1)", x.lines(1), 2);
        Bus.out(x, 33, 0);
        Bus.in(x, 96);
        x.key(2);
        Check.due("requested again", x.lines(0), 2);
        Check.due("not given again, as it is in service", Bus.given(x), false);
        Bus.out(x, 32, 32);
        Check.due("given again then", Bus.given(x), true);
    }

    private static void lowerThanEveryLineInService() {
        Check.sentence("if it is lower than every line in service");
        // One line is in service, another one is requested.
        for (int service = 0; service < 3; service++) {
            for (int line = 0; line < 3; line++) {
                Computer x = requested(1 << service | 1 << line);
                serve(x, service);
                if (line == service) {
                    again(x, line);
                }
                Check.due("line " + line + " is requested", x.lines(0), 1 << line);
                Bus.out(x, 33, 0);
                Check.due("line " + line + " while " + service + " is in service", Bus.given(x), line < service);
                int want = line < service ? 1 << line | 1 << service : 1 << service;
                Check.due("line " + line + " while " + service + " is in service: lines(1)", x.lines(1), want);
            }
        }
        // Two are in service: lower than one of them is not enough.
        Computer x = requested(7);
        serve(x, 2);
        serve(x, 0);
        Bus.out(x, 33, 0);
        Check.due("line 1 while 0 and 2 are in service", Bus.given(x), false);
        x = requested(7);
        serve(x, 2);
        serve(x, 1);
        Bus.out(x, 33, 0);
        Check.due("line 0 while 1 and 2 are in service", Bus.given(x), true);
        Check.due("lines(1)", x.lines(1), 7);
    }

    /** Requests a line again that is in service. */
    private static void again(Computer x, int line) {
        if (line == 0) {
            Bus.out(x, 64, 1);
            Bus.out(x, 64, 0);
            Bus.in(x, 33);
            Bus.out(x, 64, 0);
            Bus.out(x, 64, 0);
        } else if (line == 1) {
            Bus.in(x, 96);
            x.key(3);
        } else {
            Bus.out(x, 10, 0);
            x.transfer(0);
        }
    }

    private static void maskedLineInServiceStillCounts() {
        Check.sentence("lower than every line in service, be it masked or not");
        Computer x = requested(3);
        serve(x, 0);
        Bus.out(x, 33, 1);
        Check.due("line 1 while 0, masked, is in service", Bus.given(x), false);
        Bus.out(x, 33, 0xFD);
        Check.due("line 1 alone is not masked", Bus.given(x), false);
        // A lower line that is requested but masked is no line in service.
        x = requested(7);
        Bus.out(x, 33, 3);
        Check.due("line 2 while 0 and 1 are masked", Bus.given(x), true);
        Check.due("line 2 while 0 and 1 are masked: lines(1)", x.lines(1), 4);
    }

    private static void nothingToGive() {
        Check.sentence("the controller has a request to give");
        Computer x = new Computer();
        Bus.out(x, 33, 0);
        Check.due("none is requested", Bus.given(x), false);
        Check.registerDue("none is requested: an instruction is done", x, Check.IP, 601);
        Check.due("none is requested: lines(1)", x.lines(1), 0);
    }

    private static void lowestInServiceEnds() {
        Check.sentence("Port 32 gets 32: the lowest line in service is so no more");
        Computer x = requested(7);
        serve(x, 2);
        serve(x, 1);
        serve(x, 0);
        int[] left = {6, 4, 0};
        for (int bits : left) {
            Bus.out(x, 32, 32);
            Check.due("lines(1)", x.lines(1), bits);
            Check.due("lines(0)", x.lines(0), 0);
            Check.due("lines(2)", x.lines(2), 255);
        }
        x = requested(5);
        serve(x, 2);
        serve(x, 0);
        Bus.out(x, 32, 32);
        Check.due("of 0 and 2", x.lines(1), 4);
    }

    private static void endWithNoneInService() {
        Check.sentence("Port 32 gets 32, none being in service");
        Computer x = requested(7);
        Bus.out(x, 32, 32);
        Check.due("lines(1)", x.lines(1), 0);
        Check.due("lines(0)", x.lines(0), 7);
        Bus.out(x, 33, 0);
        Check.due("a request is given then", Bus.given(x), true);
    }

    private static void requestedOrInServiceAnswered() {
        Check.sentence("port 32 answers the requested lines (10, at first) or those in service (11) from then on");
        Computer x = requested(6);
        Check.due("at first", Bus.in(x, 32), 6);
        serve(x, 2);
        Check.due("requested", Bus.in(x, 32), 2);
        Bus.out(x, 32, 11);
        Check.due("in service", Bus.in(x, 32), 4);
        Check.due("in service, from then on", Bus.in(x, 32), 4);
        Bus.out(x, 32, 11);
        Check.due("in service, said twice", Bus.in(x, 32), 4);
        Bus.out(x, 32, 32);
        Check.due("none in service", Bus.in(x, 32), 0);
        Bus.out(x, 32, 10);
        Check.due("requested again", Bus.in(x, 32), 2);
        Bus.out(x, 32, 32);
        Check.due("requested, from then on", Bus.in(x, 32), 2);
    }

    private static void otherBytesToPort32() {
        Check.sentence("Port 32 gets another byte: what is not told does nothing");
        for (int shown = 10; shown <= 11; shown++) {
            for (int b = 0; b < 256; b++) {
                if (b == 10 || b == 11 || b == 32) {
                    continue;
                }
                Computer x = requested(6);
                serve(x, 2);
                Bus.out(x, 32, shown);
                Bus.out(x, 32, b);
                Check.due("byte " + b + ": lines(0)", x.lines(0), 2);
                Check.due("byte " + b + ": lines(1)", x.lines(1), 4);
                Check.due("byte " + b + ": lines(2)", x.lines(2), 255);
                Check.due("byte " + b + ": port 32", Bus.in(x, 32), shown == 10 ? 2 : 4);
            }
        }
    }

    private static void interruptOfEachLine() {
        Check.sentence("it is given as INT 8 + its line");
        for (int line = 0; line < 3; line++) {
            Computer x = requested(1 << line);
            for (int n = 0; n < 16; n++) {
                Check.write(x, 4 * n, n, 0x03, n, 0x04);
            }
            Bus.out(x, 33, 0);
            Check.due("line " + line, Bus.given(x), true);
            Check.registerDue("line " + line, x, Check.IP, 0x308 + line);
            Check.registerDue("line " + line, x, Check.CS, 0x408 + line);
            Check.wordDue("line " + line + ": IP", x, 250, 600);
            Check.wordDue("line " + line + ": FLAGS", x, 254, Check.I);
        }
    }
}
