/** Promise 11, transfer, and the channel's ports 2, 3, 8, 10, 12 and 131. */
public final class ChannelTest {
    public static void main(String[] args) {
        bytesWithinTheirEdges();
        bytesBeyondTheirEdges();
        closedAtFirst();
        bit2OfPort10();
        openedAndClosedBetween();
        everyPlaceAndPage();
        pageMod4();
        placeWrapsInItsPage();
        leftUntilDone();
        leftOverAByte();
        leftIsLarge();
        leftStaysZero();
        lowerByteOfPlaceAlone();
        bytesCountAtOnce();
        turnOfBothPorts();
        port12BeginsTheTurn();
        doneIsAnsweredOnce();
        requestsAtTheEndAlone();
        Check.end();
    }

    /** An open channel with PAGE, PLACE and LEFT as said. */
    private static Computer open(int page, int place, int left) {
        Computer x = new Computer();
        Bus.out(x, 131, page);
        Bus.out(x, 2, place);
        Bus.out(x, 2, 0);
        Bus.out(x, 3, left & 255);
        Bus.out(x, 3, left >> 8);
        Bus.out(x, 10, 0);
        return x;
    }

    /** How many bytes are taken until the channel is closed, or until so many were. */
    private static int room(Computer x, int most) {
        int taken = 0;
        while (taken < most && x.transfer(1)) {
            taken++;
        }
        return taken;
    }

    private static void bytesWithinTheirEdges() {
        Check.sentence("transfer: b 0 .. 255");
        for (int b = 0; b < 256; b++) {
            Computer x = open(1, 7, 1);
            x.poke(263, 255 - b);
            Check.due("transfer(" + b + ")", x.transfer(b), true);
            Check.due("transfer(" + b + "): peek(263)", x.peek(263), b);
        }
    }

    private static void bytesBeyondTheirEdges() {
        Check.sentence("transfer: false if b is not 0 .. 255");
        int[] bytes = {-1, 256, 257, -256, Check.MIN, Check.MAX};
        for (int b : bytes) {
            Computer x = open(1, 7, 0);
            x.poke(263, 99);
            Check.due("transfer(" + b + ")", x.transfer(b), false);
            Check.due("transfer(" + b + "): peek(263)", x.peek(263), 99);
            Check.due("transfer(" + b + "): lines(0)", x.lines(0), 0);
            Check.due("transfer(" + b + "): port 8", Bus.in(x, 8), 0);
            Check.due("transfer(5) then", x.transfer(5), true);
            Check.due("transfer(5) then: peek(263)", x.peek(263), 5);
            Check.due("transfer(" + b + ") when closed", x.transfer(b), false);
        }
    }

    private static void closedAtFirst() {
        Check.sentence("it is closed (as at first)");
        Computer x = new Computer();
        int[] bytes = {0, 1, 255, 256, -1};
        for (int b : bytes) {
            Check.due("transfer(" + b + ")", x.transfer(b), false);
        }
        Check.due("peek(0)", x.peek(0), 0);
        Check.due("lines(0)", x.lines(0), 0);
        Check.due("port 8", Bus.in(x, 8), 0);
        // Setting it up does not open it.
        Bus.out(x, 131, 0);
        Bus.out(x, 2, 1);
        Bus.out(x, 3, 1);
        Bus.out(x, 12, 0);
        Check.due("set up, but closed", x.transfer(1), false);
    }

    private static void bit2OfPort10() {
        Check.sentence("Port 10: bit 2 on: it is closed, off: open");
        for (int b = 0; b < 256; b++) {
            Computer x = new Computer();
            Bus.out(x, 10, b);
            Check.due("port 10 gets " + b + " when closed", x.transfer(1), (b & 4) == 0);
            x = open(0, 0, 5);
            Bus.out(x, 10, b);
            Check.due("port 10 gets " + b + " when open", x.transfer(1), (b & 4) == 0);
        }
    }

    private static void openedAndClosedBetween() {
        Check.sentence("bit 2 on: it is closed, off: open; nothing else changes");
        Computer x = open(2, 100, 3);
        x.transfer(1);
        Bus.out(x, 10, 4);
        Check.due("closed", x.transfer(2), false);
        Check.due("closed: port 8", Bus.in(x, 8), 0);
        Check.due("closed: lines(0)", x.lines(0), 0);
        Bus.out(x, 10, 0);
        Bus.out(x, 10, 0);
        Check.due("LEFT goes on", room(x, 20), 3);
        Check.due("PLACE goes on", x.peek(512 + 103), 1);
        Check.due("PLACE goes on", x.peek(512 + 104), 0);
    }

    private static void everyPlaceAndPage() {
        Check.sentence("is put at the address 256 * PAGE + PLACE");
        int[] places = {0, 1, 127, 128, 254, 255};
        for (int page = 0; page < 4; page++) {
            for (int place : places) {
                Computer x = open(page, place, 9);
                x.transfer(0xEE);
                Check.due("page " + page + ", place " + place, x.peek(256 * page + place), 0xEE);
            }
        }
    }

    private static void pageMod4() {
        Check.sentence("Port 131: PAGE, mod 4");
        int[] pages = {3, 4, 5, 7, 8, 127, 128, 252, 255};
        for (int page : pages) {
            Computer x = open(page, 3, 9);
            x.transfer(0xEE);
            Check.due("page " + page, x.peek(256 * (page % 4) + 3), 0xEE);
        }
    }

    private static void placeWrapsInItsPage() {
        Check.sentence("PLACE grows by 1 (mod 256)");
        for (int page = 0; page < 4; page++) {
            Computer x = open(page, 254, 9);
            x.transfer(5);
            x.transfer(6);
            x.transfer(7);
            Check.due("page " + page + ", place 254", x.peek(256 * page + 254), 5);
            Check.due("page " + page + ", place 255", x.peek(256 * page + 255), 6);
            Check.due("page " + page + ", place 0", x.peek(256 * page), 7);
            int next = (256 * page + 256) % 1024;
            Check.due("page " + page + ", not the next page", x.peek(next) == 7, false);
        }
    }

    private static void leftUntilDone() {
        Check.sentence("if LEFT is 0, it is closed, DONE is 1 and line 2 is requested; else LEFT becomes less by 1");
        for (int left = 0; left <= 3; left++) {
            Computer x = open(0, 0, left);
            for (int i = 0; i <= left; i++) {
                Check.due("LEFT " + left + ": lines(0) before byte " + i, x.lines(0), 0);
                Check.due("LEFT " + left + ": port 8 before byte " + i, Bus.in(x, 8), 0);
                Check.due("LEFT " + left + ": byte " + i, x.transfer(40 + i), true);
            }
            Check.due("LEFT " + left + ": lines(0)", x.lines(0), 4);
            Check.due("LEFT " + left + ": one more", x.transfer(9), false);
            Check.due("LEFT " + left + ": the last one", x.peek(left), 40 + left);
            Check.due("LEFT " + left + ": behind it", x.peek(left + 1), 0);
            Check.due("LEFT " + left + ": port 8", Bus.in(x, 8), 2);
        }
    }

    private static void leftOverAByte() {
        Check.sentence("LEFT, a word");
        int[] lefts = {254, 255, 256, 257, 300};
        for (int left : lefts) {
            Check.due("bytes with LEFT " + left, room(open(3, 0, left), 400), left + 1);
        }
    }

    private static void leftIsLarge() {
        Check.sentence("LEFT, a word");
        int[] lefts = {400, 32767, 32768, 65535};
        for (int left : lefts) {
            Computer x = open(0, 0, left);
            Check.due("bytes with LEFT " + left, room(x, 400), 400);
            Check.due("not done", Bus.in(x, 8), 0);
            Check.due("still open", x.transfer(1), true);
        }
    }

    private static void leftStaysZero() {
        Check.sentence("if LEFT is 0, it is closed; else LEFT becomes less by 1");
        Computer x = open(0, 0, 1);
        Check.due("bytes with LEFT 1", room(x, 10), 2);
        for (int i = 0; i < 3; i++) {
            Bus.out(x, 10, 0);
            Check.due("opened again, one byte", room(x, 10), 1);
            Check.due("PLACE goes on", x.peek(2 + i), 1);
        }
    }

    private static void lowerByteOfPlaceAlone() {
        Check.sentence("PLACE, a byte: only the lower one counts");
        Computer x = new Computer();
        Bus.out(x, 2, 0x91);
        Bus.out(x, 2, 0x33);
        Bus.out(x, 10, 0);
        x.transfer(8);
        Check.due("the lower one", x.peek(0x91), 8);
        Check.due("the higher one", x.peek(0x33), 0);
        x = new Computer();
        Bus.out(x, 2, 0x91);
        Bus.out(x, 2, 0x33);
        Bus.out(x, 2, 0x44);
        Bus.out(x, 10, 0);
        x.transfer(8);
        Check.due("a third one is a lower one", x.peek(0x44), 8);
    }

    private static void bytesCountAtOnce() {
        Check.sentence("each at once: the lower one becomes the lower byte of LEFT, the higher one the higher byte of LEFT");
        Computer x = new Computer();
        Bus.out(x, 2, 0x20);
        Bus.out(x, 10, 0);
        x.transfer(8);
        Check.due("PLACE, before its higher byte", x.peek(0x20), 8);
        x = new Computer();
        Bus.out(x, 3, 2);
        Bus.out(x, 10, 0);
        Check.due("LEFT, before its higher byte", room(x, 10), 3);
        // The higher one stays when a lower one comes, and the lower one when a higher one comes.
        x = open(0, 0, 0x0105);
        Bus.out(x, 3, 2);
        Check.due("LEFT 0x0102", room(x, 400), 0x103);
        x = open(0, 0, 0x0105);
        Bus.out(x, 3, 5);
        Bus.out(x, 3, 0);
        Check.due("LEFT 0x0005", room(x, 400), 6);
        // While bytes come: LEFT is 3 when its lower byte becomes 1.
        x = open(0, 0, 4);
        x.transfer(1);
        Bus.out(x, 3, 1);
        Check.due("LEFT 1 in between", room(x, 10), 2);
    }

    private static void turnOfBothPorts() {
        Check.sentence("lower and higher bytes in turn, both ports together");
        Computer x = new Computer();
        // Lower of LEFT; a higher one of PLACE, that does not count; lower of PLACE; higher of LEFT.
        Bus.out(x, 3, 5);
        Bus.out(x, 2, 0x44);
        Bus.out(x, 2, 0x55);
        Bus.out(x, 3, 0);
        Bus.out(x, 10, 0);
        Check.due("LEFT 5", room(x, 300), 6);
        Check.due("PLACE 0x55", x.peek(0x55), 1);
        Check.due("no PLACE 0x44", x.peek(0x44), 0);
        x = new Computer();
        Bus.out(x, 2, 0x10);
        Bus.out(x, 3, 1);
        Bus.out(x, 10, 0);
        Check.due("LEFT 0x0100", room(x, 400), 0x101);
        // Other ports of the channel have no turn.
        x = new Computer();
        Bus.out(x, 3, 1);
        Bus.out(x, 131, 2);
        Bus.out(x, 10, 0);
        Bus.in(x, 8);
        Bus.in(x, 12);
        Bus.out(x, 3, 1);
        Check.due("LEFT 0x0101", room(x, 400), 0x102);
    }

    private static void port12BeginsTheTurn() {
        Check.sentence("port 12 begins the turn anew");
        int[] bytes = {0, 1, 4, 255};
        for (int b : bytes) {
            Computer x = new Computer();
            Bus.out(x, 3, 2);
            Bus.out(x, 12, b);
            Bus.out(x, 3, 3);
            Bus.out(x, 3, 1);
            Bus.out(x, 10, 0);
            Check.due("LEFT 0x0103", room(x, 400), 0x104);
            // At its beginning already, it stays there.
            x = new Computer();
            Bus.out(x, 12, b);
            Bus.out(x, 12, b);
            Bus.out(x, 2, 9);
            Bus.out(x, 3, 1);
            Bus.out(x, 12, b);
            Bus.out(x, 3, 4);
            Bus.out(x, 10, 0);
            Check.due("LEFT 0x0104", room(x, 400), 0x105);
            Check.due("PLACE 9 stays", x.peek(9), 1);
        }
    }

    private static void doneIsAnsweredOnce() {
        Check.sentence("Port 8 answers 2 if DONE is 1, else 0; DONE is 0 then");
        Computer x = open(0, 0, 0);
        Check.due("not done", Bus.in(x, 8), 0);
        x.transfer(1);
        Check.due("done", Bus.in(x, 8), 2);
        Check.due("no more", Bus.in(x, 8), 0);
        Check.due("no more", Bus.in(x, 8), 0);
        Bus.out(x, 10, 0);
        x.transfer(1);
        Bus.out(x, 10, 0);
        Bus.out(x, 8, 0);
        Check.due("done, though it was opened again", Bus.in(x, 8), 2);
        x.transfer(1);
        Bus.out(x, 10, 0);
        x.transfer(1);
        Check.due("done twice", Bus.in(x, 8), 2);
        Check.due("no more", Bus.in(x, 8), 0);
    }

    private static void requestsAtTheEndAlone() {
        Check.sentence("line 2 is requested");
        Computer x = open(0, 0, 1);
        Bus.out(x, 33, 251);
        x.transfer(1);
        Check.due("not yet", Bus.given(x), false);
        x.transfer(1);
        Check.due("given", Bus.given(x), true);
        Check.due("lines(1)", x.lines(1), 4);
        Check.due("lines(0)", x.lines(0), 0);
        x.transfer(1);
        Check.due("a refused byte requests nothing", x.lines(0), 0);
        Bus.out(x, 10, 0);
        Check.due("nor does opening", x.lines(0), 0);
    }
}
