/** Promise 10, key, and the keyboard's ports 96 and 100. */
public final class KeyboardTest {
    public static void main(String[] args) {
        codesWithinTheirEdges();
        codesBeyondTheirEdges();
        upToFourWait();
        roomAfterOneIsTaken();
        firstKeyFirst();
        emptyKeyboard();
        port100();
        firstKeyRequests();
        laterKeysRequestNothing();
        takenKeyRequestsForTheNext();
        lastTakenKeyRequestsNothing();
        refusedKeyRequestsNothing();
        Check.end();
    }

    private static void codesWithinTheirEdges() {
        Check.sentence("key: 0 .. 255");
        for (int code = 0; code < 256; code++) {
            Computer x = new Computer();
            Check.due("key(" + code + ")", x.key(code), true);
            Check.due("key(" + code + "): lines(0)", x.lines(0), 2);
            Check.due("key(" + code + "): port 100", Bus.in(x, 100), 1);
            Check.due("key(" + code + "): port 96", Bus.in(x, 96), code);
            Check.due("key(" + code + "): port 100 then", Bus.in(x, 100), 0);
        }
    }

    private static void codesBeyondTheirEdges() {
        Check.sentence("key: false if code is not 0 .. 255");
        int[] codes = {-1, 256, -255, 511, Check.MIN, Check.MAX};
        Computer x = new Computer();
        for (int code : codes) {
            Check.due("key(" + code + ")", x.key(code), false);
            Check.due("key(" + code + "): lines(0)", x.lines(0), 0);
            Check.due("key(" + code + "): port 100", Bus.in(x, 100), 0);
        }
    }

    private static void upToFourWait() {
        Check.sentence("up to 4 keys wait; key: false if 4 wait");
        for (int many = 0; many <= 6; many++) {
            Computer x = new Computer();
            for (int i = 0; i < many; i++) {
                Check.due("key " + i + " of " + many, x.key(60 + i), i < 4);
            }
            for (int i = 0; i < 6; i++) {
                Check.due("port 96, time " + i + " of " + many, Bus.in(x, 96), i < Math.min(many, 4) ? 60 + i : 0);
            }
        }
    }

    private static void roomAfterOneIsTaken() {
        Check.sentence("the first key, which waits no more");
        Computer x = new Computer();
        for (int code = 1; code <= 4; code++) {
            x.key(code);
        }
        for (int code = 5; code <= 12; code++) {
            Check.due("key(99) when four wait", x.key(99), false);
            Check.due("port 96", Bus.in(x, 96), code - 4);
            Check.due("key(" + code + ") when three wait", x.key(code), true);
        }
        for (int code = 9; code <= 12; code++) {
            Check.due("port 96", Bus.in(x, 96), code);
        }
        Check.due("port 96, none", Bus.in(x, 96), 0);
    }

    private static void firstKeyFirst() {
        Check.sentence("Port 96 answers the first key");
        Computer x = new Computer();
        int[] codes = {255, 0, 255, 7};
        for (int code : codes) {
            x.key(code);
        }
        for (int code : codes) {
            Check.due("port 96", Bus.in(x, 96), code);
        }
    }

    private static void emptyKeyboard() {
        Check.sentence("0 if there is none");
        Computer x = new Computer();
        Check.due("port 96 at first", Bus.in(x, 96), 0);
        Check.due("lines(0)", x.lines(0), 0);
        x.key(0);
        Check.due("port 96, the key 0", Bus.in(x, 96), 0);
        Check.due("port 96, none", Bus.in(x, 96), 0);
        Check.due("port 96, none", Bus.in(x, 96), 0);
        Check.due("key(3)", x.key(3), true);
        Check.due("port 96", Bus.in(x, 96), 3);
    }

    private static void port100() {
        Check.sentence("Port 100 answers 1 if a key waits, else 0");
        Computer x = new Computer();
        Check.due("none", Bus.in(x, 100), 0);
        for (int i = 1; i <= 4; i++) {
            x.key(0);
            Check.due(i + " keys", Bus.in(x, 100), 1);
        }
        for (int left = 3; left >= 0; left--) {
            Bus.in(x, 96);
            Check.due(left + " keys", Bus.in(x, 100), left > 0 ? 1 : 0);
        }
        Bus.in(x, 96);
        Check.due("none", Bus.in(x, 100), 0);
    }

    /** A computer with so many keys whose request was given and whose service was ended. */
    private static Computer served(int keys) {
        Computer x = new Computer();
        Bus.out(x, 33, 253);
        for (int i = 0; i < keys; i++) {
            x.key(10 + i);
        }
        Check.due("the request is given", Bus.given(x), true);
        Bus.out(x, 32, 32);
        Check.due("lines(0) when it was given", x.lines(0), 0);
        return x;
    }

    private static void firstKeyRequests() {
        Check.sentence("A key that comes, if none waited, requests line 1");
        Computer x = new Computer();
        x.key(1);
        Check.due("the first key", x.lines(0), 2);
        x = served(1);
        Bus.in(x, 96);
        Check.due("none waits", x.lines(0), 0);
        x.key(2);
        Check.due("a first key again", x.lines(0), 2);
    }

    private static void laterKeysRequestNothing() {
        Check.sentence("if none waited");
        for (int keys = 1; keys <= 3; keys++) {
            Computer x = served(keys);
            Check.due("key " + keys, x.key(1), true);
            Check.due("key " + keys + ": lines(0)", x.lines(0), 0);
        }
    }

    private static void takenKeyRequestsForTheNext() {
        Check.sentence("Port 96 requests line 1 if one is left");
        for (int keys = 2; keys <= 4; keys++) {
            Computer x = served(keys);
            Bus.in(x, 100);
            Check.due("port 100 requests nothing", x.lines(0), 0);
            Bus.in(x, 96);
            Check.due("one of " + keys + " taken: lines(0)", x.lines(0), 2);
        }
    }

    private static void lastTakenKeyRequestsNothing() {
        Check.sentence("if one is left");
        Computer x = served(1);
        Bus.in(x, 96);
        Check.due("the last one is taken", x.lines(0), 0);
        Bus.in(x, 96);
        Check.due("there was none", x.lines(0), 0);
        // A request that is there is not taken back with its key.
        x = new Computer();
        x.key(1);
        Bus.in(x, 96);
        Check.due("the request stays", x.lines(0), 2);
    }

    private static void refusedKeyRequestsNothing() {
        Check.sentence("A call that is refused changes nothing");
        Computer x = served(4);
        Check.due("a fifth key", x.key(5), false);
        Check.due("a fifth key: lines(0)", x.lines(0), 0);
        x = new Computer();
        Check.due("key(256)", x.key(256), false);
        Check.due("key(256): lines(0)", x.lines(0), 0);
        x.key(8);
        Check.due("the first key then", Bus.in(x, 96), 8);
    }
}
