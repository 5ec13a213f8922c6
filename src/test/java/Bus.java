/** How the tests reach the ports: by one instruction each time, so that the timer counts one step. */
final class Bus {
    private Bus() {
    }

    static void out(Computer x, int port, int b) {
        Check.write(x, 512, 230, port);
        x.put(Check.AX, 0x7700 | b);
        one(x);
        Check.registerDue("port " + port + " gets " + b, x, Check.IP, 514);
    }

    static int in(Computer x, int port) {
        int answer = answer(x, port);
        Check.registerDue("port " + port + " answers", x, Check.IP, 514);
        return answer;
    }

    /** The same, though the computer may be in HALT, where nothing is done. */
    static int answer(Computer x, int port) {
        Check.write(x, 512, 228, port);
        x.put(Check.AX, 0x77A5);
        one(x);
        Check.due("AH stays", x.register(Check.AX) >> 8, 0x77);
        return x.register(Check.AX) & 255;
    }

    private static void one(Computer x) {
        x.put(Check.FLAGS, 0);
        x.put(Check.CS, 0);
        x.put(Check.IP, 512);
        Check.due("step(1)", x.step(1), true);
    }

    /** One step with I on, that gives a request if there is one to give; whether it gave one. */
    static boolean given(Computer x) {
        int before = x.interrupts();
        x.put(Check.FLAGS, Check.I);
        x.poke(600, 144);
        x.put(Check.CS, 0);
        x.put(Check.IP, 600);
        x.put(Check.SP, 256);
        x.step(1);
        x.put(Check.FLAGS, 0);
        return x.interrupts() > before;
    }
}
