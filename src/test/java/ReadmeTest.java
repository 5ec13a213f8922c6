/** The examples of README.md, call by call. */
public final class ReadmeTest {
    public static void main(String[] args) {
        programRuns();
        keyEndsHalt();
        Check.end();
    }

    private static void programRuns() {
        Check.sentence("README: a program is put into memory, and run in steps");
        Computer x = new Computer();
        Check.due("load(0xB80500, 3)", x.load(0xB80500, 3), true);
        Check.due("load(0x40F4, 2)", x.load(0x40F4, 2), true);
        Check.due("step(3)", x.step(3), true);
        Check.registerDue("AX", x, Check.AX, 6);
        Check.due("halted()", x.halted(), true);
    }

    private static void keyEndsHalt() {
        Check.sentence("README: a key that comes ends HALT by an interrupt");
        Computer x = new Computer();
        Check.due("load(0xB0FDE621, 4)", x.load(0xB0FDE621, 4), true);
        Check.due("load(0xFBF4, 2)", x.load(0xFBF4, 2), true);
        Check.due("seek(768)", x.seek(768), true);
        Check.due("load(0xE46088C3, 4)", x.load(0xE46088C3, 4), true);
        Check.due("load(0xB020E620, 4)", x.load(0xB020E620, 4), true);
        Check.due("load(0xCF, 1)", x.load(0xCF, 1), true);
        Check.due("poke(37, 3)", x.poke(37, 3), true);
        Check.due("step(4)", x.step(4), true);
        Check.due("halted()", x.halted(), true);
        Check.due("key(65)", x.key(65), true);
        Check.due("lines(0)", x.lines(0), 2);
        Check.due("step(6)", x.step(6), true);
        Check.registerDue("BL", x, Check.BX, 65);
        Check.due("interrupts()", x.interrupts(), 1);
        Check.due("halted(), then", x.halted(), false);
        Check.due("lines(1)", x.lines(1), 0);
        Check.registerDue("behind HALT", x, Check.IP, 518);
        Check.registerDue("I as before", x, Check.FLAGS, Check.I);
    }
}
