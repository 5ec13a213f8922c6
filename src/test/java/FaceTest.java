import java.lang.reflect.Member;
import java.lang.reflect.Modifier;
import java.util.ArrayList;
import java.util.List;
import java.util.TreeSet;

/** The public face, and promise 1: a new object. */
public final class FaceTest {
    public static void main(String[] args) {
        faceIsTheDocuments();
        newObject();
        newParts();
        objectsAreApart();
        lastCallAnswers();
        Check.end();
    }

    private static void faceIsTheDocuments() {
        List<Member> members = new ArrayList<>();
        members.addAll(List.of(SmallComputer.class.getDeclaredMethods()));
        members.addAll(List.of(SmallComputer.class.getDeclaredConstructors()));
        members.addAll(List.of(SmallComputer.class.getDeclaredFields()));
        TreeSet<String> seen = new TreeSet<>();
        for (Member member : members) {
            if (!Modifier.isPrivate(member.getModifiers()) && !member.isSynthetic()) {
                seen.add(member.toString());
            }
        }
        TreeSet<String> want = new TreeSet<>(List.of(
                "public SmallComputer()",
                "public boolean SmallComputer.poke(int,int)",
                "public boolean SmallComputer.load(int,int)",
                "public boolean SmallComputer.seek(int)",
                "public int SmallComputer.peek(int)",
                "public boolean SmallComputer.step(int)",
                "public int SmallComputer.register(int)",
                "public boolean SmallComputer.put(int,int)",
                "public boolean SmallComputer.halted()",
                "public boolean SmallComputer.key(int)",
                "public boolean SmallComputer.transfer(int)",
                "public int SmallComputer.lines(int)",
                "public int SmallComputer.count()",
                "public int SmallComputer.interrupts()"));
        if (!seen.equals(want)) {
            System.out.println("the face is " + seen);
        }
        Check.due("the face", seen.equals(want), true);
        Check.due("final", Modifier.isFinal(SmallComputer.class.getModifiers()), true);
    }

    private static void newObject() {
        Check.sentence("All is 0, but that SP is 256 and IP 512");
        Computer x = new Computer();
        for (int k = 0; k <= 13; k++) {
            int want = k == Check.SP ? 256 : k == Check.IP ? 512 : 0;
            Check.registerDue("new", x, k, want);
        }
        Check.due("new: lines(0)", x.lines(0), 0);
        Check.due("new: lines(1)", x.lines(1), 0);
        Check.due("new: count()", x.count(), 0);
        Check.due("new: interrupts()", x.interrupts(), 0);
        Check.due("new: halted()", x.halted(), false);
        for (int quarter = 0; quarter < 4; quarter++) {
            x = new Computer();
            for (int address = 256 * quarter; address < 256 * quarter + 256; address++) {
                Check.due("new: peek(" + address + ")", x.peek(address), 0);
            }
        }
    }

    private static void newParts() {
        Check.sentence("all masked at first");
        Check.due("new: lines(2)", new Computer().lines(2), 255);
        Check.due("new: port 33", Bus.in(new Computer(), 33), 255);
        Check.sentence("the requested lines (10, at first)");
        Computer x = new Computer();
        x.key(1);
        Check.due("new: port 32", Bus.in(x, 32), 2);
        Check.sentence("it is closed (as at first)");
        Check.due("new: transfer(0)", new Computer().transfer(0), false);
        Check.sentence("(512 at first)");
        x = new Computer();
        x.load(9, 1);
        Check.due("new: load begins at 512", x.peek(512), 9);
        Check.sentence("All is 0");
        x = new Computer();
        Check.due("new: port 100", Bus.in(x, 100), 0);
        Check.due("new: port 96", Bus.in(x, 96), 0);
        Check.due("new: port 8", Bus.in(x, 8), 0);
        Check.due("new: port 64", Bus.in(x, 64), 0);
        Bus.out(x, 10, 0);
        Check.due("new: PLACE, PAGE and LEFT", x.transfer(5), true);
        Check.due("new: PLACE and PAGE", x.peek(0), 5);
        Check.due("new: LEFT", x.transfer(6), false);
        x = Check.ran(1, 0, 0);
        Check.due("new: an instruction at 512 is the first one", x.interrupts(), 0);
        Check.registerDue("new: an instruction at 512 is the first one", x, Check.IP, 514);
    }

    private static void objectsAreApart() {
        Check.sentence("a new object");
        Computer one = new Computer();
        Computer other = new Computer();
        one.poke(5, 6);
        one.put(0, 7);
        one.key(8);
        one.seek(0);
        Check.due("the other's peek(5)", other.peek(5), 0);
        Check.due("the other's register(0)", other.register(0), 0);
        Check.due("the other's lines(0)", other.lines(0), 0);
        other.load(3, 1);
        Check.due("the other's load", other.peek(512), 3);
    }

    /** The most that an object is asked for: 512 calls, each of as many steps as there may be. */
    private static void lastCallAnswers() {
        Check.sentence("An object is used for at most 512 calls");
        Computer x = Check.with(64, 235, 253);
        while (x.calls() < 511) {
            Check.due("step(100)", x.step(100), true);
        }
        // 508 times 100 steps, of which every other one counts.
        Check.due("the 512th call: register(0)", x.register(Check.AX), 25400);
    }
}
