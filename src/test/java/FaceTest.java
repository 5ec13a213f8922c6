import java.lang.reflect.Member;
import java.lang.reflect.Modifier;
import java.util.ArrayList;
import java.util.List;
import java.util.TreeSet;

/** The public face, and promise 1: a new object. */
public final class FaceTest {
    public static void main(String[] args) {
        faceIsTheDocuments();
        newObject();
        objectsAreApart();
        Check.end();
    }

    private static void faceIsTheDocuments() {
        List<Member> members = new ArrayList<>();
        members.addAll(List.of(SmallComputer.class.getDeclaredMethods()));
        members.addAll(List.of(SmallComputer.class.getDeclaredConstructors()));
        members.addAll(List.of(SmallComputer.class.getDeclaredFields()));
        TreeSet<String> seen = new TreeSet<>();
        for (Member member : members) {
            if (!Modifier.isPrivate(member.getModifiers()) && !member.isSynthetic()) {
                seen.add(member.toString());
            }
        }
        TreeSet<String> want = new TreeSet<>(List.of(
                "public SmallComputer()",
                "public boolean SmallComputer.poke(int,int)",
                "public boolean SmallComputer.load(int,int)",
                "public boolean SmallComputer.seek(int)",
                "public int SmallComputer.peek(int)",
                "public boolean SmallComputer.step(int)",
                "public int SmallComputer.register(int)",
                "public boolean SmallComputer.put(int,int)",
                "public boolean SmallComputer.halted()",
                "public boolean SmallComputer.key(int)",
                "public boolean SmallComputer.transfer(int)",
                "public int SmallComputer.lines(int)",
                "public int SmallComputer.count()",
                "public int SmallComputer.interrupts()"));
        if (!seen.equals(want)) {
            System.out.println("the face is " + seen);
        }
        Check.due("the face", seen.equals(want), true);
        Check.due("final", Modifier.isFinal(SmallComputer.class.getModifiers()), true);
    }

    private static void newObject() {
        SmallComputer x = new SmallComputer();
        for (int k = 0; k <= 13; k++) {
            int want = k == Check.SP ? 256 : k == Check.IP ? 512 : 0;
            Check.registerDue("new", x, k, want);
        }
        for (int address = 0; address < 1024; address++) {
            Check.due("new: peek(" + address + ")", x.peek(address), 0);
        }
        Check.due("new: lines(0)", x.lines(0), 0);
        Check.due("new: lines(1)", x.lines(1), 0);
        Check.due("new: lines(2)", x.lines(2), 255);
        Check.due("new: count()", x.count(), 0);
        Check.due("new: interrupts()", x.interrupts(), 0);
        Check.due("new: halted()", x.halted(), false);
        Check.due("new: transfer(0)", x.transfer(0), false);
    }

    private static void objectsAreApart() {
        SmallComputer one = new SmallComputer();
        SmallComputer other = new SmallComputer();
        one.poke(5, 6);
        one.put(0, 7);
        one.key(8);
        Check.due("the other's peek(5)", other.peek(5), 0);
        Check.due("the other's register(0)", other.register(0), 0);
        Check.due("the other's lines(0)", other.lines(0), 0);
    }
}
