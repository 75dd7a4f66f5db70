import java.lang.reflect.Member;
import java.lang.reflect.Method;
import java.lang.reflect.Modifier;
import java.util.Arrays;
import java.util.TreeSet;

/** Promise 1, a new object, and the public face. */
public final class P01NewObjectTest {
    private static final String FACE = "[best(int,int,int):int, clear():int, clearFaults():int, count(int):int, "
            + "digest():long, foretell(int,int,int):int, item(int,int):int, latest(int):int, load():int, pitch():int, "
            + "restore(int):int, run(int,int):int, save(int):int, set(int,int):int, setPitch(int):int, "
            + "setRing(int):int, station(int):int, type(int):int, unload():int]";

    public static void main(String[] args) {
        numbersAtFirst();
        emptyAtFirst();
        face();
        Due.end();
    }

    private static void numbersAtFirst() {
        LabelApplicator x = new LabelApplicator();
        Due.countsBe("new", x, 0, 0, 0, 0, 0, 4, 0, 0, 0, 0, 0, 0, 0, 0, 0, 0);
        Due.countsBe("new", x, 15, 3, 5, 150, 400, 100, 10, 2, 3);
        Due.countsBe("new", x, 23, 0, 0, 0, 0, 0, 0, 0, 0, 0);
        Due.be("pitch()", x.pitch(), Float.floatToIntBits(50.0f));
        Due.latestBe("new", x, Due.NONE, Due.NONE, Due.NONE, Due.NONE, Due.NONE, Due.NONE);
    }

    private static void emptyAtFirst() {
        LabelApplicator x = new LabelApplicator();
        for (int i = 0; i < 4; i++) {
            Due.be("station(" + i + ")", x.station(i), Due.NONE);
        }
        Due.be("station(4)", x.station(4), Due.BAD);
        Due.be("item(0, 0)", x.item(0, 0), Due.NONE);
        Due.be("restore(0)", x.restore(0), Due.STATE);
        Due.be("restore(1)", x.restore(1), Due.STATE);
        Due.be("clear()", x.clear(), 0);
        Due.be("unload()", x.unload(), 0);
        Due.be("clearFaults()", x.clearFaults(), 0);
        Due.be("load()", x.load(), 0);
        Due.be("type(108)", x.type(108), 1);
        Due.be("text of another object", new LabelApplicator().count(23), 0);
    }

    private static void face() {
        TreeSet<String> seen = new TreeSet<>();
        for (Method m : LabelApplicator.class.getDeclaredMethods()) {
            if (!Modifier.isPrivate(m.getModifiers())) {
                String types = Arrays.toString(m.getParameterTypes()).replaceAll("[\\[\\] ]", "");
                seen.add(m.getName() + "(" + types + "):" + m.getReturnType());
            }
        }
        Due.be("the face " + seen, seen.toString().equals(FACE) ? 1 : 0, 1);
        Due.be("fields seen", seenOf(LabelApplicator.class.getDeclaredFields()), 4);
        Due.be("constructors seen", seenOf(LabelApplicator.class.getDeclaredConstructors()), 1);
        int modifiers = LabelApplicator.class.getModifiers();
        Due.be("public and final", Modifier.isPublic(modifiers) && Modifier.isFinal(modifiers) ? 1 : 0, 1);
    }

    private static int seenOf(Member[] members) {
        int seen = 0;
        for (Member m : members) {
            if (!Modifier.isPrivate(m.getModifiers())) {
                seen++;
            }
        }
        return seen;
    }
}
