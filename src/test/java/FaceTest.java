import java.lang.reflect.Constructor;
import java.lang.reflect.Field;
import java.lang.reflect.Method;
import java.lang.reflect.Modifier;
import java.util.Arrays;
import java.util.TreeSet;

/** The public face, and promise 1. */
public final class FaceTest {
    private static final String[] METHODS = {
        "book()", "gather(int,int)", "look(int,int,int)", "pass(int)", "told(int,int)", "there(int,int)",
        "gone(int,int,int)", "hours(int,int,int)", "promise(int,int,int,int)", "plan(int)", "planned(int,int)",
        "delays(int)", "width(int,int)", "sign(int)", "wipe()", "broken(int,int)", "line(int)", "stamp()",
        "sharpen(int)", "last(int)", "skin(int,int,int)", "flaw(int,int,int)", "cut(int,int,int)",
        "covers(int,int,int,int)", "spot(int,int,int)", "days(int)", "rate(int,int,int)", "rateAt(int,int,int)",
        "wages(int,int,int)", "count(int)"
    };
    private static final String[] CONSTANTS = {"NONE", "UNKNOWN", "OUTSIDE", "NOT", "BLUNT", "FULL"};
    private static final Check CHECK = new Check();

    public static void main(String[] args) {
        constants();
        face();
        newObject();
        objectsAreApart();
        CHECK.end();
    }

    private static void constants() {
        CHECK.due("NONE", Bindery.NONE, -1);
        CHECK.due("UNKNOWN", Bindery.UNKNOWN, -2);
        CHECK.due("OUTSIDE", Bindery.OUTSIDE, -3);
        CHECK.due("NOT", Bindery.NOT, -4);
        CHECK.due("BLUNT", Bindery.BLUNT, -5);
        CHECK.due("FULL", Bindery.FULL, -6);
    }

    private static void face() {
        TreeSet<String> wanted = new TreeSet<>(Arrays.asList(METHODS));
        TreeSet<String> seen = new TreeSet<>();
        TreeSet<String> publicNames = new TreeSet<>();
        for (Method m : Bindery.class.getDeclaredMethods()) {
            if (Modifier.isPrivate(m.getModifiers())) {
                continue;
            }
            CHECK.holds(m.getName() + " is public", Modifier.isPublic(m.getModifiers()));
            CHECK.holds(m.getName() + " answers an int", m.getReturnType() == int.class);
            seen.add(m.getName() + Arrays.toString(m.getParameterTypes()).replace("[", "(").replace("]", ")").replace(" ", ""));
            publicNames.add(m.getName());
        }
        CHECK.holds("methods " + seen, seen.equals(wanted));
        for (Class<?> inside : Bindery.class.getDeclaredClasses()) {
            CHECK.holds(inside + " is static", Modifier.isStatic(inside.getModifiers()));
            for (Method m : inside.getDeclaredMethods()) {
                CHECK.holds(m + " bears no public name", !publicNames.contains(m.getName()));
            }
        }
        for (Method m : Bindery.class.getDeclaredMethods()) {
            CHECK.holds(m + " bears no public name", !Modifier.isPrivate(m.getModifiers()) || !publicNames.contains(m.getName()));
        }
        TreeSet<String> fields = new TreeSet<>();
        for (Field f : Bindery.class.getDeclaredFields()) {
            if (!Modifier.isPrivate(f.getModifiers())) {
                fields.add(f.getName());
            }
        }
        CHECK.holds("constants " + fields, fields.equals(new TreeSet<>(Arrays.asList(CONSTANTS))));
        Constructor<?>[] made = Bindery.class.getDeclaredConstructors();
        CHECK.due("constructors", made.length, 1);
        CHECK.holds("the class is final", Modifier.isFinal(Bindery.class.getModifiers()));
    }

    private static void newObject() {
        Bindery x = new Bindery();
        for (int what = 0; what <= 6; what++) {
            CHECK.due("new: count(" + what + ")", x.count(what), 0);
        }
        CHECK.due("new: told(0, 0)", x.told(0, 0), Bindery.UNKNOWN);
        CHECK.due("new: spot(0, 0, 0)", x.spot(0, 0, 0), Bindery.UNKNOWN);
        CHECK.due("new: planned(0, 0)", x.planned(0, 0), Bindery.OUTSIDE);
        CHECK.due("new: line(0)", x.line(0), Bindery.OUTSIDE);
        CHECK.due("new: rateAt(0, 1000, 1000)", x.rateAt(0, 1000, 1000), 0);
        CHECK.due("new: wages(0, 1000, 1000)", x.wages(0, 1000, 1000), 0);
        for (int letter = 1; letter <= 26; letter++) {
            CHECK.due("new: sharpen(" + letter + ")", x.sharpen(letter), 0);
        }
    }

    private static void objectsAreApart() {
        Bindery x = new Bindery();
        Bindery y = new Bindery();
        x.book();
        x.sign(4);
        x.skin(1, 1, 1);
        x.days(4);
        x.rate(0, 0, 5);
        x.width(1, 9);
        x.last(9);
        for (int what = 0; what <= 6; what++) {
            CHECK.due("other: count(" + what + ")", y.count(what), 0);
        }
        CHECK.due("other: width(1, 5)", y.width(1, 5), 5);
        CHECK.due("other: last(5)", y.last(5), 100);
    }
}
