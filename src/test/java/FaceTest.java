import java.lang.reflect.Constructor;
import java.lang.reflect.Field;
import java.lang.reflect.Method;
import java.lang.reflect.Modifier;
import java.util.ArrayList;
import java.util.Arrays;
import java.util.List;
import java.util.TreeSet;

/** The public face of the document, and no other member that could be seen from outside. */
public final class FaceTest {
    private static final String[] METHODS = {
        "int yard 4", "int ofTap 2", "int bore 2", "int begin 1", "int rain 2", "int law 1", "int leak 2",
        "int got 2", "int level 1", "int over 1", "int nobody 1", "int dry 1", "int can 1", "int start 1",
        "int best 2", "int highest 2", "long worst 2", "long risk 5", "int mark 2", "int back 1",
        "int rains 2", "int thief 2", "int sheet 3", "int lose 1", "int put 3", "long cell 3",
        "int copy 5", "int tell 1", "int knock 1", "int as 2", "int trace 0", "int fault 0", "int many 1",
    };

    public static void main(String[] args) throws Exception {
        Check check = new Check("FaceTest");
        check.due("UNKNOWN", BarrelTaps.UNKNOWN, -1);
        check.due("OUTSIDE", BarrelTaps.OUTSIDE, -2);
        check.due("STATE", BarrelTaps.STATE, -3);
        check.due("FULL", BarrelTaps.FULL, -4);
        check.due("NONE", BarrelTaps.NONE, -9);
        check.due("LOST", BarrelTaps.LOST, Long.MIN_VALUE);

        check.holds("public final", Modifier.isPublic(BarrelTaps.class.getModifiers())
            && Modifier.isFinal(BarrelTaps.class.getModifiers()));
        Constructor<?>[] makers = BarrelTaps.class.getDeclaredConstructors();
        check.due("constructors", makers.length, 1);
        check.holds("a public one without arguments",
            Modifier.isPublic(makers[0].getModifiers()) && makers[0].getParameterCount() == 0);

        TreeSet<String> seen = new TreeSet<>();
        TreeSet<String> hidden = new TreeSet<>();
        for (Method m : BarrelTaps.class.getDeclaredMethods()) {
            if (Modifier.isPrivate(m.getModifiers())) {
                hidden.add(m.getName());
                continue;
            }
            check.holds(m.getName() + " is public and of the object",
                Modifier.isPublic(m.getModifiers()) && !Modifier.isStatic(m.getModifiers()));
            for (Class<?> type : m.getParameterTypes()) {
                check.holds(m.getName() + " takes ints alone", type == int.class);
            }
            seen.add(m.getReturnType() + " " + m.getName() + " " + m.getParameterCount());
        }
        List<String> due = new ArrayList<>(Arrays.asList(METHODS));
        check.holds("methods: " + seen, seen.equals(new TreeSet<>(due)));
        for (String line : METHODS) {
            check.holds("a private method bears a public name: " + line, !hidden.contains(line.split(" ")[1]));
        }

        TreeSet<String> fields = new TreeSet<>();
        for (Field f : BarrelTaps.class.getDeclaredFields()) {
            if (!Modifier.isPrivate(f.getModifiers())) {
                fields.add(f.getName());
            }
        }
        check.holds("fields: " + fields, fields.equals(
            new TreeSet<>(Arrays.asList("UNKNOWN", "OUTSIDE", "STATE", "FULL", "NONE", "LOST"))));
        check.end();
    }
}
