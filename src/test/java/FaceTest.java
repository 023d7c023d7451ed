import java.lang.reflect.Constructor;
import java.lang.reflect.Field;
import java.lang.reflect.Member;
import java.lang.reflect.Method;
import java.lang.reflect.Modifier;
import java.util.Arrays;
import java.util.TreeSet;

/** The public face, and rule 1 of LANGUAGE.md: nothing else can be seen from outside. */
public final class FaceTest {
    private static final String INTS = "row 2;lay 3;at 2;tear 1;copy 5;mean 1;text 2;put 3;fault 1;leat 1;day 2;mark 2;"
            + "grinds 3;step 0;hatch 1;rake 0;fish 1;undo 1;keep 1;on 1;mill 1;turns 0;book 2;best 1;plan 2;rakes 2;"
            + "fishes 1;where 1;flows 2;kinds 2;look 1;duel 1;odds 2;mid 1;lots 2;asked 0;count 1;finding 0;findings 1";
    private static final String LONGS = "upper 0;lower 0;digest 0";
    private static final String CONSTANTS = "BAD FULL FINDING STATE SPENT NONE";

    private static int wrong = 0;

    public static void main(String[] args) throws Exception {
        Class<?> c = LeatDays.class;
        hold("public final", Modifier.isPublic(c.getModifiers()) && Modifier.isFinal(c.getModifiers()));
        methods(c);
        fields(c);
        Constructor<?>[] makers = c.getDeclaredConstructors();
        hold("one constructor", makers.length == 1 && Modifier.isPublic(makers[0].getModifiers())
                && makers[0].getParameterCount() == 0);
        for (Class<?> inner : c.getDeclaredClasses()) {
            int m = inner.getModifiers();
            hold(inner + " static, not public", Modifier.isStatic(m) && !Modifier.isPublic(m) && !Modifier.isProtected(m));
        }
        System.out.println(wrong == 0 ? "the face is as due" : wrong + " wrong");
        System.exit(wrong == 0 ? 0 : 1);
    }

    private static void methods(Class<?> c) {
        TreeSet<String> want = new TreeSet<>();
        for (String m : INTS.split(";")) {
            want.add("int " + m);
        }
        for (String m : LONGS.split(";")) {
            want.add("long " + m);
        }
        TreeSet<String> got = new TreeSet<>();
        TreeSet<String> hidden = new TreeSet<>();
        for (Method m : c.getDeclaredMethods()) {
            if (isHidden(m)) {
                hidden.add(m.getName());
                continue;
            }
            hold(m + " takes ints", Arrays.stream(m.getParameterTypes()).allMatch(t -> t == int.class));
            hold(m + " is no static", !Modifier.isStatic(m.getModifiers()));
            got.add(m.getReturnType() + " " + m.getName() + " " + m.getParameterCount());
        }
        hold("methods " + got, got.equals(want));
        for (String m : want) {
            hold("no private " + m, !hidden.contains(m.split(" ")[1]));
        }
    }

    private static void fields(Class<?> c) throws Exception {
        TreeSet<String> got = new TreeSet<>();
        int[] values = {-1, -2, -3, -4, -6, -9};
        for (Field f : c.getDeclaredFields()) {
            if (!isHidden(f)) {
                got.add(f.getName());
                hold(f + " is a constant", f.getModifiers() == (Modifier.PUBLIC | Modifier.STATIC | Modifier.FINAL));
            }
        }
        String[] names = CONSTANTS.split(" ");
        hold("constants " + got, got.equals(new TreeSet<>(Arrays.asList(names))));
        for (int i = 0; i < names.length; i++) {
            hold(names[i], c.getField(names[i]).getInt(null) == values[i]);
        }
    }

    private static boolean isHidden(Member m) {
        return Modifier.isPrivate(m.getModifiers()) || m.isSynthetic();
    }

    private static void hold(String what, boolean so) {
        if (!so) {
            wrong++;
            System.out.println("not so: " + what);
        }
    }
}
