import java.lang.reflect.Method;
import java.lang.reflect.Modifier;
import java.util.ArrayList;
import java.util.Comparator;
import java.util.HashMap;
import java.util.List;
import java.util.Map;
import java.util.Random;

/** All promises: long runs of calls by a fixed seed, each answer as the plain leat's. */
public final class LongRunsTest {
    private static final Due due = new Due();
    /** For each argument the greatest that is not BAD; -1: any number. */
    private static final Map<String, int[]> MOST = new HashMap<>();

    static {
        String all = "row 5 40;lay 5 8 -1;at 5 8;tear 5;copy 5 6 5 6 6;mean 5;text 3 60;put 3 30 -1;fault 3;leat 3;"
                + "day 8 5;mark 8 5;grinds 8 4 40;step;hatch 4;rake;fish 8;undo 40;keep 2;on 2;mill 60;turns;"
                + "book 20 5;best 20;plan 5 5;rakes 8 400;fishes 20;where 5;flows 8 5;kinds 8 5;look 8;duel 6;"
                + "odds 400 12;mid 12;lots 20 -1;asked;count 12;finding;findings 5";
        for (String line : all.split(";")) {
            String[] words = line.split(" ");
            int[] most = new int[words.length - 1];
            for (int i = 0; i < most.length; i++) {
                most[i] = Integer.parseInt(words[i + 1]);
            }
            MOST.put(words[0], most);
        }
    }

    private final Random lot;
    private final List<Method> methods = new ArrayList<>();
    private final LeatDays x = new LeatDays();
    private final PlainLeat plain = new PlainLeat();
    private final int run;

    private LongRunsTest(int run) {
        this.run = run;
        this.lot = new Random(run);
        for (Method m : LeatDays.class.getDeclaredMethods()) {
            if (Modifier.isPublic(m.getModifiers()) && m.getReturnType() == int.class) {
                methods.add(m);
            }
        }
        methods.sort(Comparator.comparing(Method::getName));
    }

    public static void main(String[] args) throws Exception {
        for (int run = 0; run < 400; run++) {
            new LongRunsTest(run).go();
        }
        due.end();
    }

    private void go() throws Exception {
        for (int i = 0; i < 120; i++) {
            int what = lot.nextInt(20);
            if (what == 0 || i == 3) {
                newLeat();
            } else if (what == 1) {
                bookThenAsk();
            } else if (what < 6) {
                deed();
            } else {
                Method m = methods.get(lot.nextInt(methods.size()));
                call(m, arguments(MOST.get(m.getName())));
            }
        }
    }

    private int[] arguments(int[] most) {
        int[] a = new int[most.length];
        for (int i = 0; i < a.length; i++) {
            int sort = lot.nextInt(40);
            if (sort == 0) {
                a[i] = lot.nextInt();
            } else if (sort == 1) {
                a[i] = new int[] {Integer.MIN_VALUE, Integer.MAX_VALUE, -1, 0, most[i] + 1}[lot.nextInt(5)];
            } else if (most[i] < 0) {
                a[i] = lot.nextInt(200) - (sort < 4 ? 50 : 0);
            } else if (sort < 20) {
                a[i] = lot.nextInt(Math.min(most[i], 3) + 1);
            } else {
                a[i] = lot.nextInt(most[i] + 1);
            }
        }
        return a;
    }

    private void newLeat() throws Exception {
        StringBuilder text = new StringBuilder();
        int days = 2 + lot.nextInt(8) + (lot.nextInt(10) == 0 ? 1 : 0);
        int most = lot.nextInt(3) * 4 + 2;
        for (int k = 0; k < days; k++) {
            text.append(" ".repeat(Math.max(0, lot.nextInt(5) - 2)));
            text.append("dfrpeh".charAt(lot.nextInt(6))).append(lot.nextInt(10)).append(lot.nextInt(most));
        }
        text.append(" ".repeat(lot.nextInt(2)));
        if (lot.nextInt(8) == 0) {
            text.setCharAt(lot.nextInt(text.length()), (char) ('/' + lot.nextInt(70)));
        }
        int size = Math.min(60, text.length() - (lot.nextInt(10) == 0 ? 1 : 0));
        int t = lot.nextInt(4);
        call("text", t, size);
        for (int i = 0; i < size; i++) {
            call("put", t, i, text.charAt(i));
        }
        call("fault", t);
        call("leat", t);
    }

    /** What was truly GROUND, perhaps with one number off, so that where(), flows(), kinds() find some. */
    private void bookThenAsk() throws Exception {
        int r = lot.nextInt(6);
        int n = 1 + lot.nextInt(6);
        call("book", n, r);
        if (lot.nextInt(5) == 0) {
            call("lay", r, lot.nextInt(n), lot.nextInt(12) - 1);
        }
        call("where", r);
        for (int k = 0; k < 9; k++) {
            call("flows", k, r);
            call("kinds", k, r);
        }
    }

    private void deed() throws Exception {
        int what = lot.nextInt(8);
        if (what == 0) {
            call("hatch", lot.nextInt(5));
        } else if (what == 1) {
            call("rake");
        } else if (what == 2) {
            call("fish", lot.nextInt(9));
        } else if (what == 3) {
            call("undo", lot.nextInt(20));
        } else {
            call("step");
        }
    }

    private void call(String name, int... a) throws Exception {
        for (Method m : methods) {
            if (m.getName().equals(name)) {
                call(m, a);
            }
        }
    }

    private void call(Method m, int[] a) throws Exception {
        StringBuilder told = new StringBuilder("run ").append(run).append(": ").append(m.getName()).append('(');
        Object[] boxed = new Object[a.length];
        for (int i = 0; i < a.length; i++) {
            boxed[i] = a[i];
            told.append(i == 0 ? "" : ", ").append(a[i]);
        }
        String call = told.append(')').toString();
        due.is(call, (Integer) m.invoke(x, boxed), plain.call(m.getName(), a));
        due.is(call + ", asked()", x.asked(), plain.call("asked"));
        due.is(call + ", finding()", x.finding(), plain.call("finding"));
        due.is(call + ", upper()", x.upper(), plain.upper());
        due.is(call + ", lower()", x.lower(), plain.lower());
        due.is(call + ", digest()", x.digest(), plain.digest());
    }
}
