import java.math.BigInteger;
import java.util.ArrayList;
import java.util.HashMap;
import java.util.List;
import java.util.Map;
import java.util.TreeMap;

/**
 * The document once more, in another way: days are objects of classes, a state is copied whole for
 * each thing that is tried, deeds are undone by going back to a copy. Slow, and fine for it.
 */
final class PlainLeat {
    /** What a call answers when it is refused, so that checks need not be nested. */
    private static final class Refused extends RuntimeException {
        private static final long serialVersionUID = 1L;
        final int answer;

        Refused(int answer) {
            super("refused", null, false, false);
            this.answer = answer;
        }
    }

    private static class Day {
        int flow, drift, fished;

        int grinds(int hatch, int clog) {
            return Math.max(flow * hatch - clog, 0);
        }

        int leaves() {
            return fished == 1 ? 0 : drift;
        }

        int driftNow() {
            return fished == 1 ? 0 : drift;
        }

        Day alike(int kind) {
            Day d = make(kind, flow, drift);
            d.fished = fished;
            return d;
        }

        static Day make(int kind, int flow, int drift) {
            Day d = kind == 0 ? new Day() : kind == 1 ? new Flood() : kind == 2 ? new Dry()
                    : kind == 3 ? new Pig() : kind == 4 ? new Red() : new Hats();
            d.flow = flow;
            d.drift = drift;
            return d;
        }

        int kind() {
            return List.of(Day.class, Flood.class, Dry.class, Pig.class, Red.class, Hats.class).indexOf(getClass());
        }
    }

    private static class Flood extends Day {
        @Override int grinds(int hatch, int clog) {
            return Math.max(flow * 2 * hatch - clog, 0);
        }

        @Override int leaves() {
            return super.leaves() / 2;
        }
    }

    private static final class Dry extends Day {
        @Override int grinds(int hatch, int clog) {
            return super.grinds(hatch > 1 ? 1 : hatch, clog);
        }
    }

    private static class Pig extends Day {
        @Override int leaves() {
            return super.leaves() + 3;
        }
    }

    private static final class Red extends Flood {
        @Override int grinds(int hatch, int clog) {
            int flood = super.grinds(hatch, clog);
            return hatch == 4 ? flood + 5 : flood;
        }
    }

    private static final class Hats extends Pig {
        @Override int grinds(int hatch, int clog) {
            return Math.max(super.grinds(hatch, clog) - driftNow(), 0);
        }

        @Override int leaves() {
            return super.leaves() * 2;
        }
    }

    private static final class State {
        final List<Day> days = new ArrayList<>();
        int at, hatch, clog, way = 1, ground;

        State copy() {
            State s = new State();
            for (Day d : days) {
                s.days.add(d.alike(d.kind()));
            }
            s.at = at;
            s.hatch = hatch;
            s.clog = clog;
            s.way = way;
            s.ground = ground;
            return s;
        }

        int step() {
            int flour = days.get(at).grinds(hatch, clog);
            clog = Math.min(clog + days.get(at).leaves(), 40);
            if (flour == 0) {
                way = -way;
            }
            at = Math.floorMod(at + way, days.size());
            ground += flour;
            return flour;
        }

        int steps(int n) {
            int before = ground;
            for (int i = 0; i < n; i++) {
                step();
            }
            return ground - before;
        }
    }

    private final Map<Integer, int[]> rows = new HashMap<>();
    private final Map<Integer, byte[]> texts = new HashMap<>();
    /** The state at first, and behind each deed. */
    private List<State> states = new ArrayList<>(List.of(new State()));
    private final Map<Integer, List<State>> kept = new HashMap<>();
    private int asked, finding;
    private long upper = 0, lower = 1;
    private final int[] findings = new int[6];

    int call(String name, int... a) {
        try {
            return answer(name, a);
        } catch (Refused r) {
            return r.answer;
        }
    }

    private State now() {
        return states.get(states.size() - 1);
    }

    private int answer(String name, int[] a) {
        switch (name) {
            case "row": bad(!row(a[0]) || a[1] > 40); find(5, a[1] < 0); rows.put(a[0], new int[a[1]]); return a[1];
            case "lay": return lay(a[0], a[1], a[2], true);
            case "at": return lay(a[0], a[1], 0, false);
            case "tear": bad(!row(a[0])); find(1, !rows.containsKey(a[0])); rows.remove(a[0]); return 1;
            case "copy": return copy(a);
            case "mean": return mean(a[0]);
            case "text": return text(a[0], a[1]);
            case "put": return put(a[0], a[1], a[2]);
            case "fault": bad(!text(a[0])); find(1, !texts.containsKey(a[0])); return fault(texts.get(a[0]), null);
            case "leat": return leat(a[0]);
            case "day": bad(!day(a[0]) || a[1] < 0 || a[1] > 5); asked = told(a[0], a[1]); return 1;
            case "mark": return mark(a[0], a[1]);
            case "grinds":
                bad(!day(a[0]) || a[1] < 0 || a[1] > 4 || a[2] < 0 || a[2] > 40);
                return now().days.get(a[0]).grinds(a[1], a[2]);
            case "step": state(none()); full(1); next(); int flour = now().step(); asked = now().at; return flour;
            case "hatch": return hatch(a[0]);
            case "rake": return rake();
            case "fish": return fish(a[0]);
            case "undo": return undo(a[0]);
            case "keep":
                bad(a[0] < 0 || a[0] > 2); state(none());
                kept.put(a[0], new ArrayList<>(states)); return states.size() - 1;
            case "on":
                bad(a[0] < 0 || a[0] > 2); find(1, !kept.containsKey(a[0]));
                states = new ArrayList<>(kept.get(a[0])); return states.size() - 1;
            default: return answerMore(name, a);
        }
    }

    private int answerMore(String name, int[] a) {
        switch (name) {
            case "mill": {
                bad(a[0] < 0 || a[0] > 60); state(none());
                State s = now().copy(); int flour = s.steps(a[0]); asked = s.at; return flour;
            }
            case "turns": return turns();
            case "book": return book(a[0], a[1]);
            case "best": return best(a[0]);
            case "plan": return plan(a[0], a[1]);
            case "rakes": return rakes(a[0], a[1]);
            case "fishes": return fishes(a[0]);
            case "where": return where(a[0]);
            case "flows": return flows(a[0], a[1]);
            case "kinds": return kinds(a[0], a[1]);
            case "look": return look(a[0]);
            case "duel": bad(a[0] < 0 || a[0] > 6); state(none()); return duel(now(), a[0], 0);
            case "odds": bad(a[0] < 0 || a[0] > 400 || a[1] < 0 || a[1] > 12); return chances(a[0], a[1]);
            case "mid": bad(a[0] < 0 || a[0] > 12); return chances(-1, a[0]);
            case "lots": return lots(a[0], a[1]);
            case "asked": return asked;
            case "count": bad(a[0] < 0 || a[0] > 12); return count(a[0]);
            case "finding": return finding;
            case "findings": bad(a[0] < 1 || a[0] > 5); return findings[a[0]];
            default: throw new IllegalArgumentException(name);
        }
    }

    // refusals

    private void bad(boolean so) {
        refuse(so, -1);
    }

    private void state(boolean so) {
        refuse(so, -4);
    }

    private void full(int more) {
        refuse(states.size() - 1 + more > 40, -2);
    }

    private void refuse(boolean so, int answer) {
        if (so) {
            throw new Refused(answer);
        }
    }

    private void find(int f, boolean so) {
        if (so) {
            finding = f;
            findings[f]++;
            throw new Refused(-3);
        }
    }

    private boolean row(int r) {
        return r >= 0 && r < 6;
    }

    private boolean text(int t) {
        return t >= 0 && t < 4;
    }

    private boolean day(int k) {
        return k >= 0 && k < now().days.size();
    }

    private boolean none() {
        return now().days.isEmpty();
    }

    // rows, texts, leats

    private int lay(int r, int i, int v, boolean truly) {
        bad(!row(r));
        find(1, !rows.containsKey(r));
        int[] x = rows.get(r);
        find(2, i < 0 || i >= x.length);
        asked = x[i];
        x[i] = truly ? v : x[i];
        return 1;
    }

    private int copy(int[] a) {
        bad(!row(a[0]) || !row(a[2]));
        find(5, a[4] < 0);
        find(1, !rows.containsKey(a[0]) || !rows.containsKey(a[2]));
        int[] from = rows.get(a[0]).clone();
        int[] to = rows.get(a[2]);
        find(2, a[1] < 0 || a[3] < 0 || (long) a[1] + a[4] > from.length || (long) a[3] + a[4] > to.length);
        for (int i = 0; i < a[4]; i++) {
            to[a[3] + i] = from[a[1] + i];
        }
        return 1;
    }

    private int mean(int r) {
        bad(!row(r));
        find(1, !rows.containsKey(r));
        find(4, rows.get(r).length == 0);
        BigInteger sum = BigInteger.ZERO;
        for (int v : rows.get(r)) {
            sum = sum.add(BigInteger.valueOf(v));
        }
        asked = sum.divide(BigInteger.valueOf(rows.get(r).length)).intValueExact();
        return 1;
    }

    private int text(int t, int n) {
        bad(!text(t) || n > 60);
        find(5, n < 0);
        byte[] x = new byte[n];
        java.util.Arrays.fill(x, (byte) 32);
        texts.put(t, x);
        return n;
    }

    private int put(int t, int i, int v) {
        bad(!text(t));
        find(1, !texts.containsKey(t));
        byte[] x = texts.get(t);
        find(2, i < 0 || i >= x.length);
        int was = x[i] + 1000;
        x[i] = (byte) v;
        return was;
    }

    /** By a state for each byte: 0 between items, 1 behind a letter, 2 behind a FLOW. */
    private static int fault(byte[] x, List<Day> into) {
        int where = 0, many = 0, kind = 0, flow = 0;
        for (int i = 0; i < x.length; i++) {
            if (where == 0) {
                if (x[i] == 32) {
                    continue;
                }
                kind = "dfrpeh".indexOf(x[i]);
                if (kind < 0 || many == 9) {
                    return i;
                }
                where = 1;
            } else {
                int figure = "0123456789".indexOf(x[i]);
                if (figure < 0) {
                    return i;
                }
                if (where == 1) {
                    flow = figure;
                    where = 2;
                } else {
                    many++;
                    where = 0;
                    if (into != null) {
                        into.add(Day.make(kind, flow, figure));
                    }
                }
            }
        }
        return where != 0 || many < 2 ? x.length : -9;
    }

    private int leat(int t) {
        bad(!text(t));
        find(1, !texts.containsKey(t));
        State s = new State();
        state(fault(texts.get(t), s.days) != -9);
        s.hatch = 2;
        states = new ArrayList<>(List.of(s));
        kept.clear();
        return s.days.size();
    }

    private int told(int k, int what) {
        Day d = now().days.get(k);
        return new int[] {d.kind(), d.flow, d.driftNow(), d.grinds(now().hatch, now().clog), d.leaves(), d.fished}[what];
    }

    private int mark(int k, int kind) {
        bad(!day(k) || kind < 1 || kind > 5);
        Day d = now().days.get(k);
        int h = now().hatch, c = now().clog;
        boolean[] is = {true, d instanceof Flood, d instanceof Dry, d instanceof Pig, d instanceof Red, d instanceof Hats};
        find(3, !is[kind]);
        int own = d.grinds(h, c);
        int[] more = {0, own - d.alike(0).grinds(h, c), own - d.alike(0).grinds(h, c),
            d.leaves() - d.alike(0).leaves(), own - d.alike(1).grinds(h, c), d.leaves() - d.alike(3).leaves()};
        return 100 + more[kind];
    }

    // deeds

    private void next() {
        states.add(now().copy());
    }

    private int hatch(int h) {
        bad(h < 0 || h > 4);
        state(none() || now().hatch == h);
        full(1);
        int was = now().hatch;
        next();
        now().hatch = h;
        return was;
    }

    private int rake() {
        state(none() || now().clog == 0);
        full(1);
        int was = now().clog;
        next();
        now().clog = 0;
        return was;
    }

    private int fish(int k) {
        bad(!day(k));
        state(now().days.get(k).fished == 1);
        full(1);
        next();
        now().days.get(k).fished = 1;
        return now().days.get(k).drift;
    }

    private int undo(int n) {
        bad(n < 0 || n > states.size() - 1);
        int many = states.size() - 1 - n;
        states = new ArrayList<>(states.subList(0, n + 1));
        return many;
    }

    // what comes, what to do

    private int turns() {
        state(none());
        State s = now().copy();
        for (int i = 1; i <= 60; i++) {
            int at = s.at;
            int way = s.way;
            s.step();
            if (s.way != way) {
                asked = at;
                return i;
            }
        }
        return -9;
    }

    private int book(int n, int r) {
        bad(n < 1 || n > 20 || !row(r));
        state(none());
        State s = now().copy();
        int[] x = new int[n];
        int turned = 0;
        for (int i = 0; i < n; i++) {
            int way = s.way;
            x[i] = s.step();
            turned += s.way != way ? 1 : 0;
        }
        rows.put(r, x);
        return turned;
    }

    private int best(int n) {
        bad(n < 1 || n > 20);
        state(none());
        int[] flour = new int[5];
        for (int h = 0; h < 5; h++) {
            State s = now().copy();
            s.hatch = h;
            flour[h] = s.steps(n);
        }
        int most = java.util.Arrays.stream(flour).max().getAsInt();
        asked = most;
        int h = 0;
        while (flour[h] != most) {
            h++;
        }
        return h;
    }

    private int plan(int n, int r) {
        bad(n < 1 || n > 5 || !row(r));
        state(none());
        int most = -1;
        int all = (int) Math.pow(5, n);
        for (int code = 0; code < all; code++) {
            State s = now().copy();
            int[] x = new int[n];
            int left = code;
            for (int i = n - 1; i >= 0; i--) {
                x[i] = left % 5;
                left /= 5;
            }
            int flour = 0;
            for (int h : x) {
                s.hatch = h;
                flour += s.step();
            }
            if (flour > most) {
                most = flour;
                rows.put(r, x);
            }
        }
        return most;
    }

    private int rakes(int n, int v) {
        bad(n < 1 || n > 8 || v < 0 || v > 400);
        state(none());
        for (int few = 0; few <= n; few++) {
            for (int set = 0; set < 1 << n; set++) {
                if (Integer.bitCount(set) == few && raking(n, set) >= v) {
                    asked = set;
                    return few;
                }
            }
        }
        return -9;
    }

    private int raking(int n, int set) {
        State s = now().copy();
        int flour = 0;
        for (int i = 0; i < n; i++) {
            s.clog = (set & 1 << i) != 0 ? 0 : s.clog;
            flour += s.step();
        }
        return flour;
    }

    private int fishes(int n) {
        bad(n < 1 || n > 20);
        state(none());
        int nothing = now().copy().steps(n);
        int first = -9, most = nothing;
        for (int k = 0; k < now().days.size(); k++) {
            State s = now().copy();
            s.days.get(k).fished = 1;
            int flour = s.steps(n);
            if (flour > most) {
                most = flour;
                first = k;
            }
        }
        asked = first == -9 ? asked : most;
        return first;
    }

    // which day it is

    private int[] numbers(int r) {
        find(1, !rows.containsKey(r));
        int[] x = rows.get(r);
        find(5, x.length < 1 || x.length > 20);
        find(3, java.util.Arrays.stream(x).anyMatch(v -> v < 0));
        return x;
    }

    private static boolean so(State s, int[] numbers) {
        for (int v : numbers) {
            if (s.step() != v) {
                return false;
            }
        }
        return true;
    }

    private int where(int r) {
        bad(!row(r));
        state(none());
        int[] x = numbers(r);
        int bits = 0;
        for (int k = 0; k < now().days.size(); k++) {
            State s = now().copy();
            s.at = k;
            bits += so(s, x) ? 1 << k : 0;
        }
        return bits;
    }

    private int flows(int k, int r) {
        bad(!day(k) || !row(r));
        int[] x = numbers(r);
        int bits = 0;
        for (int flow = 0; flow < 10; flow++) {
            State s = now().copy();
            s.days.get(k).flow = flow;
            bits += so(s, x) ? 1 << flow : 0;
        }
        return bits;
    }

    private int kinds(int k, int r) {
        bad(!day(k) || !row(r));
        int[] x = numbers(r);
        int bits = 0;
        for (int kind = 0; kind < 6; kind++) {
            State s = now().copy();
            s.days.set(k, s.days.get(k).alike(kind));
            bits += so(s, x) ? 1 << kind : 0;
        }
        return bits;
    }

    private int look(int k) {
        bad(!day(k));
        int first = 0, least = 7;
        for (int h = 0; h < 5; h++) {
            Map<Integer, Integer> parts = new TreeMap<>();
            for (int kind = 0; kind < 6; kind++) {
                parts.merge(now().days.get(k).alike(kind).grinds(h, now().clog), 1, Integer::sum);
            }
            int greatest = parts.values().stream().max(Integer::compare).get();
            if (greatest < least) {
                least = greatest;
                first = h;
            }
        }
        asked = least;
        return first;
    }

    // by turns, chances, lots

    private static int duel(State from, int n, int turn) {
        if (turn == n) {
            return from.copy().steps(8);
        }
        List<Integer> ends = new ArrayList<>();
        ends.add(duel(from, n, turn + 1));
        State s = from.copy();
        if (turn % 2 == 1) {
            s.clog = Math.min(s.clog + 5, 40);
            ends.add(duel(s, n, turn + 1));
            return ends.stream().min(Integer::compare).get();
        }
        s.clog = 0;
        ends.add(duel(s, n, turn + 1));
        s = from.copy();
        s.hatch = Math.min(s.hatch + 1, 4);
        ends.add(duel(s, n, turn + 1));
        return ends.stream().max(Integer::compare).get();
    }

    /** Chances that v or more is GROUND; the mean, if v is -1. */
    private int chances(int v, int p) {
        state(none());
        Map<Integer, BigInteger> weights = new TreeMap<>();
        spread(now(), 6, p, 0, BigInteger.ONE, weights);
        BigInteger up = BigInteger.ZERO;
        for (Map.Entry<Integer, BigInteger> e : weights.entrySet()) {
            if (v < 0) {
                up = up.add(e.getValue().multiply(BigInteger.valueOf(e.getKey())));
            } else if (e.getKey() >= v) {
                up = up.add(e.getValue());
            }
        }
        BigInteger low = BigInteger.valueOf(12).pow(6);
        BigInteger common = up.gcd(low);
        upper = up.divide(common).longValueExact();
        lower = low.divide(common).longValueExact();
        return 1;
    }

    private static void spread(State from, int left, int p, int flour, BigInteger weight, Map<Integer, BigInteger> into) {
        if (left == 0) {
            into.merge(flour, weight, BigInteger::add);
            return;
        }
        State dry = from.copy();
        dry.way = -dry.way;
        dry.at = Math.floorMod(dry.at + dry.way, dry.days.size());
        spread(dry, left - 1, p, flour, weight.multiply(BigInteger.valueOf(p)), into);
        State wet = from.copy();
        int more = wet.step();
        spread(wet, left - 1, p, flour + more, weight.multiply(BigInteger.valueOf(12 - p)), into);
    }

    private int lots(int n, int seed) {
        bad(n < 1 || n > 20 || seed < 1 || seed > 2147483646);
        state(none());
        full(n);
        BigInteger lot = BigInteger.valueOf(seed);
        for (int i = 0; i < n; i++) {
            lot = lot.multiply(BigInteger.valueOf(48271)).mod(BigInteger.valueOf(2147483647));
            next();
            int six = lot.mod(BigInteger.valueOf(6)).intValue();
            if (six == 0) {
                now().clog = 0;
            } else if (six == 1) {
                now().hatch = lot.divide(BigInteger.valueOf(8)).mod(BigInteger.valueOf(5)).intValue();
            } else {
                now().step();
            }
        }
        return now().ground;
    }

    // what is told

    long upper() {
        return upper;
    }

    long lower() {
        return lower;
    }

    private int count(int what) {
        State s = now();
        int fished = 0, floods = 0, pigs = 0;
        for (int k = 0; k < s.days.size(); k++) {
            fished |= s.days.get(k).fished << k;
            floods += s.days.get(k) instanceof Flood ? 1 : 0;
            pigs += s.days.get(k) instanceof Pig ? 1 : 0;
        }
        return new int[] {s.days.size(), s.at, states.size() - 1, s.hatch, s.clog, s.ground, s.way < 0 ? 1 : 0,
            fished, rows.size(), texts.size(), kept.size(), floods, pigs}[what];
    }

    long digest() {
        List<Integer> values = new ArrayList<>();
        for (int what = 0; what < 13; what++) {
            values.add(count(what));
        }
        for (int k = 0; k < now().days.size(); k++) {
            for (int what = 0; what < 6; what++) {
                values.add(told(k, what));
            }
        }
        for (int k = 0; k < 3; k++) {
            values.add(kept.containsKey(k) ? kept.get(k).size() - 1 : -1);
        }
        for (int r = 0; r < 6; r++) {
            values.add(rows.containsKey(r) ? rows.get(r).length : -1);
            for (int v : rows.getOrDefault(r, new int[0])) {
                values.add(v);
            }
        }
        for (int t = 0; t < 4; t++) {
            values.add(texts.containsKey(t) ? texts.get(t).length : -1);
            for (byte v : texts.getOrDefault(t, new byte[0])) {
                values.add((int) v);
            }
        }
        BigInteger h = BigInteger.valueOf(17);
        for (int v : values) {
            h = h.multiply(BigInteger.valueOf(31)).add(BigInteger.valueOf(v));
        }
        return h.longValue();
    }
}
