import java.util.ArrayList;
import java.util.HashMap;
import java.util.List;
import java.util.Map;
import java.util.TreeMap;

/**
 * The document once more, as plainly as it can be said and slow: each sheet is a copy of its own with its own age,
 * a way is looked for by trying all ways. It is there to be compared with the class.
 */
final class Model {
    private static final class Pass {
        int a;
        int b;
        int length;
        boolean open = true;
    }

    private static final class Sheet {
        int number;
        int age;
        Map<Integer, Integer> tells = new TreeMap<>();

        Sheet copy() {
            Sheet s = new Sheet();
            s.number = number;
            s.age = age;
            s.tells = new TreeMap<>(tells);
            return s;
        }
    }

    private static final class Hut {
        int area;
        int wrote;
        Map<Integer, Sheet> sheets = new TreeMap<>();
    }

    private static final class Way {
        int length;
        List<Integer> huts = new ArrayList<>();

        boolean betterThan(Way other) {
            if (other == null || length != other.length) {
                return other == null || length < other.length;
            }
            if (huts.size() != other.huts.size()) {
                return huts.size() < other.huts.size();
            }
            for (int i = 0; i < huts.size(); i++) {
                if (!huts.get(i).equals(other.huts.get(i))) {
                    return huts.get(i) < other.huts.get(i);
                }
            }
            return false;
        }
    }

    private final List<Hut> huts = new ArrayList<>();
    private final List<Pass> passes = new ArrayList<>();
    private final Map<Integer, Map<Integer, Way>> known = new HashMap<>();
    private int minute;

    String answer(String call) {
        try {
            return String.valueOf(made(Calls.name(call), Calls.arguments(call)));
        } catch (IllegalArgumentException | IllegalStateException | IndexOutOfBoundsException e) {
            return "throws." + e.getClass().getSimpleName();
        }
    }

    private Object made(String name, int[] a) {
        return switch (name) {
            case "hut" -> hut(a[0]);
            case "pass" -> pass(a[0], a[1], a[2]);
            case "setLength" -> setLength(a[0], a[1]);
            case "setOpen" -> setOpen(a[0], a[1] == 1);
            case "burn" -> burn(a[0]);
            case "sheet" -> sheet(a[0], a[1], a[2]);
            case "way" -> way(a[0], a[1], a[2]);
            case "post" -> post(a[0], a[1]);
            case "truth" -> truth(a[0], a[1]);
            case "about" -> about(a[0], a[1]);
            case "told" -> told(a[0], a[1]);
            case "count" -> count(a[0]);
            case "go" -> go(a[0]);
            case "foresee" -> foresee(a[0], a[1]);
            case "settles" -> settles();
            case "advise" -> advise();
            case "mean" -> mean();
            case "digest" -> digest();
            default -> throw new AssertionError("no such call: " + name);
        };
    }

    private static void index(boolean good) {
        if (!good) {
            throw new IndexOutOfBoundsException();
        }
    }

    private static void argument(boolean good) {
        if (!good) {
            throw new IllegalArgumentException();
        }
    }

    private static void state(boolean good) {
        if (!good) {
            throw new IllegalStateException();
        }
    }

    private boolean isHut(int hut) {
        return 0 <= hut && hut < huts.size();
    }

    private boolean isPass(int pass) {
        return 0 <= pass && pass < passes.size();
    }

    private int hut(int area) {
        argument(0 <= area && area <= 3);
        state(huts.size() < 10);
        Hut hut = new Hut();
        hut.area = area;
        huts.add(hut);
        known.clear();
        return huts.size() - 1;
    }

    private int pass(int a, int b, int length) {
        index(isHut(a) && isHut(b));
        argument(a != b && 1 <= length && length <= 99);
        state(passes.size() < 20);
        Pass pass = new Pass();
        pass.a = a;
        pass.b = b;
        pass.length = length;
        passes.add(pass);
        return passes.size() - 1;
    }

    private int setLength(int pass, int length) {
        index(isPass(pass));
        argument(1 <= length && length <= 99);
        int before = passes.get(pass).length;
        passes.get(pass).length = length;
        return before;
    }

    private boolean setOpen(int pass, boolean open) {
        index(isPass(pass));
        boolean before = passes.get(pass).open;
        passes.get(pass).open = open;
        return before;
    }

    private int burn(int hut) {
        index(isHut(hut));
        int had = huts.get(hut).sheets.size();
        huts.get(hut).sheets.clear();
        known.clear();
        return had;
    }

    private int sheet(int hut, int of, int what) {
        index(isHut(hut) && isHut(of) && 0 <= what && what <= 2);
        Sheet s = huts.get(hut).sheets.get(of);
        return s == null ? -1 : what == 0 ? s.number : what == 1 ? s.age : s.tells.size();
    }

    private int way(int hut, int to, int what) {
        index(isHut(hut) && isHut(to) && 0 <= what && what <= 2);
        if (hut == to) {
            return what == 2 ? hut : 0;
        }
        Way w = ways(hut).get(to);
        return w == null ? -1 : what == 0 ? w.length : what == 1 ? w.huts.size() - 1 : w.huts.get(1);
    }

    private Map<Integer, Way> ways(int hut) {
        return known.computeIfAbsent(hut, h -> {
            Map<Integer, Way> best = new HashMap<>();
            Way start = new Way();
            start.huts.add(h);
            tryOn(h, start, best);
            return best;
        });
    }

    private void tryOn(int knower, Way way, Map<Integer, Way> best) {
        int last = way.huts.get(way.huts.size() - 1);
        if (way.betterThan(best.get(last))) {
            best.put(last, way);
        }
        for (int p = 0; p < passes.size(); p++) {
            Pass pass = passes.get(p);
            int next = pass.a == last ? pass.b : pass.b == last ? pass.a : -1;
            if (next >= 0 && !way.huts.contains(next) && takesForOpen(knower, p)) {
                Way longer = new Way();
                longer.length = way.length + huts.get(knower).sheets.get(last).tells.get(p);
                longer.huts.addAll(way.huts);
                longer.huts.add(next);
                tryOn(knower, longer, best);
            }
        }
    }

    private boolean takesForOpen(int hut, int pass) {
        Sheet a = huts.get(hut).sheets.get(passes.get(pass).a);
        Sheet b = huts.get(hut).sheets.get(passes.get(pass).b);
        return a != null && b != null && a.tells.containsKey(pass) && b.tells.containsKey(pass);
    }

    private int post(int from, int to) {
        index(isHut(from) && isHut(to));
        int at = from;
        int steps = 0;
        while (at != to) {
            int next = way(at, to, 2);
            int here = at;
            boolean open = passes.stream().anyMatch(
                p -> p.open && (p.a == here && p.b == next || p.b == here && p.a == next));
            if (next == -1 || !open || steps == 20) {
                return -1;
            }
            at = next;
            steps++;
        }
        return steps;
    }

    /** Floyd and Warshall's table of the lengths in truth, without one pass. */
    private long[][] truths(int without) {
        int n = huts.size();
        long[][] t = new long[n][n];
        for (int i = 0; i < n; i++) {
            for (int j = 0; j < n; j++) {
                t[i][j] = i == j ? 0 : 1_000_000;
            }
        }
        for (int p = 0; p < passes.size(); p++) {
            Pass pass = passes.get(p);
            if (pass.open && p != without) {
                t[pass.a][pass.b] = Math.min(t[pass.a][pass.b], pass.length);
                t[pass.b][pass.a] = Math.min(t[pass.b][pass.a], pass.length);
            }
        }
        for (int k = 0; k < n; k++) {
            for (int i = 0; i < n; i++) {
                for (int j = 0; j < n; j++) {
                    t[i][j] = Math.min(t[i][j], t[i][k] + t[k][j]);
                }
            }
        }
        return t;
    }

    private int truePairs(int without) {
        long[][] t = truths(without);
        int pairs = 0;
        for (int i = 0; i < t.length; i++) {
            for (int j = 0; j < t.length; j++) {
                if (i != j && t[i][j] < 1_000_000) {
                    pairs++;
                }
            }
        }
        return pairs;
    }

    private int truth(int a, int b) {
        index(isHut(a) && isHut(b));
        long t = truths(-1)[a][b];
        return t < 1_000_000 ? (int) t : -1;
    }

    private int about(int pass, int what) {
        index(isPass(pass) && 0 <= what && what <= 4);
        Pass p = passes.get(pass);
        int takers = 0;
        for (int hut = 0; hut < huts.size(); hut++) {
            takers += takesForOpen(hut, pass) ? 1 : 0;
        }
        return new int[] {p.a, p.b, p.length, p.open ? 1 : 0, takers}[what];
    }

    private int told(int hut, int what) {
        index(isHut(hut) && 0 <= what && what <= 4);
        int knows = 0;
        int comes = 0;
        for (int to = 0; to < huts.size(); to++) {
            knows += way(hut, to, 0) >= 0 ? 1 : 0;
            comes += way(hut, to, 0) >= 0 && post(hut, to) >= 0 ? 1 : 0;
        }
        Hut h = huts.get(hut);
        return new int[] {h.area, h.sheets.size(), h.wrote, knows, comes}[what];
    }

    private int count(int what) {
        index(0 <= what && what <= 6);
        switch (what) {
            case 0:
                return minute;
            case 1:
                return huts.size();
            case 2:
                return passes.size();
            case 3:
                return (int) passes.stream().filter(p -> p.open).count();
            case 4:
                return huts.stream().mapToInt(h -> h.sheets.size()).sum();
            case 5:
                int pairs = 0;
                for (int a = 0; a < huts.size(); a++) {
                    for (int b = 0; b < huts.size(); b++) {
                        pairs += a != b && post(a, b) >= 0 ? 1 : 0;
                    }
                }
                return pairs;
            default:
                return truePairs(-1);
        }
    }

    private int go(int minutes) {
        argument(1 <= minutes && minutes <= 60);
        int written = 0;
        for (int i = 0; i < minutes; i++) {
            written += write();
            carry();
            age();
        }
        known.clear();
        return written;
    }

    private int write() {
        int written = 0;
        for (int h = 0; h < huts.size(); h++) {
            Hut hut = huts.get(h);
            Map<Integer, Integer> tells = new TreeMap<>();
            for (int p = 0; p < passes.size(); p++) {
                Pass pass = passes.get(p);
                if (pass.open && (pass.a == h || pass.b == h)) {
                    tells.put(p, pass.length);
                }
            }
            Sheet own = hut.sheets.get(h);
            if (own == null || own.age >= 20 || !own.tells.equals(tells)) {
                Sheet sheet = new Sheet();
                sheet.number = ++hut.wrote;
                sheet.tells = tells;
                hut.sheets.put(h, sheet);
                written++;
            }
        }
        return written;
    }

    private void carry() {
        List<Map<Integer, Sheet>> behind = new ArrayList<>();
        for (int h = 0; h < huts.size(); h++) {
            Map<Integer, Sheet> keeps = new TreeMap<>(huts.get(h).sheets);
            for (Pass pass : passes) {
                int other = pass.a == h ? pass.b : pass.b == h ? pass.a : -1;
                if (!pass.open || other < 0) {
                    continue;
                }
                for (Map.Entry<Integer, Sheet> e : huts.get(other).sheets.entrySet()) {
                    int of = e.getKey();
                    int mine = huts.get(h).area;
                    int its = huts.get(of).area;
                    Sheet had = keeps.get(of);
                    Sheet got = e.getValue();
                    boolean newer = had == null || got.number > had.number
                        || got.number == had.number && got.age < had.age;
                    if (of != h && (mine == 0 || its == 0 || its == mine) && newer) {
                        keeps.put(of, got);
                    }
                }
            }
            behind.add(keeps);
        }
        for (int h = 0; h < huts.size(); h++) {
            Map<Integer, Sheet> copies = new TreeMap<>();
            behind.get(h).forEach((of, sheet) -> copies.put(of, sheet.copy()));
            huts.get(h).sheets = copies;
        }
    }

    private void age() {
        for (Hut hut : huts) {
            hut.sheets.values().forEach(s -> s.age++);
            hut.sheets.values().removeIf(s -> s.age > 30);
        }
        minute++;
    }

    private Model copy() {
        Model m = new Model();
        m.minute = minute;
        for (Hut h : huts) {
            Hut c = new Hut();
            c.area = h.area;
            c.wrote = h.wrote;
            h.sheets.forEach((of, sheet) -> c.sheets.put(of, sheet.copy()));
            m.huts.add(c);
        }
        for (Pass p : passes) {
            Pass c = new Pass();
            c.a = p.a;
            c.b = p.b;
            c.length = p.length;
            c.open = p.open;
            m.passes.add(c);
        }
        return m;
    }

    private int foresee(int minutes, int what) {
        argument(1 <= minutes && minutes <= 60);
        index(what == 4 || what == 5);
        Model m = copy();
        m.go(minutes);
        return m.count(what);
    }

    private boolean settled() {
        long[][] t = truths(-1);
        for (int a = 0; a < huts.size(); a++) {
            for (int b = 0; b < huts.size(); b++) {
                if (t[a][b] < 1_000_000 && post(a, b) < 0) {
                    return false;
                }
            }
        }
        return true;
    }

    private int settles() {
        Model m = copy();
        for (int minutes = 0; minutes <= 40; minutes++) {
            if (m.settled()) {
                return minutes;
            }
            m.go(1);
        }
        return -1;
    }

    private int advise() {
        int missed = -1;
        for (int p = 0; p < passes.size(); p++) {
            if (passes.get(p).open && (missed < 0 || truePairs(p) < truePairs(missed))) {
                missed = p;
            }
        }
        return missed;
    }

    private double mean() {
        double ages = 0;
        int sheets = 0;
        for (Hut hut : huts) {
            for (Sheet s : hut.sheets.values()) {
                ages += s.age;
                sheets++;
            }
        }
        return sheets == 0 ? 0 : ages / sheets;
    }

    private long digest() {
        List<Integer> numbers = new ArrayList<>();
        for (int what = 0; what <= 6; what++) {
            numbers.add(count(what));
        }
        for (int h = 0; h < huts.size(); h++) {
            for (int what = 0; what <= 4; what++) {
                numbers.add(told(h, what));
            }
        }
        for (int p = 0; p < passes.size(); p++) {
            for (int what = 0; what <= 4; what++) {
                numbers.add(about(p, what));
            }
        }
        for (int h = 0; h < huts.size(); h++) {
            for (int o = 0; o < huts.size(); o++) {
                for (int what = 0; what <= 2; what++) {
                    numbers.add(sheet(h, o, what));
                }
                for (int what = 0; what <= 2; what++) {
                    numbers.add(way(h, o, what));
                }
            }
        }
        long d = 1627;
        for (int x : numbers) {
            d = d * 31 + x;
        }
        return d;
    }
}
