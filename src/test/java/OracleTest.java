import java.util.ArrayList;
import java.util.Arrays;
import java.util.Collections;
import java.util.List;
import java.util.Random;

/** Random calls on DunkedBiscuits beside a slow model of the document that goes second by second. */
public final class OracleTest {
    private static final int RUNS = 5000;
    /** Behind so many calls no other is begun: a text takes up to 163, the looks at the end 40, 512 are promised. */
    private static final int CALLS = 300;
    private static final int PROMISED_CALLS = 512;
    private static final int LOOKS = 40;
    private static final int PLATES = 300;
    private static int wrong = 0;

    public static void main(String[] args) {
        for (int run = 0; run < RUNS && wrong < 10; run++) {
            new Run(run).go();
        }
        for (int run = 0; run < PLATES && wrong < 10; run++) {
            new Run(-1 - run).plate();
        }
        System.out.println(wrong == 0 ? "the model answers likewise" : wrong + " answers differ from the model");
        if (wrong != 0) {
            System.exit(1);
        }
    }

    // ---- the model

    static final class Broken {
        List<Integer> wets;
        int gone;
        int first = -1;
        int took;
    }

    static final class Bis implements Cloneable {
        int kind;
        int a;
        List<Integer> wets = new ArrayList<>();

        Bis copy() {
            Bis b = new Bis();
            b.kind = kind;
            b.a = a;
            b.wets = new ArrayList<>(wets);
            return b;
        }
    }

    static boolean under(int kind, int wanted) {
        if (kind == wanted || wanted == 0) {
            return true;
        }
        return wanted == 1 && kind == 3 || wanted == 2 && kind == 5 || wanted == 4 && kind == 6;
    }

    static int soak(Bis b, int cell, int heat) {
        int base = 1 + b.a + heat / 10;
        if (under(b.kind, 1)) {
            return base / 2;
        }
        if (under(b.kind, 2)) {
            return base * (cell == b.wets.size() / 2 ? 2 : 1);
        }
        return under(b.kind, 4) ? base * 2 : base;
    }

    static int holds(Bis b, int wet) {
        return 60 - wet + (b.kind == 5 ? 40 : 0) + (b.kind == 6 ? b.a : 0);
    }

    static int hangs(Bis b, int cell) {
        int sum = 0;
        for (int i = 0; i < cell; i++) {
            sum += 1 + b.wets.get(i) / 20;
        }
        return sum;
    }

    static int breaking(Bis b) {
        for (int i = 1; i < b.wets.size(); i++) {
            if (hangs(b, i) > holds(b, b.wets.get(i))) {
                return i;
            }
        }
        return -1;
    }

    /** Goes through legs of {depth, seconds}; a leg {-1, 0} turns the biscuit about. */
    static Broken through(Bis from, int heat, int[]... legs) {
        Bis b = from.copy();
        Broken out = new Broken();
        int second = 0;
        for (int[] leg : legs) {
            if (leg[0] == -1) {
                Collections.reverse(b.wets);
                continue;
            }
            int depth = Math.min(leg[0], b.wets.size());
            for (int s = 0; s < leg[1]; s++) {
                second++;
                List<Integer> next = new ArrayList<>();
                for (int i = 0; i < b.wets.size(); i++) {
                    int was = b.wets.get(i);
                    if (i < depth) {
                        int to = Math.min(99, was + soak(b, i, heat));
                        out.took += to - was;
                        next.add(to);
                    } else if (i > 0 && b.wets.get(i - 1) > was) {
                        int more = b.wets.get(i - 1) - was;
                        next.add(Math.min(99, was + more / (b.kind == 3 ? 2 : 4)));
                    } else {
                        next.add(was);
                    }
                }
                b.wets = next;
                int at = breaking(b);
                if (at > 0) {
                    b.wets = new ArrayList<>(b.wets.subList(at, b.wets.size()));
                    depth = Math.max(0, depth - at);
                    out.gone += at;
                    if (out.first < 0) {
                        out.first = second;
                    }
                }
            }
        }
        out.wets = b.wets;
        return out;
    }

    static final class Fault extends RuntimeException {
        final int place;

        Fault(int place) {
            this.place = place;
        }
    }

    static final class World {
        List<Bis> all = new ArrayList<>();
        int heat = 60;
        int loss = 20;
        int tea = 1000;
        int sludge;
        int pleasure;
        int seconds;
        int seed = 1;
        int[] worths = new int[10];

        World copy() {
            World w = new World();
            for (Bis b : all) {
                w.all.add(b.copy());
            }
            w.heat = heat;
            w.loss = loss;
            w.tea = tea;
            w.sludge = sludge;
            w.pleasure = pleasure;
            w.seconds = seconds;
            w.seed = seed;
            w.worths = worths.clone();
            return w;
        }

        boolean has(int b) {
            return b >= 0 && b < all.size();
        }

        boolean cell(int b, int c) {
            return has(b) && c >= 0 && c < all.get(b).wets.size();
        }

        int worth(List<Integer> wets) {
            int sum = 0;
            for (int w : wets) {
                sum += worths[w / 10];
            }
            return sum;
        }

        void pass(int s) {
            for (int i = 0; i < s; i++) {
                seconds++;
                if (seconds % loss == 0 && heat > 0) {
                    heat--;
                }
            }
        }

        int dip(int b, int d, int s) {
            Broken out = through(all.get(b), heat, new int[] {d, s});
            all.get(b).wets = out.wets;
            tea = Math.max(0, tea - out.took);
            sludge += out.gone;
            pass(s);
            return out.gone;
        }

        int carry(int b, int c) {
            Broken out = through(all.get(b), heat, new int[] {0, c});
            all.get(b).wets = out.wets;
            pass(c);
            return out.gone;
        }

        int eat(int b) {
            int worth = worth(all.get(b).wets);
            pleasure += worth;
            all.get(b).wets = new ArrayList<>();
            return worth;
        }

        int draw(int n) {
            seed = seed * 1103515245 + 12345;
            return (seed >>> 16) % n;
        }

        int add(int kind, int cells, int a) {
            Bis b = new Bis();
            b.kind = kind;
            b.a = a;
            for (int i = 0; i < cells; i++) {
                b.wets.add(0);
            }
            all.add(b);
            return all.size() - 1;
        }

        // ---- the table's text

        private int[] text;
        private int at;

        int tell(int[] letters) {
            text = letters;
            at = 0;
            int items = 0;
            while (true) {
                item();
                items++;
                if (at == text.length) {
                    return items;
                }
                expect(';');
            }
        }

        private int peek() {
            return at < text.length ? text[at] : Integer.MIN_VALUE;
        }

        private void expect(int c) {
            if (peek() != c) {
                throw new Fault(at);
            }
            at++;
        }

        private void item() {
            List<String> may = new ArrayList<>(List.of("biscuit", "wet", "heat", "loss", "tea", "worth", "dip"));
            int start = at;
            int n = 0;
            String whole = null;
            while (whole == null) {
                int c = peek();
                int k = n;
                may.removeIf(w -> w.charAt(k) != c);
                if (may.isEmpty()) {
                    throw new Fault(at);
                }
                at++;
                n++;
                for (String w : may) {
                    if (w.length() == n) {
                        whole = w;
                    }
                }
            }
            if (whole.equals("biscuit")) {
                if (all.size() == 6) {
                    throw new Fault(start);
                }
                int k = number(0, 6);
                int cells = number(1, 12);
                add(k, cells, number(0, 9));
            } else if (whole.equals("wet")) {
                int b = number(0, all.size() - 1);
                int c = number(0, all.get(b).wets.size() - 1);
                all.get(b).wets.set(c, number(0, 99));
            } else if (whole.equals("heat")) {
                heat = number(0, 99);
            } else if (whole.equals("loss")) {
                loss = number(1, 99);
            } else if (whole.equals("tea")) {
                tea = number(0, 9999);
            } else if (whole.equals("worth")) {
                int w = number(0, 9);
                worths[w] = number(0, 99);
            } else {
                int place = at + 1;
                int b = number(0, all.size() - 1);
                if (all.get(b).wets.isEmpty()) {
                    throw new Fault(place);
                }
                int d = number(0, 12);
                dip(b, d, number(0, 60));
            }
        }

        private int number(int least, int most) {
            expect(' ');
            int start = at;
            StringBuilder digits = new StringBuilder();
            while (digits.length() < 4 && peek() >= '0' && peek() <= '9') {
                digits.append((char) peek());
                at++;
            }
            if (digits.length() == 0) {
                throw new Fault(start);
            }
            int n = Integer.parseInt(digits.toString());
            if (n < least || n > most) {
                throw new Fault(start);
            }
            return n;
        }
    }

    static final class Model {
        World w = new World();
        World image;
        Object[] shelves = new Object[8];
        int[] refused = new int[8];
        int latestFault = -1;
        List<Integer> trace = new ArrayList<>();

        static final class Row {
            int sort;
            long[] v;
        }

        int no(int k) {
            refused[k]++;
            return -k;
        }

        boolean shelf(int s) {
            return s >= 0 && s < 8;
        }

        static boolean in(int v, int a, int b) {
            return a <= v && v <= b;
        }

        int row(int s, int sort, int n) {
            if (!shelf(s)) {
                return no(1);
            }
            if (n < 0) {
                return no(4);
            }
            if (!in(sort, 0, 3)) {
                return no(6);
            }
            if (n > 160) {
                return no(7);
            }
            Row r = new Row();
            r.sort = sort;
            r.v = new long[n];
            shelves[s] = r;
            return 1;
        }

        int rowWhy(int s) {
            if (!shelf(s)) {
                return 1;
            }
            if (shelves[s] instanceof Integer) {
                return 2;
            }
            return shelves[s] == null ? 3 : 0;
        }

        int set(int s, int i, long v) {
            int why = rowWhy(s);
            if (why != 0) {
                return no(why);
            }
            Row r = (Row) shelves[s];
            if (i < 0 || i >= r.v.length) {
                return no(5);
            }
            int bits = 8 << r.sort;
            r.v[i] = v << 64 - bits >> 64 - bits;
            return 1;
        }

        int copy(int p, int q, int i, int j, int n) {
            if (!shelf(p) || !shelf(q)) {
                return no(1);
            }
            if (shelves[p] instanceof Integer || shelves[q] instanceof Integer) {
                return no(2);
            }
            if (shelves[p] == null || shelves[q] == null) {
                return no(3);
            }
            Row a = (Row) shelves[p];
            Row b = (Row) shelves[q];
            if (a.sort != b.sort) {
                return no(2);
            }
            if (n < 0) {
                return no(4);
            }
            if (i < 0 || j < 0 || (long) i + n > a.v.length || (long) j + n > b.v.length) {
                return no(5);
            }
            long[] old = a.v.clone();
            for (int k = 0; k < n; k++) {
                b.v[j + k] = old[i + k];
            }
            return 1;
        }

        long element(int s, int i) {
            if (rowWhy(s) != 0) {
                return 0;
            }
            long[] v = ((Row) shelves[s]).v;
            return i >= 0 && i < v.length ? v[i] : 0;
        }

        int show(int s, int b) {
            if (!shelf(s) || b != -1 && !w.has(b)) {
                return no(1);
            }
            shelves[s] = b == -1 ? null : (Object) Integer.valueOf(b);
            return b == -1 ? 0 : 1;
        }

        int holds(int s) {
            if (!shelf(s) || shelves[s] == null) {
                return -1;
            }
            return shelves[s] instanceof Row ? 100 + ((Row) shelves[s]).sort : (Integer) shelves[s];
        }

        int says(int s, int kind) {
            if (!shelf(s) || !in(kind, 0, 6)) {
                return no(1);
            }
            if (shelves[s] instanceof Row) {
                return no(2);
            }
            if (shelves[s] == null) {
                return no(3);
            }
            Bis b = w.all.get((Integer) shelves[s]);
            if (!under(b.kind, kind)) {
                return no(2);
            }
            int[] all = {b.wets.size(), soak(b, 0, w.heat), soak(b, 0, w.heat), b.a, soak(b, 0, w.heat), 100, 50 + b.a};
            return all[kind];
        }

        int biscuit(int k, int c, int a) {
            if (!in(k, 0, 6)) {
                return no(1);
            }
            if (!in(c, 1, 12) || !in(a, 0, 9)) {
                return no(6);
            }
            return w.all.size() >= 6 ? no(7) : w.add(k, c, a);
        }

        int biscuitOf(int b, int what) {
            if (!w.has(b)) {
                return no(5);
            }
            Bis x = w.all.get(b);
            if (what == 0) {
                return x.kind;
            }
            if (what == 1) {
                return x.wets.size();
            }
            if (what == 2) {
                return x.a;
            }
            if (what == 3) {
                return x.wets.stream().mapToInt(Integer::intValue).sum();
            }
            return what >= 10 && what - 10 < x.wets.size() ? x.wets.get(what - 10) : no(5);
        }

        int wet(int b, int c, int v) {
            if (!w.cell(b, c)) {
                return no(1);
            }
            return in(v, 0, 99) ? w.all.get(b).wets.set(c, v) : no(6);
        }

        int ask(int what, int v) {
            int was;
            switch (what) {
                case 0:
                    if (!in(v, 0, 99)) {
                        return no(6);
                    }
                    was = w.heat;
                    w.heat = v;
                    return was;
                case 1:
                    if (!in(v, 1, 99)) {
                        return no(6);
                    }
                    was = w.loss;
                    w.loss = v;
                    return was;
                case 2:
                    if (!in(v, 0, 9999)) {
                        return no(6);
                    }
                    was = w.tea;
                    w.tea = v;
                    return was;
                default:
                    return no(6);
            }
        }

        int worthOf(int x, int v) {
            if (!in(x, 0, 9) || !in(v, 0, 99)) {
                return no(6);
            }
            int was = w.worths[x];
            w.worths[x] = v;
            return was;
        }

        int table(int s) {
            int why = rowWhy(s);
            if (why != 0) {
                return no(why);
            }
            long[] v = ((Row) shelves[s]).v;
            int[] letters = new int[v.length];
            for (int i = 0; i < v.length; i++) {
                letters[i] = (int) v[i];
            }
            World told = w.copy();
            try {
                int items = told.tell(letters);
                w = told;
                latestFault = -1;
                return items;
            } catch (Fault f) {
                latestFault = f.place;
                return no(6);
            }
        }

        int soak(int b, int c) {
            return w.cell(b, c) ? OracleTest.soak(w.all.get(b), c, w.heat) : no(1);
        }

        static int soak(Bis b, int c, int heat) {
            return OracleTest.soak(b, c, heat);
        }

        int cellOf(int b, int c, int what) {
            if (!w.cell(b, c)) {
                return no(1) - 1000;
            }
            if (what != 0 && what != 1) {
                return no(5) - 1000;
            }
            Bis x = w.all.get(b);
            return what == 0 ? OracleTest.holds(x, x.wets.get(c)) : hangs(x, c);
        }

        int breaks(int b) {
            return w.has(b) ? breaking(w.all.get(b)) : no(1) - 10;
        }

        boolean dsc(int d, int s, int c) {
            return in(d, 0, 12) && in(s, 0, 60) && in(c, 0, 60);
        }

        Broken dunk(int b, int d, int s, int c) {
            return through(w.all.get(b), w.heat, new int[] {d, s}, new int[] {0, c});
        }

        int why(int b, int d, int s, int c) {
            return !w.has(b) ? 1 : dsc(d, s, c) ? 0 : 6;
        }

        int left(int b, int d, int s, int c) {
            int y = why(b, d, s, c);
            return y != 0 ? no(y) : dunk(b, d, s, c).wets.size();
        }

        int wetness(int b, int d, int s, int c, int i) {
            if (!w.has(b)) {
                return no(1);
            }
            if (i < 0) {
                return no(5);
            }
            if (!dsc(d, s, c)) {
                return no(6);
            }
            List<Integer> wets = dunk(b, d, s, c).wets;
            return i < wets.size() ? wets.get(i) : no(5);
        }

        int when(int b, int d, int s, int c) {
            int y = why(b, d, s, c);
            return y != 0 ? no(y) - 10 : dunk(b, d, s, c).first;
        }

        int longest(int b, int d, int c) {
            int y = why(b, d, 0, c);
            if (y != 0) {
                return no(y) - 10;
            }
            int most = -1;
            for (int s = 0; s <= 60 && dunk(b, d, s, c).gone == 0; s++) {
                most = s;
            }
            return most;
        }

        int far(int b, int d, int s) {
            int y = why(b, d, s, 0);
            if (y != 0) {
                return no(y) - 10;
            }
            int most = -1;
            for (int c = 0; c <= 60 && dunk(b, d, s, c).gone == 0; c++) {
                most = c;
            }
            return most;
        }

        int worth(int b, int d, int s, int c) {
            int y = why(b, d, s, c);
            return y != 0 ? no(y) : w.worth(dunk(b, d, s, c).wets);
        }

        int best(int b, int c, int turned) {
            if (!w.has(b)) {
                return no(1);
            }
            if (!in(turned, 0, 1)) {
                return no(5);
            }
            if (!in(c, 0, 60)) {
                return no(6);
            }
            Bis x = w.all.get(b).copy();
            if (turned == 1) {
                Collections.reverse(x.wets);
            }
            int most = -1;
            int best = 0;
            for (int d = 0; d <= x.wets.size(); d++) {
                for (int s = 0; s <= 30; s++) {
                    int worth = w.worth(through(x, w.heat, new int[] {d, s}, new int[] {0, c}).wets);
                    if (worth > most) {
                        most = worth;
                        best = 100 * d + s;
                    }
                }
            }
            return best;
        }

        int twice(int b, int d, int s, int e, int t) {
            if (!w.has(b)) {
                return no(1);
            }
            if (!dsc(d, s, 0) || !dsc(e, t, 0)) {
                return no(6);
            }
            return w.worth(through(w.all.get(b), w.heat, new int[] {d, s}, new int[] {-1, 0}, new int[] {e, t}).wets);
        }

        int goes(int b, int d, int s) {
            int y = why(b, d, s, 0);
            return y != 0 ? no(y) : dunk(b, d, s, 0).took;
        }

        int plate(int d, int s, int c, int i) {
            int n = w.all.size();
            if (i < -1 || i >= n) {
                return no(5);
            }
            if (!dsc(d, s, c) || n > 5) {
                return no(6);
            }
            List<List<Integer>> orders = new ArrayList<>();
            orders(new ArrayList<>(), n, orders);
            int most = -1;
            List<Integer> best = null;
            for (List<Integer> order : orders) {
                World at = w.copy();
                int sum = 0;
                for (int b : order) {
                    sum += w.worth(through(w.all.get(b), at.heat, new int[] {d, s}, new int[] {0, c}).wets);
                    at.pass(s + c);
                }
                if (sum > most) {
                    most = sum;
                    best = order;
                }
            }
            return i == -1 ? most : best.get(i);
        }

        void orders(List<Integer> begun, int n, List<List<Integer>> out) {
            if (begun.size() == n) {
                out.add(new ArrayList<>(begun));
                return;
            }
            for (int b = 0; b < n; b++) {
                if (!begun.contains(b)) {
                    begun.add(b);
                    orders(begun, n, out);
                    begun.remove(begun.size() - 1);
                }
            }
        }

        int rule(int u, int v, int d, int c) {
            if (!in(u, 0, 99) || !in(v, 1, 99) || !dsc(d, 0, c)) {
                return no(6);
            }
            int s = u - w.heat / v;
            s = s < 0 ? 0 : s > 60 ? 60 : s;
            int sum = 0;
            for (int b = 0; b < w.all.size(); b++) {
                sum += w.worth(dunk(b, d, s, c).wets);
            }
            return sum;
        }

        int backWhy(int b, int s) {
            if (!w.has(b)) {
                return 1;
            }
            int y = rowWhy(s);
            return y != 0 ? y : ((Row) shelves[s]).v.length < w.all.get(b).wets.size() ? 5 : 0;
        }

        boolean same(int b, int s, int heat, int d, int t) {
            Bis x = w.all.get(b).copy();
            Collections.fill(x.wets, 0);
            Broken out = through(x, heat, new int[] {d, t});
            if (out.gone > 0) {
                return false;
            }
            for (int i = 0; i < out.wets.size(); i++) {
                if ((int) ((Row) shelves[s]).v[i] != out.wets.get(i)) {
                    return false;
                }
            }
            return true;
        }

        long back(int b, int s, int d) {
            int y = backWhy(b, s);
            if (y != 0) {
                return no(y);
            }
            if (!in(d, 0, 12)) {
                return no(6);
            }
            long bits = 0;
            for (int t = 0; t <= 60; t++) {
                bits |= same(b, s, w.heat, d, t) ? 1L << t : 0;
            }
            return bits;
        }

        int heats(int b, int s, int d, int t) {
            int y = backWhy(b, s);
            if (y != 0) {
                return no(y) - 10;
            }
            if (!dsc(d, t, 0)) {
                return no(6) - 10;
            }
            for (int heat = 0; heat < 100; heat++) {
                if (same(b, s, heat, d, t)) {
                    return heat;
                }
            }
            return -1;
        }

        int fetch(int cells, int s) {
            if (!in(cells, 1, 12) || !in(s, 0, 60)) {
                return no(6);
            }
            int bits = 0;
            for (int b = 0; b < w.all.size(); b++) {
                if (w.all.get(b).wets.size() >= cells && dunk(b, cells, s, 0).gone == 0) {
                    bits += 1 << b;
                }
            }
            return bits;
        }

        int truthWhy(int b, int d, int s, int c) {
            return !w.has(b) ? 1 : !dsc(d, s, c) || w.all.get(b).wets.isEmpty() ? 6 : 0;
        }

        int dip(int b, int d, int s) {
            int y = truthWhy(b, d, s, 0);
            return y != 0 ? no(y) : w.dip(b, d, s);
        }

        int carry(int b, int c) {
            int y = truthWhy(b, 0, 0, c);
            return y != 0 ? no(y) : w.carry(b, c);
        }

        int turn(int b) {
            if (!w.has(b)) {
                return no(1);
            }
            Collections.reverse(w.all.get(b).wets);
            return w.all.get(b).wets.size();
        }

        int eats(int b) {
            int y = truthWhy(b, 0, 0, 0);
            return y != 0 ? no(y) : w.eat(b);
        }

        int teas(int n) {
            if (w.all.isEmpty()) {
                return no(5);
            }
            if (!in(n, 1, 20)) {
                return no(6);
            }
            int sum = 0;
            for (int i = 0; i < n; i++) {
                int b = w.draw(w.all.size());
                int cells = w.all.get(b).wets.size();
                if (cells > 0) {
                    int d = w.draw(cells + 1);
                    int s = w.draw(10);
                    w.dip(b, d, s);
                    w.carry(b, w.draw(6));
                    sum += w.eat(b);
                }
            }
            return sum;
        }

        int seed(int v) {
            int was = w.seed;
            w.seed = v;
            return was;
        }

        // ---- acts, in Java's own classes

        class Plain {
            int m;
            int k;

            int ran(int body) {
                trace.add(body);
                return 0;
            }

            int soaks(int x) {
                ran(10);
                return x + m;
            }

            int creeps(int x) {
                ran(11);
                return soaks(x) * 2;
            }

            int breaks(int x) {
                ran(12);
                return creeps(x) ^ soaks(x - k);
            }
        }

        class Coat extends Plain {
            int soaks(int x) {
                ran(20);
                return super.soaks(x) + k;
            }
        }

        class Hole extends Plain {
            int creeps(int x) {
                ran(30);
                return super.creeps(x) * 3;
            }
        }

        class Sugar extends Coat {
            int creeps(int x) {
                ran(40);
                return super.creeps(x + 1);
            }
        }

        class Rusk extends Plain {
            int breaks(int x) {
                ran(50);
                return -super.breaks(x);
            }

            int soaks(int x) {
                ran(51);
                return super.soaks(x) - m;
            }
        }

        class Pair extends Hole {
            int breaks(int x) {
                ran(60);
                return super.breaks(x) ^ 5;
            }
        }

        class Stale extends Rusk {
            int soaks(int x) {
                ran(70);
                return super.soaks(x) * 2;
            }

            int creeps(int x) {
                ran(71);
                return super.creeps(x - k);
            }
        }

        int act(int b, int act, int x) {
            trace.clear();
            if (!w.has(b) || !in(act, 0, 2)) {
                return 0;
            }
            Plain[] kinds = {new Plain(), new Coat(), new Hole(), new Sugar(), new Rusk(), new Pair(), new Stale()};
            Plain p = kinds[w.all.get(b).kind];
            p.m = b;
            p.k = w.all.get(b).a;
            return act == 0 ? p.soaks(x) : act == 1 ? p.creeps(x) : p.breaks(x);
        }

        int trace(int i) {
            return i >= 0 && i < 20 && i < trace.size() ? trace.get(i) : -1;
        }

        int image() {
            image = w.copy();
            return w.all.size();
        }

        int restore() {
            if (image == null) {
                return no(6);
            }
            w = image.copy();
            for (int s = 0; s < 8; s++) {
                if (shelves[s] instanceof Integer && (Integer) shelves[s] >= w.all.size()) {
                    shelves[s] = null;
                }
            }
            return w.all.size();
        }

        int fault() {
            return latestFault;
        }

        int status(int what) {
            int cells = 0;
            for (Bis b : w.all) {
                cells += b.wets.size();
            }
            int[] told = {w.all.size(), cells, w.heat, w.loss, w.tea, w.sludge, w.pleasure, w.seconds, w.seed, trace.size()};
            if (what >= 0 && what < 10) {
                return told[what];
            }
            return what >= 11 && what <= 17 ? refused[what - 10] : -1;
        }
    }

    // ---- random calls

    static final class Run {
        final int run;
        final Random r;
        final Model m = new Model();
        final DunkedBiscuits x = new DunkedBiscuits();
        final List<String> said = new ArrayList<>();

        Run(int run) {
            this.run = run;
            r = new Random(run);
        }

        void due(String call, long got, long want) {
            said.add(call + " " + got);
            if (got != want) {
                wrong++;
                System.out.println("run " + run + ": " + call + " answered " + got + ", due is " + want
                    + " behind " + said.subList(Math.max(0, said.size() - 12), said.size()));
            }
        }

        /** Mostly from least to most, now and then just or far beyond. */
        int pick(int least, int most) {
            int c = r.nextInt(100);
            if (c == 0) {
                return Integer.MIN_VALUE;
            }
            if (c == 1) {
                return Integer.MAX_VALUE;
            }
            if (c == 2) {
                return least - 1;
            }
            if (c == 3) {
                return most + 1;
            }
            if (c == 4) {
                return r.nextInt();
            }
            if (c < 10) {
                return most;
            }
            return least + r.nextInt(Math.max(1, most - least + 1));
        }

        int b() {
            return pick(0, Math.max(0, m.w.all.size() - 1));
        }

        int s() {
            return pick(0, 7);
        }

        int d() {
            return pick(0, 12);
        }

        int t() {
            return r.nextInt(3) == 0 ? pick(0, 60) : pick(0, 12);
        }

        void go() {
            int wanted = r.nextInt(7);
            for (int i = 0; i < wanted; i++) {
                biscuit();
            }
            for (int i = 0; i < 10; i++) {
                int v = r.nextInt(100);
                due("worthOf " + i + " " + v, x.worthOf(i, v), m.worthOf(i, v));
            }
            while (said.size() < CALLS && wrong == 0) {
                one();
                int what = r.nextInt(20) - 1;
                due("status " + what, x.status(what), m.status(what));
            }
            looks();
            if (said.size() > PROMISED_CALLS) {
                wrong++;
                System.out.println("run " + run + " has " + said.size() + " calls");
            }
        }

        /** Five biscuits of few cells and a cup that loses fast: the order tells. */
        void plate() {
            for (int b = 0; b < 5; b++) {
                int kind = r.nextInt(7);
                int cells = 1 + r.nextInt(3);
                int a = r.nextInt(10);
                due("biscuit", x.biscuit(kind, cells, a), m.biscuit(kind, cells, a));
            }
            for (int w = 0; w < 10; w++) {
                int v = r.nextInt(100);
                due("worthOf", x.worthOf(w, v), m.worthOf(w, v));
            }
            int loss = 1 + r.nextInt(4);
            due("ask", x.ask(0, 99), m.ask(0, 99));
            due("ask", x.ask(1, loss), m.ask(1, loss));
            int d = 1 + r.nextInt(3);
            int s = 1 + r.nextInt(9);
            int c = r.nextInt(20);
            for (int i = -1; i < 6; i++) {
                due("plate " + d + " " + s + " " + c + " " + i, x.plate(d, s, c, i), m.plate(d, s, c, i));
            }
        }

        void looks() {
            for (int look = 0; look < LOOKS; look++) {
                int b = r.nextInt(7);
                int what = r.nextInt(23);
                int s = r.nextInt(10) - 1;
                int i = r.nextInt(4) == 0 ? r.nextInt(162) - 1 : r.nextInt(14) - 1;
                switch (r.nextInt(4)) {
                    case 0:
                        due("biscuitOf " + b + " " + what, x.biscuitOf(b, what), m.biscuitOf(b, what));
                        break;
                    case 1:
                        due("holds " + s, x.holds(s), m.holds(s));
                        break;
                    case 2:
                        due("element " + s + " " + i, x.element(s, i), m.element(s, i));
                        break;
                    default:
                        due("status " + (what - 2), x.status(what - 2), m.status(what - 2));
                        break;
                }
            }
        }

        void biscuit() {
            int k = pick(0, 6);
            int c = pick(1, 12);
            int a = pick(0, 9);
            due("biscuit " + k + " " + c + " " + a, x.biscuit(k, c, a), m.biscuit(k, c, a));
        }

        void one() {
            int a = b();
            int d = d();
            int s = t();
            int c = t();
            int e = d();
            int t = t();
            int sh = s();
            int i = pick(-1, 12);
            switch (r.nextInt(44)) {
                case 0:
                    int sort = pick(0, 3);
                    int n = r.nextBoolean() ? pick(0, 160) : pick(0, 14);
                    due("row " + sh + " " + sort + " " + n, x.row(sh, sort, n), m.row(sh, sort, n));
                    break;
                case 1:
                    long v = r.nextBoolean() ? r.nextLong() : r.nextInt(100);
                    due("set " + sh + " " + i + " " + v, x.set(sh, i, v), m.set(sh, i, v));
                    break;
                case 2:
                    int q = r.nextInt(3) == 0 ? sh : s();
                    int j = pick(-1, 12);
                    int many = pick(-1, 8);
                    due("copy " + sh + " " + q + " " + i + " " + j + " " + many,
                        x.copy(sh, q, i, j, many), m.copy(sh, q, i, j, many));
                    break;
                case 3:
                    due("element " + sh + " " + i, x.element(sh, i), m.element(sh, i));
                    break;
                case 4:
                    int shown = r.nextInt(4) == 0 ? -1 : a;
                    due("show " + sh + " " + shown, x.show(sh, shown), m.show(sh, shown));
                    break;
                case 5:
                    due("holds " + sh, x.holds(sh), m.holds(sh));
                    break;
                case 6:
                case 7:
                    int kind = pick(0, 6);
                    due("says " + sh + " " + kind, x.says(sh, kind), m.says(sh, kind));
                    break;
                case 8:
                    biscuit();
                    break;
                case 9:
                    int what = pick(0, 22);
                    due("biscuitOf " + a + " " + what, x.biscuitOf(a, what), m.biscuitOf(a, what));
                    break;
                case 10:
                    int wet = pick(0, 99);
                    int cell = pick(0, 11);
                    due("wet " + a + " " + cell + " " + wet, x.wet(a, cell, wet), m.wet(a, cell, wet));
                    break;
                case 11:
                    int asked = pick(0, 2);
                    int to = asked == 1 ? pick(1, 40) : asked == 0 ? pick(0, 99) : pick(0, 9999);
                    due("ask " + asked + " " + to, x.ask(asked, to), m.ask(asked, to));
                    break;
                case 12:
                    int ww = pick(0, 9);
                    int wv = pick(0, 99);
                    due("worthOf " + ww + " " + wv, x.worthOf(ww, wv), m.worthOf(ww, wv));
                    break;
                case 13:
                case 14:
                case 15:
                    text();
                    break;
                case 16:
                    due("fault", x.fault(), m.fault());
                    break;
                case 17:
                    int at = pick(0, 11);
                    due("soak " + a + " " + at, x.soak(a, at), m.soak(a, at));
                    break;
                case 18:
                    int cc = pick(0, 11);
                    int cw = pick(0, 1);
                    due("cellOf " + a + " " + cc + " " + cw, x.cellOf(a, cc, cw), m.cellOf(a, cc, cw));
                    break;
                case 19:
                    due("breaks " + a, x.breaks(a), m.breaks(a));
                    break;
                case 20:
                    due("left " + a + " " + d + " " + s + " " + c, x.left(a, d, s, c), m.left(a, d, s, c));
                    break;
                case 21:
                    due("wetness " + a + " " + d + " " + s + " " + c + " " + i,
                        x.wetness(a, d, s, c, i), m.wetness(a, d, s, c, i));
                    break;
                case 22:
                    due("when " + a + " " + d + " " + s + " " + c, x.when(a, d, s, c), m.when(a, d, s, c));
                    break;
                case 23:
                    due("longest " + a + " " + d + " " + c, x.longest(a, d, c), m.longest(a, d, c));
                    break;
                case 24:
                    due("far " + a + " " + d + " " + s, x.far(a, d, s), m.far(a, d, s));
                    break;
                case 25:
                    due("worth " + a + " " + d + " " + s + " " + c, x.worth(a, d, s, c), m.worth(a, d, s, c));
                    break;
                case 26:
                    if (r.nextInt(4) == 0) {
                        int tu = pick(0, 1);
                        due("best " + a + " " + c + " " + tu, x.best(a, c, tu), m.best(a, c, tu));
                    }
                    break;
                case 27:
                    due("twice " + a + " " + d + " " + s + " " + e + " " + t, x.twice(a, d, s, e, t), m.twice(a, d, s, e, t));
                    break;
                case 28:
                    due("goes " + a + " " + d + " " + s, x.goes(a, d, s), m.goes(a, d, s));
                    break;
                case 29:
                    if (r.nextInt(4) == 0) {
                        int pi = pick(-1, 5);
                        due("plate " + d + " " + s + " " + c + " " + pi, x.plate(d, s, c, pi), m.plate(d, s, c, pi));
                    }
                    break;
                case 30:
                    int u = pick(0, 99);
                    int by = pick(1, 99);
                    due("rule " + u + " " + by + " " + d + " " + c, x.rule(u, by, d, c), m.rule(u, by, d, c));
                    break;
                case 31:
                case 32:
                    if (r.nextInt(3) > 0) {
                        likely(a, d, t);
                    }
                    due("back " + a + " " + sh + " " + d, x.back(a, sh, d), m.back(a, sh, d));
                    due("back " + a + " 7 " + d, x.back(a, 7, d), m.back(a, 7, d));
                    break;
                case 33:
                case 34:
                    if (r.nextInt(3) > 0) {
                        likely(a, d, t);
                    }
                    due("heats " + a + " 7 " + d + " " + t, x.heats(a, 7, d, t), m.heats(a, 7, d, t));
                    break;
                case 35:
                    int cells = pick(1, 12);
                    due("fetch " + cells + " " + s, x.fetch(cells, s), m.fetch(cells, s));
                    break;
                case 36:
                    due("dip " + a + " " + d + " " + s, x.dip(a, d, s), m.dip(a, d, s));
                    break;
                case 37:
                    due("carry " + a + " " + c, x.carry(a, c), m.carry(a, c));
                    break;
                case 38:
                    due("turn " + a, x.turn(a), m.turn(a));
                    break;
                case 39:
                    if (r.nextInt(5) == 0) {
                        due("eats " + a, x.eats(a), m.eats(a));
                    }
                    break;
                case 40:
                    if (r.nextInt(5) == 0) {
                        int teas = pick(1, 20);
                        due("teas " + teas, x.teas(teas), m.teas(teas));
                    }
                    break;
                case 41:
                    if (r.nextBoolean()) {
                        int seed = r.nextInt();
                        due("seed " + seed, x.seed(seed), m.seed(seed));
                    } else if (r.nextInt(3) == 0) {
                        due("image", x.image(), m.image());
                    } else {
                        due("restore", x.restore(), m.restore());
                    }
                    break;
                default:
                    int act = pick(0, 2);
                    int xx = r.nextInt();
                    due("act " + a + " " + act + " " + xx, x.act(a, act, xx), m.act(a, act, xx));
                    for (int k = -1; k < 22; k++) {
                        due("trace " + k, x.trace(k), m.trace(k));
                    }
                    break;
            }
        }

        /** Puts into shelf 7 a row that a dip may well have left. */
        void likely(int b, int d, int t) {
            if (!m.w.has(b) || !Model.in(d, 0, 12) || !Model.in(t, 0, 60)) {
                return;
            }
            Bis dry = m.w.all.get(b).copy();
            Collections.fill(dry.wets, 0);
            int heat = r.nextBoolean() ? m.w.heat : r.nextInt(100);
            List<Integer> wets = through(dry, heat, new int[] {d, t}).wets;
            int n = dry.wets.size();
            int sort = r.nextInt(4);
            due("row 7", x.row(7, sort, n), m.row(7, sort, n));
            for (int i = 0; i < wets.size(); i++) {
                long v = wets.get(i);
                if (sort == 3 && r.nextBoolean()) {
                    v |= (long) r.nextInt() << 32;
                }
                due("set 7 " + i + " " + v, x.set(7, i, v), m.set(7, i, v));
            }
        }

        void text() {
            StringBuilder text = new StringBuilder();
            int items = r.nextInt(8);
            for (int i = 0; i <= items; i++) {
                text.append(i == 0 ? "" : ";").append(item());
            }
            if (r.nextInt(2) == 0 && text.length() > 0) {
                spoil(text);
            }
            int n = Math.min(160, text.length());
            int sort = r.nextInt(4);
            int s = r.nextInt(8);
            due("row " + s, x.row(s, sort, n), m.row(s, sort, n));
            for (int i = 0; i < n; i++) {
                long v = text.charAt(i);
                if (sort == 3 && r.nextInt(10) == 0) {
                    v |= (long) r.nextInt() << 32;
                }
                due("set " + s + " " + i, x.set(s, i, v), m.set(s, i, v));
            }
            due("table '" + text + "'", x.table(s), m.table(s));
            due("fault '" + text + "'", x.fault(), m.fault());
        }

        void spoil(StringBuilder text) {
            int at = r.nextInt(text.length());
            String signs = " ;0123456789abdehilnopqrstuwx\u00ff";
            char sign = signs.charAt(r.nextInt(signs.length()));
            switch (r.nextInt(4)) {
                case 0:
                    text.setCharAt(at, sign);
                    break;
                case 1:
                    text.insert(at, sign);
                    break;
                case 2:
                    text.deleteCharAt(at);
                    break;
                default:
                    text.setLength(at);
                    break;
            }
        }

        String number(int least, int most) {
            int n = r.nextInt(60) == 0 ? most + 1 + r.nextInt(20) : least + r.nextInt(Math.max(1, most - least + 1));
            String digits = Integer.toString(Math.max(0, Math.min(9999, n)));
            while (digits.length() < 4 && r.nextInt(8) == 0) {
                digits = "0" + digits;
            }
            return r.nextInt(80) == 0 ? digits + r.nextInt(10) : digits;
        }

        String item() {
            int b = m.w.all.isEmpty() ? 0 : r.nextInt(m.w.all.size());
            int cells = m.w.has(b) ? m.w.all.get(b).wets.size() : 1;
            switch (r.nextInt(7)) {
                case 0:
                    return r.nextInt(4) > 0 ? "heat " + number(0, 99)
                        : "biscuit " + number(0, 6) + " " + number(1, 12) + " " + number(0, 9);
                case 1:
                    return "wet " + number(b, b) + " " + number(0, cells - 1) + " " + number(0, 99);
                case 2:
                    return "heat " + number(0, 99);
                case 3:
                    return "loss " + number(1, 99);
                case 4:
                    return "tea " + number(0, 9999);
                case 5:
                    return "worth " + number(0, 9) + " " + number(0, 99);
                default:
                    return "dip " + number(b, b) + " " + number(0, 12) + " " + number(0, 60);
            }
        }
    }
}
