import java.util.ArrayList;
import java.util.List;

/**
 * REFUSALS: each call with each refusal that it may answer, and with each two that could be due at once; behind
 * each of them one count is one more and nothing else has changed. Then calls that refuse nothing.
 */
public final class RefusalsTest {
    private static final int LEAST = Integer.MIN_VALUE;
    private static final int MOST = Integer.MAX_VALUE;
    /** What of an object is looked at; so few that it can be looked at twice within 512 calls. */
    private static final int LOOKED_AT_ELEMENTS = 6;

    private static int wrong = 0;
    private static int looked = 0;

    interface Setup {
        DunkedBiscuits make();
    }

    interface Call {
        long on(DunkedBiscuits x);
    }

    public static void main(String[] args) {
        row();
        set();
        copyShelves();
        copySizes();
        show();
        says();
        biscuit();
        biscuitOf();
        wet();
        askAndWorthOf();
        table();
        soakCellOfBreaks();
        dunks();
        wetness();
        longestAndFar();
        best();
        twice();
        goes();
        plate();
        rule();
        back();
        heats();
        fetch();
        inTruth();
        teas();
        restore();
        refuseNothing();
        changeNothing();
        if (looked < 300) {
            wrong++;
            System.out.println("calls looked at: " + looked);
        }
        System.out.println(wrong == 0 ? "refusals: as due" : "refusals: " + wrong + " not as due");
        if (wrong != 0) {
            System.exit(1);
        }
    }

    private static void due(String what, long got, long want) {
        if (got != want) {
            wrong++;
            System.out.println(what + " is " + got + ", due is " + want);
        }
    }

    // ---- objects to be refused by

    /**
     * Four BISCUITS: 0 of 4 CELLS, 1 a SUGAR of 3, 2 a PAIR of 5, 3 a STALE without CELLS. SHELVES: 0 ints, 1 longs,
     * 2 BISCUIT 0, 3 BISCUIT 1, 4 NOTHING, 5 a text with a FAULT, 6 ints of one element, 7 ints without any.
     */
    private static DunkedBiscuits some() {
        DunkedBiscuits x = new DunkedBiscuits();
        x.biscuit(0, 4, 1);
        x.biscuit(3, 3, 2);
        x.image();
        x.biscuit(5, 5, 3);
        x.biscuit(6, 2, 4);
        for (int w = 0; w < 10; w++) {
            x.worthOf(w, 3 * w + 1);
        }
        x.eats(3);
        x.dip(0, 2, 3);
        x.carry(2, 20);
        x.row(0, 2, 5);
        x.row(1, 3, 5);
        for (int i = 0; i < 5; i++) {
            x.set(0, i, 7 * i - 9);
            x.set(1, i, 5L * i << 30);
        }
        x.show(2, 0);
        x.show(3, 1);
        x.row(5, 0, 3);
        x.set(5, 0, 't');
        x.set(5, 1, 'e');
        x.row(6, 2, 1);
        x.row(7, 2, 0);
        x.table(5);
        x.act(1, 2, 5);
        return x;
    }

    private static DunkedBiscuits crowded() {
        DunkedBiscuits x = some();
        x.biscuit(1, 1, 0);
        x.biscuit(2, 1, 0);
        return x;
    }

    private static DunkedBiscuits bare() {
        return new DunkedBiscuits();
    }

    // ---- what is looked at

    private static void look(DunkedBiscuits x, List<Long> all) {
        for (int what = 0; what < 10; what++) {
            all.add((long) x.status(what));
        }
        all.add((long) x.fault());
        for (int i = 0; i < 11; i++) {
            all.add((long) x.trace(i));
        }
        for (int s = 0; s < 8; s++) {
            all.add((long) x.holds(s));
            for (int i = 0; i < LOOKED_AT_ELEMENTS; i++) {
                all.add(x.element(s, i));
            }
        }
        for (int b = 0; b < x.status(0); b++) {
            int cells = x.biscuitOf(b, 1);
            all.add((long) cells);
            all.add((long) x.biscuitOf(b, 0));
            all.add((long) x.biscuitOf(b, 2));
            for (int cell = 0; cell < cells; cell++) {
                all.add((long) x.biscuitOf(b, 10 + cell));
            }
        }
        for (int w = 0; w < 10; w++) {
            int worth = x.worthOf(w, 0);
            all.add((long) worth);
            x.worthOf(w, worth);
        }
    }

    /** All as it is, and, if there is an image, all as the image has it. */
    private static List<Long> seen(DunkedBiscuits x, boolean imaged) {
        List<Long> all = new ArrayList<>();
        look(x, all);
        if (imaged) {
            all.add((long) x.restore());
            look(x, all);
        }
        return all;
    }

    private static void sameAsWithout(String name, Setup setup, DunkedBiscuits x) {
        DunkedBiscuits y = setup.make();
        boolean imaged = y.status(0) > 0;
        List<Long> got = seen(x, imaged);
        List<Long> want = seen(y, imaged);
        if (!got.equals(want)) {
            wrong++;
            System.out.println(name + " has changed something: " + got + ", due is " + want);
        }
    }

    private static void counts(DunkedBiscuits x, int[] counts) {
        for (int k = 1; k <= 7; k++) {
            counts[k] = x.status(10 + k);
        }
    }

    /** A call is refused with that answer; a -1, -11 or -1001 counts as -1, and so on. */
    private static void no(String name, Setup setup, Call call, long answer) {
        looked++;
        DunkedBiscuits x = setup.make();
        int[] ahead = new int[8];
        int[] behind = new int[8];
        counts(x, ahead);
        due(name, call.on(x), answer);
        counts(x, behind);
        int counted = (int) (-answer % 10);
        for (int k = 1; k <= 7; k++) {
            due("behind " + name + " status(" + (10 + k) + ")", behind[k], ahead[k] + (k == counted ? 1 : 0));
        }
        sameAsWithout(name, setup, x);
    }

    private static void no(String name, Call call, long answer) {
        no(name, RefusalsTest::some, call, answer);
    }

    private static void noneRefused(String name, Setup setup, Call call) {
        looked++;
        DunkedBiscuits x = setup.make();
        int[] ahead = new int[8];
        int[] behind = new int[8];
        counts(x, ahead);
        call.on(x);
        counts(x, behind);
        for (int k = 1; k <= 7; k++) {
            due("behind " + name + " status(" + (10 + k) + ")", behind[k], ahead[k]);
        }
        sameAsWithout(name, setup, x);
    }

    // ---- shelves

    private static void row() {
        for (int s : new int[] {-1, 8, LEAST, MOST}) {
            no("row: SHELF " + s, x -> x.row(s, 0, 1), -1);
        }
        for (int n : new int[] {-1, LEAST}) {
            no("row: n " + n, x -> x.row(0, 0, n), -4);
        }
        for (int sort : new int[] {-1, 4, LEAST, MOST}) {
            no("row: SORT " + sort, x -> x.row(0, sort, 1), -6);
        }
        for (int n : new int[] {161, MOST}) {
            no("row: n " + n, x -> x.row(0, 0, n), -7);
        }
        no("row: -1 ahead of -4", x -> x.row(8, 0, -1), -1);
        no("row: -1 ahead of -6", x -> x.row(8, 4, 0), -1);
        no("row: -1 ahead of -7", x -> x.row(8, 0, 161), -1);
        no("row: -4 ahead of -6", x -> x.row(2, 4, -1), -4);
        no("row: -6 ahead of -7", x -> x.row(2, 4, 161), -6);
    }

    private static void set() {
        for (int s : new int[] {-1, 8, LEAST, MOST}) {
            no("set: SHELF " + s, x -> x.set(s, 0, 1), -1);
        }
        no("set: a BISCUIT", x -> x.set(2, 0, 1), -2);
        no("set: NOTHING", x -> x.set(4, 0, 1), -3);
        for (int i : new int[] {-1, 5, 160, LEAST, MOST}) {
            no("set: element " + i, x -> x.set(0, i, 1), -5);
        }
        no("set: no elements", x -> x.set(7, 0, 1), -5);
        no("set: -1 ahead of -5", x -> x.set(8, -1, 1), -1);
        no("set: -2 ahead of -5", x -> x.set(2, -1, 1), -2);
        no("set: -3 ahead of -5", x -> x.set(4, -1, 1), -3);
    }

    private static void copyShelves() {
        for (int s : new int[] {-1, 8, LEAST, MOST}) {
            no("copy: from SHELF " + s, x -> x.copy(s, 0, 0, 0, 1), -1);
            no("copy: to SHELF " + s, x -> x.copy(0, s, 0, 0, 1), -1);
        }
        no("copy: from a BISCUIT", x -> x.copy(2, 0, 0, 0, 1), -2);
        no("copy: to a BISCUIT", x -> x.copy(0, 2, 0, 0, 1), -2);
        no("copy: a BISCUIT to itself", x -> x.copy(2, 2, 0, 0, 0), -2);
        no("copy: two SORTS", x -> x.copy(0, 1, 0, 0, 1), -2);
        no("copy: two SORTS, none of them", x -> x.copy(1, 0, 0, 0, 0), -2);
        no("copy: from NOTHING", x -> x.copy(4, 0, 0, 0, 1), -3);
        no("copy: to NOTHING", x -> x.copy(0, 4, 0, 0, 1), -3);
        no("copy: NOTHING to itself", x -> x.copy(4, 4, 0, 0, 0), -3);
        no("copy: NOTHING to longs is no matter of SORTS", x -> x.copy(4, 1, 0, 0, 1), -3);
        no("copy: -1 from, ahead of -2 to", x -> x.copy(8, 2, 0, 0, 1), -1);
        no("copy: -1 to, ahead of -2 from", x -> x.copy(2, 8, 0, 0, 1), -1);
        no("copy: -1 from, ahead of -3 to", x -> x.copy(8, 4, 0, 0, 1), -1);
        no("copy: -1 to, ahead of -3 from", x -> x.copy(4, 8, 0, 0, 1), -1);
        no("copy: -1 ahead of -4", x -> x.copy(0, 8, 0, 0, -1), -1);
        no("copy: -1 ahead of -5", x -> x.copy(8, 0, -1, -1, 1), -1);
        no("copy: -2 from, ahead of -3 to", x -> x.copy(2, 4, 0, 0, 1), -2);
        no("copy: -2 to, ahead of -3 from", x -> x.copy(4, 2, 0, 0, 1), -2);
    }

    private static void copySizes() {
        for (int n : new int[] {-1, LEAST}) {
            no("copy: n " + n, x -> x.copy(0, 0, 0, 0, n), -4);
        }
        for (int i : new int[] {-1, LEAST}) {
            no("copy: i " + i, x -> x.copy(0, 0, i, 0, 0), -5);
            no("copy: j " + i, x -> x.copy(0, 0, 0, i, 0), -5);
        }
        no("copy: the end behind the first ROW", x -> x.copy(0, 6, 5, 0, 1), -5);
        no("copy: the end behind the second ROW", x -> x.copy(0, 6, 0, 0, 2), -5);
        no("copy: none, from behind the end", x -> x.copy(0, 6, 6, 0, 0), -5);
        no("copy: none, to behind the end", x -> x.copy(0, 6, 0, 2, 0), -5);
        no("copy: one of a ROW without elements", x -> x.copy(7, 0, 0, 0, 1), -5);
        no("copy: one to a ROW without elements", x -> x.copy(0, 7, 0, 0, 1), -5);
        no("copy: an end that wraps around", x -> x.copy(0, 0, 1, 0, MOST), -5);
        no("copy: an end that wraps around", x -> x.copy(0, 0, 0, 1, MOST), -5);
        no("copy: an end that wraps around", x -> x.copy(0, 0, MOST, 0, MOST), -5);
        no("copy: an end that wraps around", x -> x.copy(0, 0, MOST, MOST, 2), -5);
        no("copy: -2 BISCUIT ahead of -4", x -> x.copy(0, 2, 0, 0, -1), -2);
        no("copy: -2 BISCUIT ahead of -5", x -> x.copy(2, 0, -1, 0, 1), -2);
        no("copy: -2 SORTS ahead of -4", x -> x.copy(0, 1, 0, 0, -1), -2);
        no("copy: -2 SORTS ahead of -5", x -> x.copy(0, 1, -1, 9, 1), -2);
        no("copy: -3 ahead of -4", x -> x.copy(0, 4, 0, 0, -1), -3);
        no("copy: -3 ahead of -5", x -> x.copy(4, 0, -1, 9, 1), -3);
        no("copy: -4 ahead of -5 i", x -> x.copy(0, 0, -1, 0, -1), -4);
        no("copy: -4 ahead of -5 j", x -> x.copy(0, 0, 0, 9, -1), -4);
    }

    private static void show() {
        for (int s : new int[] {-1, 8, LEAST, MOST}) {
            no("show: SHELF " + s, x -> x.show(s, 0), -1);
            no("show: NOTHING in SHELF " + s, x -> x.show(s, -1), -1);
        }
        for (int b : new int[] {4, -2, 6, LEAST, MOST}) {
            no("show: BISCUIT " + b, x -> x.show(0, b), -1);
        }
        no("show: no BISCUITS", RefusalsTest::bare, x -> x.show(0, 0), -1);
        no("show: neither is", x -> x.show(8, 4), -1);
    }

    private static void says() {
        for (int s : new int[] {-1, 8, LEAST, MOST}) {
            no("says: SHELF " + s, x -> x.says(s, 0), -1);
        }
        for (int kind : new int[] {-1, 7, LEAST, MOST}) {
            no("says: KIND " + kind, x -> x.says(2, kind), -1);
            no("says: -1 KIND ahead of -2", x -> x.says(0, kind), -1);
            no("says: -1 KIND ahead of -3", x -> x.says(4, kind), -1);
        }
        no("says: a ROW", x -> x.says(0, 0), -2);
        no("says: a ROW without elements", x -> x.says(7, 6), -2);
        no("says: NOTHING", x -> x.says(4, 0), -3);
        for (int kind = 1; kind < 7; kind++) {
            int of = kind;
            no("says: a BISCUIT is no " + kind, x -> x.says(2, of), -2);
            if (kind != 1 && kind != 3) {
                no("says: a SUGAR is no " + kind, x -> x.says(3, of), -2);
            }
        }
    }

    // ---- the table

    private static void biscuit() {
        for (int kind : new int[] {-1, 7, LEAST, MOST}) {
            no("biscuit: KIND " + kind, x -> x.biscuit(kind, 1, 0), -1);
        }
        for (int cells : new int[] {0, 13, -1, LEAST, MOST}) {
            no("biscuit: CELLS " + cells, x -> x.biscuit(0, cells, 0), -6);
        }
        for (int a : new int[] {-1, 10, LEAST, MOST}) {
            no("biscuit: a " + a, x -> x.biscuit(0, 1, a), -6);
        }
        no("biscuit: a seventh", RefusalsTest::crowded, x -> x.biscuit(0, 1, 0), -7);
        no("biscuit: -1 ahead of -6", x -> x.biscuit(7, 0, 10), -1);
        no("biscuit: -1 ahead of -7", RefusalsTest::crowded, x -> x.biscuit(7, 1, 0), -1);
        no("biscuit: -6 CELLS ahead of -7", RefusalsTest::crowded, x -> x.biscuit(0, 0, 0), -6);
        no("biscuit: -6 a ahead of -7", RefusalsTest::crowded, x -> x.biscuit(0, 1, 10), -6);
    }

    private static void biscuitOf() {
        for (int b : new int[] {4, -1, 6, LEAST, MOST}) {
            no("biscuitOf: BISCUIT " + b, x -> x.biscuitOf(b, 0), -5);
        }
        for (int what : new int[] {-1, 4, 9, 14, LEAST, MOST}) {
            no("biscuitOf: " + what, x -> x.biscuitOf(0, what), -5);
        }
        no("biscuitOf: no CELL 0 without CELLS", x -> x.biscuitOf(3, 10), -5);
        no("biscuitOf: neither is", x -> x.biscuitOf(4, 4), -5);
    }

    private static void wet() {
        for (int b : new int[] {4, -1, LEAST, MOST}) {
            no("wet: BISCUIT " + b, x -> x.wet(b, 0, 1), -1);
        }
        for (int cell : new int[] {-1, 4, LEAST, MOST}) {
            no("wet: CELL " + cell, x -> x.wet(0, cell, 1), -1);
        }
        no("wet: no CELL 0 without CELLS", x -> x.wet(3, 0, 1), -1);
        for (int v : new int[] {-1, 100, LEAST, MOST}) {
            no("wet: v " + v, x -> x.wet(0, 0, v), -6);
            no("wet: -1 BISCUIT ahead of -6", x -> x.wet(4, 0, v), -1);
            no("wet: -1 CELL ahead of -6", x -> x.wet(0, 4, v), -1);
        }
    }

    private static void askAndWorthOf() {
        for (int v : new int[] {-1, 100, LEAST, MOST}) {
            no("ask: HEAT " + v, x -> x.ask(0, v), -6);
            no("ask: LOSS " + v, x -> x.ask(1, v), -6);
            no("worthOf: v " + v, x -> x.worthOf(0, v), -6);
        }
        no("ask: LOSS 0", x -> x.ask(1, 0), -6);
        for (int v : new int[] {-1, 10000, LEAST, MOST}) {
            no("ask: TEA " + v, x -> x.ask(2, v), -6);
        }
        for (int what : new int[] {-1, 3, LEAST, MOST}) {
            no("ask: what " + what, x -> x.ask(what, 1), -6);
        }
        for (int w : new int[] {-1, 10, LEAST, MOST}) {
            no("worthOf: w " + w, x -> x.worthOf(w, 1), -6);
        }
    }

    private static void table() {
        for (int s : new int[] {-1, 8, LEAST, MOST}) {
            no("table: SHELF " + s, x -> x.table(s), -1);
        }
        no("table: a BISCUIT", x -> x.table(2), -2);
        no("table: NOTHING", x -> x.table(4), -3);
        // the FAULT is that of the table() in some(), as the ROW is
        no("table: a FAULT", x -> x.table(5), -6);
    }

    // ---- a biscuit as it is

    private static void soakCellOfBreaks() {
        for (int b : new int[] {4, -1, LEAST, MOST}) {
            no("soak: BISCUIT " + b, x -> x.soak(b, 0), -1);
            no("cellOf: BISCUIT " + b, x -> x.cellOf(b, 0, 0), -1001);
            no("cellOf: -1001 BISCUIT ahead of -1005", x -> x.cellOf(b, 0, 2), -1001);
            no("breaks: BISCUIT " + b, x -> x.breaks(b), -11);
        }
        for (int cell : new int[] {-1, 4, LEAST, MOST}) {
            no("soak: CELL " + cell, x -> x.soak(0, cell), -1);
            no("cellOf: CELL " + cell, x -> x.cellOf(0, cell, 1), -1001);
            no("cellOf: -1001 CELL ahead of -1005", x -> x.cellOf(0, cell, -1), -1001);
        }
        no("soak: no CELL 0 without CELLS", x -> x.soak(3, 0), -1);
        no("cellOf: no CELL 0 without CELLS", x -> x.cellOf(3, 0, 0), -1001);
        for (int what : new int[] {-1, 2, LEAST, MOST}) {
            no("cellOf: what " + what, x -> x.cellOf(0, 0, what), -1005);
        }
    }

    // ---- what would come of dips

    /** Just and far outside of what D, S and c may be, one at a time. */
    private static final int[][] NO_DUNKS = {{-1, 0, 0}, {13, 0, 0}, {LEAST, 0, 0}, {MOST, 0, 0},
        {0, -1, 0}, {0, 61, 0}, {0, LEAST, 0}, {0, MOST, 0}, {0, 0, -1}, {0, 0, 61}, {0, 0, LEAST}, {0, 0, MOST}};

    private static String told(int... dsc) {
        StringBuilder told = new StringBuilder();
        for (int v : dsc) {
            told.append(' ').append(v);
        }
        return told.toString();
    }

    private static void dunks() {
        for (int b : new int[] {4, -1, LEAST, MOST}) {
            no("left: BISCUIT " + b, x -> x.left(b, 0, 0, 0), -1);
            no("when: BISCUIT " + b, x -> x.when(b, 0, 0, 0), -11);
            no("worth: BISCUIT " + b, x -> x.worth(b, 0, 0, 0), -1);
        }
        for (int[] v : NO_DUNKS) {
            no("left:" + told(v), x -> x.left(0, v[0], v[1], v[2]), -6);
            no("when:" + told(v), x -> x.when(0, v[0], v[1], v[2]), -16);
            no("worth:" + told(v), x -> x.worth(0, v[0], v[1], v[2]), -6);
            no("left without CELLS:" + told(v), x -> x.left(3, v[0], v[1], v[2]), -6);
            no("left: -1 ahead of -6:" + told(v), x -> x.left(4, v[0], v[1], v[2]), -1);
            no("when: -11 ahead of -16:" + told(v), x -> x.when(4, v[0], v[1], v[2]), -11);
            no("worth: -1 ahead of -6:" + told(v), x -> x.worth(4, v[0], v[1], v[2]), -1);
        }
    }

    private static void wetness() {
        for (int b : new int[] {4, -1, LEAST, MOST}) {
            no("wetness: BISCUIT " + b, x -> x.wetness(b, 0, 0, 0, 0), -1);
            no("wetness: -1 ahead of -5 below 0", x -> x.wetness(b, 0, 0, 0, -1), -1);
            no("wetness: -1 ahead of -5 beyond", x -> x.wetness(b, 0, 0, 0, 99), -1);
        }
        for (int i : new int[] {-1, 4, LEAST, MOST}) {
            no("wetness: i " + i, x -> x.wetness(0, 0, 0, 0, i), -5);
        }
        no("wetness: i 0 without CELLS", x -> x.wetness(3, 0, 0, 0, 0), -5);
        for (int[] v : NO_DUNKS) {
            no("wetness:" + told(v), x -> x.wetness(0, v[0], v[1], v[2], 0), -6);
            no("wetness: -1 ahead of -6:" + told(v), x -> x.wetness(4, v[0], v[1], v[2], 0), -1);
            no("wetness: -5 below 0 ahead of -6:" + told(v), x -> x.wetness(0, v[0], v[1], v[2], -1), -5);
            no("wetness: -6 ahead of -5 beyond:" + told(v), x -> x.wetness(0, v[0], v[1], v[2], 4), -6);
        }
    }

    private static void longestAndFar() {
        for (int b : new int[] {4, -1, LEAST, MOST}) {
            no("longest: BISCUIT " + b, x -> x.longest(b, 0, 0), -11);
            no("far: BISCUIT " + b, x -> x.far(b, 0, 0), -11);
        }
        for (int[] v : NO_DUNKS) {
            if (v[1] == 0) {
                no("longest:" + told(v), x -> x.longest(0, v[0], v[2]), -16);
                no("longest: -11 ahead of -16:" + told(v), x -> x.longest(4, v[0], v[2]), -11);
            }
            if (v[2] == 0) {
                no("far:" + told(v), x -> x.far(0, v[0], v[1]), -16);
                no("far: -11 ahead of -16:" + told(v), x -> x.far(4, v[0], v[1]), -11);
            }
        }
    }

    private static void best() {
        for (int b : new int[] {4, -1, LEAST, MOST}) {
            no("best: BISCUIT " + b, x -> x.best(b, 0, 0), -1);
        }
        for (int turned : new int[] {-1, 2, LEAST, MOST}) {
            no("best: turned " + turned, x -> x.best(0, 0, turned), -5);
            no("best: -1 ahead of -5", x -> x.best(4, 0, turned), -1);
            no("best: -5 ahead of -6", x -> x.best(0, 61, turned), -5);
        }
        for (int c : new int[] {-1, 61, LEAST, MOST}) {
            no("best: c " + c, x -> x.best(0, c, 0), -6);
            no("best turned: c " + c, x -> x.best(0, c, 1), -6);
            no("best without CELLS: c " + c, x -> x.best(3, c, 0), -6);
            no("best: -1 ahead of -6", x -> x.best(4, c, 0), -1);
        }
    }

    private static void twice() {
        for (int b : new int[] {4, -1, LEAST, MOST}) {
            no("twice: BISCUIT " + b, x -> x.twice(b, 0, 0, 0, 0), -1);
        }
        for (int[] v : NO_DUNKS) {
            if (v[2] == 0) {
                no("twice: first" + told(v), x -> x.twice(0, v[0], v[1], 0, 0), -6);
                no("twice: second" + told(v), x -> x.twice(0, 0, 0, v[0], v[1]), -6);
                no("twice: -1 ahead of -6 first" + told(v), x -> x.twice(4, v[0], v[1], 0, 0), -1);
                no("twice: -1 ahead of -6 second" + told(v), x -> x.twice(4, 0, 0, v[0], v[1]), -1);
            }
        }
    }

    private static void goes() {
        for (int b : new int[] {4, -1, LEAST, MOST}) {
            no("goes: BISCUIT " + b, x -> x.goes(b, 0, 0), -1);
        }
        for (int[] v : NO_DUNKS) {
            if (v[2] == 0) {
                no("goes:" + told(v), x -> x.goes(0, v[0], v[1]), -6);
                no("goes: -1 ahead of -6:" + told(v), x -> x.goes(4, v[0], v[1]), -1);
            }
        }
    }

    private static void plate() {
        for (int i : new int[] {4, -2, LEAST, MOST}) {
            no("plate: i " + i, x -> x.plate(0, 0, 0, i), -5);
            no("plate: -5 ahead of -6", x -> x.plate(13, 61, 61, i), -5);
        }
        for (int[] v : NO_DUNKS) {
            no("plate:" + told(v), x -> x.plate(v[0], v[1], v[2], -1), -6);
            no("plate: -6 with an i:" + told(v), x -> x.plate(v[0], v[1], v[2], 3), -6);
        }
        no("plate: six BISCUITS", RefusalsTest::crowded, x -> x.plate(0, 0, 0, -1), -6);
        no("plate: six BISCUITS", RefusalsTest::crowded, x -> x.plate(0, 0, 0, 0), -6);
        no("plate: -5 ahead of -6 six BISCUITS", RefusalsTest::crowded, x -> x.plate(0, 0, 0, 6), -5);
        no("plate: -5 ahead of -6 six BISCUITS", RefusalsTest::crowded, x -> x.plate(0, 0, 0, -2), -5);
        no("plate: i 0 of no BISCUITS", RefusalsTest::bare, x -> x.plate(0, 0, 0, 0), -5);
        no("plate: D with no BISCUITS", RefusalsTest::bare, x -> x.plate(13, 0, 0, -1), -6);
    }

    private static void rule() {
        for (int u : new int[] {-1, 100, LEAST, MOST}) {
            no("rule: u " + u, x -> x.rule(u, 1, 0, 0), -6);
            no("rule: v " + u, x -> x.rule(0, u, 0, 0), -6);
        }
        no("rule: v 0", x -> x.rule(0, 0, 0, 0), -6);
        for (int[] v : NO_DUNKS) {
            if (v[1] == 0) {
                no("rule:" + told(v), x -> x.rule(0, 1, v[0], v[2]), -6);
            }
        }
        no("rule: no BISCUITS", RefusalsTest::bare, x -> x.rule(0, 0, 0, 0), -6);
    }

    private static void back() {
        for (int b : new int[] {4, -1, LEAST, MOST}) {
            no("back: BISCUIT " + b, x -> x.back(b, 0, 0), -1);
            no("back: -1 BISCUIT ahead of -2", x -> x.back(b, 2, 0), -1);
            no("back: -1 BISCUIT ahead of -3", x -> x.back(b, 4, 0), -1);
            no("back: -1 BISCUIT ahead of -5", x -> x.back(b, 7, 0), -1);
            no("back: -1 BISCUIT ahead of -6", x -> x.back(b, 0, 13), -1);
        }
        for (int s : new int[] {-1, 8, LEAST, MOST}) {
            no("back: SHELF " + s, x -> x.back(0, s, 0), -1);
            no("back: -1 SHELF ahead of -6", x -> x.back(0, s, 13), -1);
        }
        no("back: a BISCUIT", x -> x.back(0, 2, 0), -2);
        no("back: NOTHING", x -> x.back(0, 4, 0), -3);
        no("back: fewer elements", x -> x.back(0, 6, 0), -5);
        no("back: no elements", x -> x.back(0, 7, 0), -5);
        for (int d : new int[] {-1, 13, LEAST, MOST}) {
            no("back: d " + d, x -> x.back(0, 0, d), -6);
            no("back without CELLS: d " + d, x -> x.back(3, 7, d), -6);
            no("back: -2 ahead of -6", x -> x.back(0, 2, d), -2);
            no("back: -3 ahead of -6", x -> x.back(0, 4, d), -3);
            no("back: -5 ahead of -6", x -> x.back(0, 6, d), -5);
        }
    }

    private static void heats() {
        for (int b : new int[] {4, -1, LEAST, MOST}) {
            no("heats: BISCUIT " + b, x -> x.heats(b, 0, 0, 0), -11);
            no("heats: -11 BISCUIT ahead of -12", x -> x.heats(b, 2, 0, 0), -11);
            no("heats: -11 BISCUIT ahead of -13", x -> x.heats(b, 4, 0, 0), -11);
            no("heats: -11 BISCUIT ahead of -15", x -> x.heats(b, 7, 0, 0), -11);
            no("heats: -11 BISCUIT ahead of -16", x -> x.heats(b, 0, 13, 61), -11);
        }
        for (int s : new int[] {-1, 8, LEAST, MOST}) {
            no("heats: SHELF " + s, x -> x.heats(0, s, 0, 0), -11);
            no("heats: -11 SHELF ahead of -16", x -> x.heats(0, s, 13, 61), -11);
        }
        no("heats: a BISCUIT", x -> x.heats(0, 2, 0, 0), -12);
        no("heats: NOTHING", x -> x.heats(0, 4, 0, 0), -13);
        no("heats: fewer elements", x -> x.heats(0, 6, 0, 0), -15);
        no("heats: no elements", x -> x.heats(0, 7, 0, 0), -15);
        for (int[] v : NO_DUNKS) {
            if (v[2] == 0) {
                no("heats:" + told(v), x -> x.heats(0, 0, v[0], v[1]), -16);
                no("heats without CELLS:" + told(v), x -> x.heats(3, 7, v[0], v[1]), -16);
                no("heats: -12 ahead of -16:" + told(v), x -> x.heats(0, 2, v[0], v[1]), -12);
                no("heats: -13 ahead of -16:" + told(v), x -> x.heats(0, 4, v[0], v[1]), -13);
                no("heats: -15 ahead of -16:" + told(v), x -> x.heats(0, 6, v[0], v[1]), -15);
            }
        }
    }

    private static void fetch() {
        for (int cells : new int[] {0, 13, -1, LEAST, MOST}) {
            no("fetch: CELLS " + cells, x -> x.fetch(cells, 0), -6);
        }
        for (int s : new int[] {-1, 61, LEAST, MOST}) {
            no("fetch: S " + s, x -> x.fetch(1, s), -6);
        }
        no("fetch: S with no BISCUITS", RefusalsTest::bare, x -> x.fetch(1, 61), -6);
    }

    // ---- in truth

    private static void inTruth() {
        for (int b : new int[] {4, -1, LEAST, MOST}) {
            no("dip: BISCUIT " + b, x -> x.dip(b, 0, 0), -1);
            no("carry: BISCUIT " + b, x -> x.carry(b, 0), -1);
            no("turn: BISCUIT " + b, x -> x.turn(b), -1);
            no("eats: BISCUIT " + b, x -> x.eats(b), -1);
            no("dip: -1 ahead of -6", x -> x.dip(b, 13, 61), -1);
            no("carry: -1 ahead of -6", x -> x.carry(b, 61), -1);
        }
        for (int[] v : NO_DUNKS) {
            if (v[2] == 0) {
                no("dip:" + told(v), x -> x.dip(0, v[0], v[1]), -6);
            }
        }
        for (int c : new int[] {-1, 61, LEAST, MOST}) {
            no("carry: c " + c, x -> x.carry(0, c), -6);
        }
        no("dip: no CELLS", x -> x.dip(3, 0, 0), -6);
        no("dip: no CELLS, and D besides, is one", x -> x.dip(3, 13, 61), -6);
        no("carry: no CELLS", x -> x.carry(3, 0), -6);
        no("carry: no CELLS, and c besides, is one", x -> x.carry(3, 61), -6);
        no("eats: no CELLS", x -> x.eats(3), -6);
        no("turn: no BISCUITS", RefusalsTest::bare, x -> x.turn(0), -1);
    }

    private static void teas() {
        for (int n : new int[] {0, 21, -1, LEAST, MOST}) {
            no("teas: n " + n, x -> x.teas(n), -6);
            no("teas: -5 ahead of -6", RefusalsTest::bare, x -> x.teas(n), -5);
        }
        no("teas: no BISCUITS", RefusalsTest::bare, x -> x.teas(1), -5);
    }

    private static void restore() {
        no("restore: no IMAGE", RefusalsTest::bare, x -> x.restore(), -6);
    }

    // ---- calls that refuse nothing, and calls that change nothing

    private static final int[] ANY = {LEAST, -2, -1, 0, 1, 3, 4, 5, 8, 9, 18, 19, 160, MOST};

    private static void refuseNothing() {
        for (int v : ANY) {
            noneRefused("element of SHELF " + v, RefusalsTest::some, x -> x.element(v, 0));
            noneRefused("element " + v, RefusalsTest::some, x -> x.element(0, v));
            noneRefused("holds " + v, RefusalsTest::some, x -> x.holds(v));
            noneRefused("trace " + v, RefusalsTest::some, x -> x.trace(v));
            noneRefused("status " + v, RefusalsTest::some, x -> x.status(v));
            noneRefused("seed " + v, RefusalsTest::some, x -> {
                int was = x.seed(v);
                due("seed becomes " + v, x.seed(was), v);
                return was;
            });
            // the latest act() is the same again
            noneRefused("act of BISCUIT " + v, RefusalsTest::some, x -> x.act(v, 0, 1) + x.act(1, 2, 5));
            noneRefused("act " + v, RefusalsTest::some, x -> x.act(0, v, 1) + x.act(1, 2, 5));
            noneRefused("act with " + v, RefusalsTest::some, x -> x.act(0, 0, v) + x.act(1, 2, 5));
        }
        noneRefused("fault", RefusalsTest::some, x -> x.fault());
        noneRefused("restore, image", RefusalsTest::bare, x -> x.image() + x.restore());
    }

    private static void changeNothing() {
        noneRefused("says", RefusalsTest::some, x -> x.says(3, 3));
        noneRefused("biscuitOf", RefusalsTest::some, x -> x.biscuitOf(0, 3));
        noneRefused("soak", RefusalsTest::some, x -> x.soak(0, 3));
        noneRefused("cellOf", RefusalsTest::some, x -> x.cellOf(0, 3, 0) + x.cellOf(0, 3, 1));
        noneRefused("breaks", RefusalsTest::some, x -> x.breaks(0));
        for (int b = 0; b < 4; b++) {
            int of = b;
            noneRefused("left", RefusalsTest::some, x -> x.left(of, 12, 60, 60));
            noneRefused("when", RefusalsTest::some, x -> x.when(of, 12, 60, 60));
            noneRefused("longest", RefusalsTest::some, x -> x.longest(of, 12, 60));
            noneRefused("far", RefusalsTest::some, x -> x.far(of, 12, 60));
            noneRefused("worth", RefusalsTest::some, x -> x.worth(of, 12, 60, 60));
            noneRefused("best", RefusalsTest::some, x -> x.best(of, 60, 0));
            noneRefused("best turned", RefusalsTest::some, x -> x.best(of, 60, 1));
            noneRefused("twice", RefusalsTest::some, x -> x.twice(of, 12, 60, 12, 60));
            noneRefused("goes", RefusalsTest::some, x -> x.goes(of, 12, 60));
            noneRefused("back", RefusalsTest::some, x -> x.back(of, 0, 12));
            noneRefused("heats", RefusalsTest::some, x -> x.heats(of, 0, 12, 60));
            noneRefused("plate", RefusalsTest::some, x -> x.plate(12, 60, 60, of));
        }
        noneRefused("wetness", RefusalsTest::some, x -> x.wetness(0, 12, 60, 60, 0));
        noneRefused("plate", RefusalsTest::some, x -> x.plate(12, 60, 60, -1));
        noneRefused("rule", RefusalsTest::some, x -> x.rule(99, 99, 12, 60));
        noneRefused("fetch", RefusalsTest::some, x -> x.fetch(1, 60));
    }
}
