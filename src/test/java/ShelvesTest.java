/** Promises 1 to 8: a new object, and what shelves hold. */
public final class ShelvesTest {
    private static int wrong = 0;

    private static void due(String call, long got, long want) {
        if (got != want) {
            wrong++;
            System.out.println(call + " answered " + got + ", due is " + want);
        }
    }

    public static void main(String[] args) {
        newObject();
        row();
        set();
        copy();
        copyRefused();
        element();
        show();
        holds();
        says();
        saysRefused();
        System.out.println(wrong == 0 ? "shelves: as due" : "shelves: " + wrong + " not as due");
        if (wrong != 0) {
            System.exit(1);
        }
    }

    private static void newObject() {
        DunkedBiscuits x = new DunkedBiscuits();
        long[] first = {0, 0, 60, 20, 1000, 0, 0, 0, 1, 0, -1, 0, 0, 0, 0, 0, 0, 0, -1};
        for (int what = 0; what < first.length; what++) {
            due("new: status(" + what + ")", x.status(what), first[what]);
        }
        for (int s = -1; s < 9; s++) {
            due("new: holds(" + s + ")", x.holds(s), -1);
        }
        due("new: fault", x.fault(), -1);
        due("new: trace", x.trace(0), -1);
        for (int w = 0; w < 10; w++) {
            due("new: worthOf " + w, x.worthOf(w, 1), 0);
        }
        due("new: restore", x.restore(), -6);
        due("NONE", DunkedBiscuits.NONE, -1);
        DunkedBiscuits y = new DunkedBiscuits();
        due("another one is new too", y.worthOf(3, 7), 0);
        due("another one is new too", y.status(16), 0);
    }

    private static void row() {
        DunkedBiscuits x = new DunkedBiscuits();
        due("row ahead of all", x.row(8, 9, -1), -1);
        due("row -1", x.row(-1, 0, 1), -1);
        due("row -4 ahead of the sort", x.row(0, 9, -1), -4);
        due("row -6 ahead of the room", x.row(0, 4, 161), -6);
        due("row -6", x.row(0, -1, 0), -6);
        due("row -7", x.row(0, 0, 161), -7);
        due("row -7", x.row(0, 3, Integer.MAX_VALUE), -7);
        due("row -4", x.row(0, 3, Integer.MIN_VALUE), -4);
        due("nothing changed", x.holds(0), -1);
        due("row of 160", x.row(0, 0, 160), 1);
        due("the last one", x.set(0, 159, 5), 1);
        due("the first one", x.set(0, 0, 5), 1);
        due("row of 0", x.row(7, 3, 0), 1);
        due("no first one", x.set(7, 0, 5), -5);
        due("a new row", x.row(0, 2, 160), 1);
        due("is of 0", x.element(0, 159), 0);
        due("is of 0", x.element(0, 0), 0);
        due("of its own sort", x.holds(0), 102);
        x.biscuit(0, 1, 0);
        x.show(3, 0);
        due("row over a biscuit", x.row(3, 1, 2), 1);
        due("holds", x.holds(3), 101);
        due("counted -1", x.status(11), 2);
        due("counted -4", x.status(14), 2);
        due("counted -6", x.status(16), 2);
        due("counted -7", x.status(17), 2);
    }

    private static void set() {
        DunkedBiscuits x = new DunkedBiscuits();
        x.biscuit(0, 1, 0);
        x.show(1, 0);
        long v = 0x123456789abcdef0L;
        long[] kept = {(byte) v, (short) v, (int) v, v};
        for (int sort = 0; sort < 4; sort++) {
            x.row(0, sort, 3);
            due("set", x.set(0, 2, v), 1);
            due("lowest bits of sort " + sort, x.element(0, 2), kept[sort]);
            due("beside", x.element(0, 1), 0);
        }
        x.row(0, 0, 3);
        x.set(0, 0, 200);
        due("a byte has a sign", x.element(0, 0), -56);
        x.row(2, 1, 1);
        x.set(2, 0, 40000);
        due("a short has a sign", x.element(2, 0), -25536);
        due("set -1", x.set(8, 0, 1), -1);
        due("set -1", x.set(-1, 9, 1), -1);
        due("set -2", x.set(1, 9, 1), -2);
        due("set -3", x.set(5, 9, 1), -3);
        due("set -5", x.set(0, 3, 1), -5);
        due("set -5", x.set(0, -1, 1), -5);
        due("set -5", x.set(0, Integer.MAX_VALUE, 1), -5);
        due("counted", x.status(15), 3);
    }

    private static void fill(DunkedBiscuits x, int s, int sort, int n) {
        x.row(s, sort, n);
        for (int i = 0; i < n; i++) {
            x.set(s, i, i + 1);
        }
    }

    private static void is(DunkedBiscuits x, String what, int s, int... want) {
        for (int i = 0; i < want.length; i++) {
            due(what + " [" + i + "]", x.element(s, i), want[i]);
        }
    }

    private static void copy() {
        DunkedBiscuits x = new DunkedBiscuits();
        fill(x, 0, 2, 5);
        due("copy up within", x.copy(0, 0, 0, 1, 4), 1);
        is(x, "copy up within", 0, 1, 1, 2, 3, 4);
        fill(x, 0, 2, 5);
        due("copy down within", x.copy(0, 0, 1, 0, 4), 1);
        is(x, "copy down within", 0, 2, 3, 4, 5, 5);
        fill(x, 0, 2, 5);
        x.row(1, 2, 3);
        due("copy to another", x.copy(0, 1, 3, 1, 2), 1);
        is(x, "copy to another", 1, 0, 4, 5);
        is(x, "the first stays", 0, 1, 2, 3, 4, 5);
        due("copy of none at the end", x.copy(0, 1, 5, 3, 0), 1);
    }

    private static void copyRefused() {
        DunkedBiscuits x = new DunkedBiscuits();
        x.biscuit(0, 1, 0);
        x.show(2, 0);
        fill(x, 0, 2, 5);
        fill(x, 1, 3, 5);
        fill(x, 4, 2, 5);
        due("copy -1", x.copy(8, 2, -1, -1, -1), -1);
        due("copy -1 to", x.copy(2, -1, -1, -1, -1), -1);
        due("copy -2 to a biscuit", x.copy(0, 2, -1, -1, -1), -2);
        due("copy -2 biscuit ahead of nothing", x.copy(2, 3, -1, -1, -1), -2);
        due("copy -2 biscuit ahead of nothing", x.copy(3, 2, -1, -1, -1), -2);
        due("copy -2 two sorts", x.copy(0, 1, -1, -1, -1), -2);
        due("copy -3 one sort only", x.copy(0, 3, -1, -1, -1), -3);
        due("copy -3", x.copy(3, 0, -1, -1, -1), -3);
        due("copy -4", x.copy(0, 4, -1, -1, -1), -4);
        due("copy -5 i", x.copy(0, 4, -1, 0, 0), -5);
        due("copy -5 j", x.copy(0, 4, 0, -1, 0), -5);
        due("copy -5 end of i", x.copy(0, 4, 4, 0, 2), -5);
        due("copy -5 end of j", x.copy(0, 4, 0, 4, 2), -5);
        due("copy -5 far", x.copy(0, 4, Integer.MAX_VALUE, 0, Integer.MAX_VALUE), -5);
        due("copy -5 none of beyond", x.copy(0, 4, 6, 0, 0), -5);
        is(x, "nothing changed", 4, 1, 2, 3, 4, 5);
    }

    private static void element() {
        DunkedBiscuits x = new DunkedBiscuits();
        x.biscuit(0, 1, 0);
        x.show(1, 0);
        fill(x, 0, 3, 2);
        due("element", x.element(0, 1), 2);
        due("none behind", x.element(0, 2), 0);
        due("none ahead", x.element(0, -1), 0);
        due("none of a biscuit", x.element(1, 0), 0);
        due("none of nothing", x.element(2, 0), 0);
        due("none of no shelf", x.element(8, 0), 0);
        due("none of no shelf", x.element(-1, Integer.MIN_VALUE), 0);
        for (int what = 11; what <= 17; what++) {
            due("nothing is refused", x.status(what), 0);
        }
    }

    private static void show() {
        DunkedBiscuits x = new DunkedBiscuits();
        due("show none such", x.show(0, 0), -1);
        x.biscuit(3, 1, 0);
        due("show", x.show(0, 0), 1);
        due("no such shelf", x.show(8, 0), -1);
        due("no such shelf", x.show(-1, -1), -1);
        due("no such biscuit", x.show(0, 1), -1);
        due("no such biscuit", x.show(0, -2), -1);
        due("holds it still", x.holds(0), 0);
        due("in a second one", x.show(1, 0), 1);
        x.row(0, 0, 3);
        due("nothing for a row", x.show(0, -1), 0);
        due("holds nothing", x.holds(0), -1);
        due("nothing again", x.show(0, -1), 0);
        due("counted", x.status(11), 5);
    }

    private static void holds() {
        DunkedBiscuits x = new DunkedBiscuits();
        x.biscuit(3, 1, 0);
        x.biscuit(3, 1, 0);
        for (int sort = 0; sort < 4; sort++) {
            x.row(sort, sort, 0);
            due("holds a row", x.holds(sort), 100 + sort);
        }
        x.show(2, 1);
        due("holds a biscuit", x.holds(2), 1);
        due("holds nothing", x.holds(7), -1);
        due("no such", x.holds(8), -1);
        due("nothing is refused", x.status(11), 0);
    }

    private static void says() {
        DunkedBiscuits x = new DunkedBiscuits();
        // SOAK of a plain one with a 3 by HEAT 60: 1 + 3 + 6
        int[] cells = {4, 5, 1, 7, 8, 9};
        int[] kinds = {0, 1, 2, 3, 5, 6};
        for (int b = 0; b < 6; b++) {
            x.biscuit(kinds[b], cells[b], 3);
            x.show(b, b);
            due("says cells", x.says(b, 0), cells[b]);
        }
        due("a biscuit is no coat", x.says(0, 1), -2);
        due("coat: half", x.says(1, 1), 5);
        due("coat is no sugar", x.says(1, 3), -2);
        due("hole of one cell: that is the middle", x.says(2, 2), 20);
        due("sugar as coat", x.says(3, 1), 5);
        due("sugar: its a", x.says(3, 3), 3);
        due("sugar is no hole", x.says(3, 2), -2);
        due("pair as hole: cell 0 isn't the middle", x.says(4, 2), 10);
        due("pair: holds dry", x.says(4, 5), 100);
        due("stale as rusk: twice", x.says(5, 4), 20);
        due("stale: holds 10 wet", x.says(5, 6), 53);
        due("stale is no pair", x.says(5, 5), -2);
        x.ask(0, 99);
        due("by the heat as it is", x.says(3, 1), 6);
        x.eats(1);
        x.eats(2);
        due("without cells: cells", x.says(1, 0), 0);
        due("without cells: soak", x.says(1, 1), 6);
        due("without cells: the middle", x.says(2, 2), 26);
    }

    private static void saysRefused() {
        DunkedBiscuits x = new DunkedBiscuits();
        x.biscuit(4, 1, 0);
        x.row(1, 0, 1);
        x.show(0, 0);
        due("rusk is no stale", x.says(0, 6), -2);
        due("rusk", x.says(0, 4), 14);
        due("no kind", x.says(0, 7), -1);
        due("no kind ahead of the row", x.says(1, -1), -1);
        due("no shelf", x.says(8, 0), -1);
        due("a row", x.says(1, 0), -2);
        due("nothing", x.says(2, 0), -3);
        due("counted -1", x.status(11), 3);
        due("counted -2", x.status(12), 2);
        due("counted -3", x.status(13), 1);
    }
}
