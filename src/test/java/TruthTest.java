/** Promises 33 to 43: dips in truth, teas by draws, acts, the image, and how many there are of what. */
public final class TruthTest {
    private static int wrong = 0;

    private static void due(String call, long got, long want) {
        if (got != want) {
            wrong++;
            System.out.println(call + " answered " + got + ", due is " + want);
        }
    }

    public static void main(String[] args) {
        dip();
        dipRefused();
        carry();
        heatFalls();
        turn();
        eats();
        teas();
        teasWithoutCells();
        teasMany();
        teasRefused();
        seed();
        acts();
        actRefused();
        image();
        restoredShelves();
        imageKeepsNot();
        status();
        System.out.println(wrong == 0 ? "in truth: as due" : "in truth: " + wrong + " not as due");
        if (wrong != 0) {
            System.exit(1);
        }
    }

    private static DunkedBiscuits one(int kind, int cells, int a, int... wets) {
        DunkedBiscuits x = new DunkedBiscuits();
        x.biscuit(kind, cells, a);
        for (int i = 0; i < wets.length; i++) {
            x.wet(0, i, wets[i]);
        }
        return x;
    }

    private static void dip() {
        DunkedBiscuits x = one(0, 3, 0, 0, 0, 60);
        due("two are gone", x.dip(0, 2, 1), 2);
        due("one is left", x.biscuitOf(0, 1), 1);
        due("the third", x.biscuitOf(0, 10), 60);
        due("tea, what the gone ones took too", x.status(4), 1000 - 14);
        due("sludge", x.status(5), 2);
        due("seconds", x.status(7), 1);
        due("none is gone", x.dip(0, 12, 60), 0);
        due("as far as 99", x.status(4), 1000 - 14 - 39);
        due("sludge", x.status(5), 2);
        due("seconds", x.status(7), 61);
        due("heat", x.status(2), 57);
        x.ask(2, 3);
        x.biscuit(0, 1, 0);
        due("dip", x.dip(1, 1, 1), 0);
        due("tea 0 at least", x.status(4), 0);
        due("wet all the same", x.biscuitOf(1, 10), 6);
        due("no second", x.dip(1, 1, 0), 0);
        due("no second", x.status(7), 62);
    }

    private static void dipRefused() {
        DunkedBiscuits x = one(0, 1, 0);
        due("no biscuit", x.dip(1, 13, 0), -1);
        due("no biscuit", x.dip(-1, 0, 0), -1);
        due("d", x.dip(0, 13, 1), -6);
        due("d", x.dip(0, -1, 1), -6);
        due("s", x.dip(0, 1, 61), -6);
        due("s", x.dip(0, 1, -1), -6);
        x.eats(0);
        due("no cells", x.dip(0, 1, 1), -6);
        due("counted", x.status(11), 2);
        due("counted", x.status(16), 5);
        due("no seconds", x.status(7), 0);
    }

    private static void carry() {
        DunkedBiscuits x = one(0, 2, 0, 99, 56);
        due("one is gone", x.carry(0, 40), 1);
        due("no sludge", x.status(5), 0);
        due("no tea goes", x.status(4), 1000);
        due("seconds", x.status(7), 40);
        due("heat", x.status(2), 58);
        due("creeps in the second ahead of its going", x.biscuitOf(0, 10), 66);
        due("none is gone", x.carry(0, 60), 0);
        due("no biscuit", x.carry(1, 61), -1);
        due("c", x.carry(0, 61), -6);
        due("c", x.carry(0, -1), -6);
        x.eats(0);
        due("no cells", x.carry(0, 1), -6);
        due("seconds", x.status(7), 100);
    }

    private static void heatFalls() {
        DunkedBiscuits x = one(0, 1, 0);
        x.carry(0, 19);
        due("19", x.status(2), 60);
        x.carry(0, 1);
        due("20", x.status(2), 59);
        x.ask(1, 7);
        due("21 is a multiple of 7", x.carry(0, 1), 0);
        due("21", x.status(2), 58);
        x.carry(0, 6);
        due("27", x.status(2), 58);
        x.ask(1, 28);
        x.carry(0, 1);
        due("28", x.status(2), 57);
        x.ask(1, 1);
        x.carry(0, 56);
        due("to 1", x.status(2), 1);
        x.carry(0, 60);
        due("0 at least", x.status(2), 0);
        due("seconds", x.status(7), 144);
    }

    private static void turn() {
        DunkedBiscuits x = one(0, 5, 0, 1, 2, 3, 4, 5);
        due("its cells", x.turn(0), 5);
        for (int i = 0; i < 5; i++) {
            due("turned " + i, x.biscuitOf(0, 10 + i), 5 - i);
        }
        DunkedBiscuits y = one(0, 2, 0, 1, 2);
        due("its cells", y.turn(0), 2);
        due("turned", y.biscuitOf(0, 10), 2);
        due("turned", y.biscuitOf(0, 11), 1);
        due("no biscuit", y.turn(1), -1);
        due("no biscuit", y.turn(-1), -1);
        due("counted", y.status(11), 2);
        y.eats(0);
        due("no cells", y.turn(0), 0);
    }

    private static void eats() {
        DunkedBiscuits x = one(4, 3, 7, 0, 19, 99);
        x.worthOf(0, 1);
        x.worthOf(1, 10);
        x.worthOf(9, 90);
        due("its worth", x.eats(0), 101);
        due("pleasure", x.status(6), 101);
        due("no cells", x.biscuitOf(0, 1), 0);
        due("cells of all", x.status(1), 0);
        due("is there still", x.status(0), 1);
        due("no cells", x.eats(0), -6);
        due("no biscuit", x.eats(1), -1);
        due("no seconds", x.status(7), 0);
        due("no sludge", x.status(5), 0);
        x.biscuit(0, 1, 0);
        x.eats(1);
        due("pleasure", x.status(6), 102);
    }

    private static int drawn(int seed, int n) {
        return (seed >>> 16) % n;
    }

    private static int next(int seed) {
        return seed * 1103515245 + 12345;
    }

    /** One tea by the draws of a seed, worked out by calls in truth on a second object. */
    private static void teas() {
        for (int seed = 1; seed < 40; seed++) {
            DunkedBiscuits x = new DunkedBiscuits();
            DunkedBiscuits y = new DunkedBiscuits();
            for (DunkedBiscuits z : new DunkedBiscuits[] {x, y}) {
                z.biscuit(0, 12, 4);
                z.biscuit(4, 9, 9);
                z.biscuit(2, 4, 1);
                z.ask(1, 3);
                for (int w = 0; w < 10; w++) {
                    z.worthOf(w, w * w + 1);
                }
            }
            x.seed(seed);
            int s1 = next(seed);
            int b = drawn(s1, 3);
            int s2 = next(s1);
            int d = drawn(s2, y.biscuitOf(b, 1) + 1);
            int s3 = next(s2);
            y.dip(b, d, drawn(s3, 10));
            int s4 = next(s3);
            y.carry(b, drawn(s4, 6));
            due("tea by seed " + seed, x.teas(1), y.eats(b));
            due("seed", x.status(8), s4);
            for (int what = 0; what < 8; what++) {
                due("status " + what + " by seed " + seed, x.status(what), y.status(what));
            }
        }
    }

    private static void teasWithoutCells() {
        DunkedBiscuits x = one(0, 1, 0);
        x.worthOf(0, 5);
        x.eats(0);
        due("seed", x.seed(77), 1);
        due("nothing", x.teas(3), 0);
        due("three draws", x.status(8), next(next(next(77))));
        due("no seconds", x.status(7), 0);
        due("pleasure stays", x.status(6), 5);
    }

    private static void teasMany() {
        DunkedBiscuits x = one(0, 3, 0);
        for (int w = 0; w < 10; w++) {
            x.worthOf(w, 7);
        }
        int first = x.teas(20);
        due("one is eaten once", x.status(1), 0);
        due("pleasure by them", first, x.status(6));
        // the first takes 4 draws, the others 1 each
        int seed = 1;
        for (int i = 0; i < 23; i++) {
            seed = next(seed);
        }
        due("draws", x.status(8), seed);
        due("pleasure by these alone", x.teas(1), 0);
    }

    private static void teasRefused() {
        DunkedBiscuits x = new DunkedBiscuits();
        due("no biscuits", x.teas(1), -5);
        due("no biscuits ahead of n", x.teas(0), -5);
        x.biscuit(0, 1, 0);
        due("n", x.teas(0), -6);
        due("n", x.teas(21), -6);
        due("n", x.teas(Integer.MIN_VALUE), -6);
        due("no draw", x.status(8), 1);
        due("counted", x.status(15), 2);
        due("counted", x.status(16), 3);
    }

    private static void seed() {
        DunkedBiscuits x = new DunkedBiscuits();
        due("was", x.seed(Integer.MIN_VALUE), 1);
        due("was", x.seed(-1), Integer.MIN_VALUE);
        due("is", x.status(8), -1);
    }

    private static void act(DunkedBiscuits x, int b, int act, int value, long want, int... bodies) {
        String call = "act(" + b + ", " + act + ", " + value + ")";
        due(call, x.act(b, act, value), want);
        due("bodies of " + call, x.status(9), bodies.length);
        for (int i = 0; i < bodies.length; i++) {
            due("body " + i + " of " + call, x.trace(i), bodies[i]);
        }
        due("no more of " + call, x.trace(bodies.length), -1);
        due("none ahead of " + call, x.trace(-1), -1);
        due("none of " + call, x.trace(Integer.MAX_VALUE), -1);
    }

    private static void acts() {
        DunkedBiscuits x = new DunkedBiscuits();
        int[] kinds = {0, 1, 2, 3, 4, 5};
        for (int kind : kinds) {
            x.biscuit(kind, 1, kind + 3);
        }
        // m is the number, k the number and 3
        act(x, 0, 0, 100, 100, 10);
        act(x, 0, 1, 100, 200, 11, 10);
        act(x, 0, 2, 100, 200 ^ 97, 12, 11, 10, 10);
        act(x, 1, 0, 100, 105, 20, 10);
        act(x, 1, 2, 100, 210 ^ 101, 12, 11, 20, 10, 20, 10);
        act(x, 2, 1, 100, 612, 30, 11, 10);
        act(x, 2, 2, 100, 612 ^ 97, 12, 30, 11, 10, 10);
        act(x, 3, 1, 100, 220, 40, 11, 20, 10);
        act(x, 3, 2, 100, 220 ^ 103, 12, 40, 11, 20, 10, 20, 10);
        act(x, 4, 0, 100, 100, 51, 10);
        act(x, 4, 2, 100, -(200 ^ 93), 50, 12, 11, 51, 10, 51, 10);
        act(x, 5, 2, 100, 630 ^ 97 ^ 5, 60, 12, 30, 11, 10, 10);
        DunkedBiscuits y = new DunkedBiscuits();
        y.biscuit(0, 1, 0);
        y.biscuit(6, 1, 9);
        // soaks: ((x + 1) - 1) * 2; creeps: soaks(x - 9) * 2
        act(y, 1, 0, 100, 200, 70, 51, 10);
        act(y, 1, 1, 100, 364, 71, 11, 70, 51, 10);
        act(y, 1, 2, 100, -(364 ^ 182), 50, 12, 71, 11, 70, 51, 10, 70, 51, 10);
        act(y, 1, 0, Integer.MAX_VALUE, -2, 70, 51, 10);
        y.eats(1);
        act(y, 1, 1, 9, 0, 71, 11, 70, 51, 10);
        act(y, 0, 0, Integer.MIN_VALUE, Integer.MIN_VALUE, 10);
    }

    private static void actRefused() {
        DunkedBiscuits x = one(0, 1, 0);
        x.act(0, 2, 1);
        due("no such biscuit", x.act(1, 0, 5), 0);
        due("no trace then", x.trace(0), -1);
        due("no bodies", x.status(9), 0);
        x.act(0, 2, 1);
        due("no such act", x.act(0, 3, 5), 0);
        due("no trace then", x.trace(0), -1);
        due("no such act", x.act(0, -1, 5), 0);
        due("no such biscuit", x.act(-1, 0, 5), 0);
        for (int what = 11; what <= 17; what++) {
            due("nothing is refused", x.status(what), 0);
        }
    }

    private static void image() {
        DunkedBiscuits x = one(3, 4, 5, 11, 12, 13, 14);
        x.worthOf(2, 22);
        x.seed(5);
        x.dip(0, 2, 3);
        x.worthOf(0, 3);
        x.biscuit(0, 1, 0);
        x.eats(1);
        int[] was = new int[9];
        for (int what = 0; what < 9; what++) {
            was[what] = x.status(what);
        }
        int wet = x.biscuitOf(0, 10);
        due("image", x.image(), 2);
        for (int round = 0; round < 2; round++) {
            x.biscuit(0, 7, 0);
            x.wet(0, 0, 99);
            x.turn(0);
            x.worthOf(2, 1);
            x.ask(0, 1);
            x.ask(1, 1);
            x.ask(2, 1);
            x.teas(5);
            x.biscuit(0, 7, 0);
            x.dip(x.status(0) - 1, 3, 60);
            due("restore", x.restore(), 2);
            for (int what = 0; what < 9; what++) {
                due("status " + what, x.status(what), was[what]);
            }
            due("wet", x.biscuitOf(0, 10), wet);
            due("cells", x.biscuitOf(0, 1), 4);
            due("a", x.biscuitOf(0, 2), 5);
            due("kind", x.biscuitOf(0, 0), 3);
            due("worth", x.worthOf(2, 9), 22);
        }
        x.biscuit(1, 1, 1);
        due("a second image", x.image(), 3);
        x.biscuit(1, 1, 1);
        due("is the one", x.restore(), 3);
        due("with its worths", x.worthOf(2, 9), 9);
    }

    private static void restoredShelves() {
        DunkedBiscuits x = one(0, 2, 0);
        x.image();
        x.biscuit(1, 3, 0);
        x.show(0, 0);
        x.show(1, 1);
        x.row(2, 3, 2);
        x.set(2, 1, 9);
        x.eats(0);
        due("restore", x.restore(), 1);
        due("holds it", x.holds(0), 0);
        due("with its cells", x.says(0, 0), 2);
        due("holds nothing", x.holds(1), -1);
        due("says nothing", x.says(1, 0), -3);
        due("the row stays", x.element(2, 1), 9);
        x.biscuit(1, 3, 0);
        due("nothing it is still", x.holds(1), -1);
        DunkedBiscuits y = new DunkedBiscuits();
        due("of none", y.image(), 0);
        y.biscuit(0, 1, 0);
        y.show(7, 0);
        due("of none", y.restore(), 0);
        due("nothing", y.holds(7), -1);
        y.biscuit(4, 5, 6);
        due("a new one is as told", y.biscuitOf(0, 1), 5);
        due("a new one is dry", y.biscuitOf(0, 3), 0);
    }

    private static void imageKeepsNot() {
        DunkedBiscuits x = one(0, 2, 0);
        due("none yet", x.restore(), -6);
        x.image();
        x.act(0, 1, 1);
        x.row(0, 0, 3);
        x.table(0);
        x.turn(9);
        due("restore", x.restore(), 1);
        due("the fault stays", x.fault(), 0);
        due("the trace stays", x.trace(0), 11);
        due("the bodies stay", x.status(9), 2);
        due("refusals stay", x.status(11), 1);
        due("refusals stay", x.status(16), 2);
    }

    private static void status() {
        DunkedBiscuits x = one(0, 2, 0);
        x.biscuit(0, 3, 0);
        int[] none = {-1, 10, 18, Integer.MIN_VALUE, Integer.MAX_VALUE};
        for (int what : none) {
            due("status(" + what + ")", x.status(what), -1);
        }
        due("cells of all", x.status(1), 5);
        for (int what = 11; what <= 17; what++) {
            due("none is refused by asking", x.status(what), 0);
        }
    }
}
