/** Promises 16 to 32: a biscuit as it is, and what would come of dips and carries. */
public final class DunksTest {
    private static int wrong = 0;

    private static void due(String call, long got, long want) {
        if (got != want) {
            wrong++;
            System.out.println(call + " answered " + got + ", due is " + want);
        }
    }

    public static void main(String[] args) {
        soak();
        cellOf();
        breaks();
        left();
        breaksOnceASecond();
        creep();
        wetness();
        when();
        longest();
        far();
        worth();
        best();
        bestTurned();
        twice();
        goes();
        goesBroken();
        plate();
        plateOfFive();
        plateHeat();
        plateRefused();
        rule();
        back();
        backRefused();
        heats();
        heatsRefused();
        fetch();
        withoutCells();
        nothingChanges();
        System.out.println(wrong == 0 ? "dunks: as due" : "dunks: " + wrong + " not as due");
        if (wrong != 0) {
            System.exit(1);
        }
    }

    private static DunkedBiscuits one(int kind, int cells, int a, int... wets) {
        DunkedBiscuits x = new DunkedBiscuits();
        x.biscuit(kind, cells, a);
        wets(x, 0, wets);
        return x;
    }

    private static void wets(DunkedBiscuits x, int b, int... wets) {
        for (int i = 0; i < wets.length; i++) {
            x.wet(b, i, wets[i]);
        }
    }

    private static void worths(DunkedBiscuits x, int... worths) {
        for (int w = 0; w < worths.length; w++) {
            x.worthOf(w, worths[w]);
        }
    }

    private static void row(DunkedBiscuits x, int s, int sort, long... values) {
        x.row(s, sort, values.length);
        for (int i = 0; i < values.length; i++) {
            x.set(s, i, values[i]);
        }
    }

    private static void soak() {
        // 1 + 4 + 5 by HEAT 59: 10; 11 by HEAT 60
        int[] by59 = {10, 5, 10, 5, 20, 10, 20};
        int[] by60 = {11, 5, 11, 5, 22, 11, 22};
        for (int kind = 0; kind < 7; kind++) {
            DunkedBiscuits x = one(kind, 4, 4);
            boolean middle = kind == 2 || kind == 5;
            due("soak of kind " + kind, x.soak(0, 0), by60[kind]);
            due("middle of kind " + kind, x.soak(0, 2), middle ? 22 : by60[kind]);
            due("no middle of kind " + kind, x.soak(0, 1), by60[kind]);
            x.ask(0, 59);
            due("soak of kind " + kind, x.soak(0, 3), by59[kind]);
            due("no cell", x.soak(0, 4), -1);
            due("no cell", x.soak(0, -1), -1);
            due("no biscuit", x.soak(1, 0), -1);
            due("counted", x.status(11), 3);
        }
        DunkedBiscuits x = one(2, 5, 0);
        due("middle of 5", x.soak(0, 2), 14);
        x = one(5, 1, 0);
        due("middle of 1", x.soak(0, 0), 14);
        x.eats(0);
        due("eaten", x.soak(0, 0), -1);
        x = one(1, 1, 0);
        x.ask(0, 0);
        due("half of 1", x.soak(0, 0), 0);
    }

    private static void cellOf() {
        DunkedBiscuits x = one(0, 4, 9, 19, 20, 99, 70);
        due("holds", x.cellOf(0, 0, 0), 41);
        due("holds below 0", x.cellOf(0, 2, 0), -39);
        due("hangs on none", x.cellOf(0, 0, 1), 0);
        due("hangs", x.cellOf(0, 1, 1), 1);
        due("hangs", x.cellOf(0, 2, 1), 3);
        due("hangs, cut one by one", x.cellOf(0, 3, 1), 8);
        due("no cell", x.cellOf(0, 4, 2), -1001);
        due("no biscuit", x.cellOf(1, 0, 0), -1001);
        due("no biscuit", x.cellOf(-1, 0, 0), -1001);
        due("another what", x.cellOf(0, 0, 2), -1005);
        due("another what", x.cellOf(0, 0, -1), -1005);
        due("counted", x.status(11), 3);
        due("counted", x.status(15), 2);
        due("pair", one(5, 1, 9, 99).cellOf(0, 0, 0), 1);
        due("stale", one(6, 1, 9, 99).cellOf(0, 0, 0), -30);
        due("rusk", one(4, 1, 9, 99).cellOf(0, 0, 0), -39);
    }

    private static void breaks() {
        due("dry", one(0, 12, 0).breaks(0), -1);
        // on CELL 1 hangs 1 + 99 / 20 = 5
        due("just as much", one(0, 2, 0, 99, 55).breaks(0), -1);
        due("more", one(0, 2, 0, 99, 56).breaks(0), 1);
        due("not at 0", one(0, 1, 0, 99).breaks(0), -1);
        due("a twentieth, cut: 4", one(0, 2, 0, 80, 56).breaks(0), 1);
        due("a twentieth, cut: 3", one(0, 2, 0, 79, 56).breaks(0), -1);
        due("the lowest", one(0, 4, 0, 0, 0, 99, 99).breaks(0), 2);
        due("pair holds 40 more", one(5, 2, 0, 99, 95).breaks(0), -1);
        due("pair", one(5, 2, 0, 99, 96).breaks(0), 1);
        due("stale holds a more", one(6, 2, 7, 99, 62).breaks(0), -1);
        due("stale", one(6, 2, 7, 99, 63).breaks(0), 1);
        DunkedBiscuits x = one(0, 2, 0, 99, 56);
        due("no such", x.breaks(1), -11);
        due("no such", x.breaks(-1), -11);
        due("counted", x.status(11), 2);
        x.eats(0);
        due("eaten", x.breaks(0), -1);
    }

    private static void left() {
        DunkedBiscuits x = one(0, 2, 0, 99, 56);
        due("no second", x.left(0, 12, 0, 0), 2);
        due("a second in the tea", x.left(0, 0, 1, 0), 1);
        due("a second out of it", x.left(0, 0, 0, 1), 1);
        due("deepest", x.left(0, 12, 60, 60), 1);
        int[][] wrongs = {{-1, 0, 0}, {13, 0, 0}, {0, -1, 0}, {0, 61, 0}, {0, 0, -1}, {0, 0, 61}};
        for (int[] w : wrongs) {
            due("left -6", x.left(0, w[0], w[1], w[2]), -6);
            due("left -1 ahead", x.left(1, w[0], w[1], w[2]), -1);
            due("worth -6", x.worth(0, w[0], w[1], w[2]), -6);
            due("when -16", x.when(0, w[0], w[1], w[2]), -16);
            due("wetness -6", x.wetness(0, w[0], w[1], w[2], 0), -6);
        }
        due("counted", x.status(16), 24);
        due("counted", x.status(11), 6);
    }

    private static void breaksOnceASecond() {
        // breaks at 2 behind the first SECOND, at the top one behind the second; dry there, so whole by one
        DunkedBiscuits x = one(0, 5, 0, 0, 0, 70, 70, 0);
        due("at the lowest", x.breaks(0), 2);
        due("first second", x.left(0, 0, 1, 0), 3);
        due("second second", x.left(0, 0, 2, 0), 2);
        // what is left of 4 deep behind a break at 2 is 2 deep: SOAK 7
        DunkedBiscuits y = one(0, 5, 0, 0, 0, 55, 0, 0);
        due("behind the break", y.left(0, 4, 1, 0), 3);
        due("soaked", y.wetness(0, 4, 1, 0, 0), 62);
        due("soaked on", y.wetness(0, 4, 2, 0, 0), 69);
        due("soaked on", y.wetness(0, 4, 2, 0, 1), 14);
        due("not soaked", y.wetness(0, 4, 2, 0, 2), 1);
        // 1 deep, gone with what is gone: no depth is left
        DunkedBiscuits z = one(0, 4, 0, 0, 0, 60, 60);
        due("all of the depth", z.wetness(0, 1, 2, 0, 0), 60);
    }

    private static void creep() {
        DunkedBiscuits x = one(0, 4, 0, 43, 0, 3, 50);
        due("0 creeps not", x.wetness(0, 0, 1, 0, 0), 43);
        due("a quarter, cut", x.wetness(0, 0, 1, 0, 1), 10);
        due("not if the one below isn't wetter", x.wetness(0, 0, 0, 1, 2), 3);
        due("by what it was ahead", x.wetness(0, 0, 0, 2, 2), 4);
        due("not down", x.wetness(0, 0, 1, 0, 3), 50);
        due("sugar: half, cut", one(3, 2, 0, 43, 0).wetness(0, 0, 0, 1, 1), 21);
        due("coat: a quarter", one(1, 2, 0, 43, 0).wetness(0, 0, 0, 1, 1), 10);
        due("soak in the tea", one(0, 2, 0, 40, 0).wetness(0, 2, 1, 0, 1), 7);
        due("creep at its edge, by what was", one(0, 2, 0, 40, 0).wetness(0, 1, 1, 0, 1), 10);
        due("99 at most", one(0, 1, 9, 90).wetness(0, 1, 1, 0, 0), 99);
        due("deep as all cells", one(0, 1, 0, 0).wetness(0, 12, 2, 0, 0), 14);
    }

    private static void wetness() {
        DunkedBiscuits x = one(0, 2, 0, 99, 56);
        due("no biscuit", x.wetness(1, 99, 99, 99, -1), -1);
        due("below 0 ahead of the dip", x.wetness(0, 99, 0, 0, -1), -5);
        due("the dip ahead of beyond", x.wetness(0, 99, 0, 0, 9), -6);
        due("beyond", x.wetness(0, 0, 0, 0, 2), -5);
        due("beyond what is left", x.wetness(0, 0, 1, 0, 1), -5);
        // creeps by (99 - 56) / 4 = 10 in the SECOND in which it breaks
        due("what is left", x.wetness(0, 0, 1, 0, 0), 66);
    }

    private static void when() {
        DunkedBiscuits x = one(0, 2, 0, 99, 56);
        due("never", x.when(0, 0, 0, 0), -1);
        due("in the dip", x.when(0, 0, 60, 0), 1);
        due("in the carry", x.when(0, 0, 0, 60), 1);
        due("no biscuit", x.when(1, 99, 0, 0), -11);
        due("counted", x.status(11), 1);
        // the one above: 13, 26, 38, 48 behind 1 to 4 SECONDS; 56 behind the fifth
        DunkedBiscuits y = one(0, 2, 0, 99, 0);
        due("wet above", y.wetness(0, 0, 0, 1, 1), 24);
        due("counted on over both", y.when(0, 0, 2, 58), y.when(0, 0, 60, 0));
        due("counted on over both", y.when(0, 0, 2, 58), y.when(0, 0, 0, 60));
        due("24, 42, 56", y.when(0, 0, 1, 2), 3);
        due("24, 42", y.when(0, 0, 1, 1), -1);
        // all stays for a long while in the dip, the carry still counts on: SOAK 0 of a COAT
        DunkedBiscuits z = one(1, 2, 0, 99, 56);
        z.ask(0, 0);
        due("first of all", z.when(0, 2, 60, 60), 1);
        DunkedBiscuits still = one(1, 2, 0, 99, 54);
        still.ask(0, 0);
        due("still in the dip, breaks in the carry", still.when(0, 2, 60, 60), 61);
    }

    private static void longest() {
        // SOAK 7: 49, 56 and hangs 1 + 49 / 20 = 3, 3 of 11, 4
        DunkedBiscuits x = one(0, 2, 0);
        due("holds 4 by hangs 3", x.longest(0, 2, 0), 8);
        due("left behind 8", x.left(0, 2, 8, 0), 2);
        due("left behind 9", x.left(0, 2, 9, 0), 1);
        due("dry", x.longest(0, 0, 60), 60);
        // SOAK 1: CELL 0 is 60 wet, and so hangs by 4, behind 60 SECONDS; the other holds 3 and hardly creeps
        DunkedBiscuits z = one(0, 2, 0, 0, 57);
        z.ask(0, 0);
        due("breaks in the last second", z.when(0, 1, 60, 0), 60);
        due("59", z.longest(0, 1, 0), 59);
        due("one cell", one(0, 1, 9).longest(0, 1, 60), 60);
        DunkedBiscuits y = one(0, 2, 0, 99, 56);
        due("without a carry", y.longest(0, 0, 0), 0);
        due("not even that", y.longest(0, 0, 1), -1);
        due("no biscuit", y.longest(1, 13, 0), -11);
        due("d", y.longest(0, 13, 0), -16);
        due("d", y.longest(0, -1, 0), -16);
        due("c", y.longest(0, 0, 61), -16);
        due("c", y.longest(0, 0, -1), -16);
        due("counted", y.status(16), 4);
    }

    private static void far() {
        DunkedBiscuits y = one(0, 2, 0, 99, 0);
        due("24, 42, 56", y.far(0, 0, 0), 2);
        due("24, 42, 56", y.far(0, 0, 1), 1);
        due("24, 42, 56", y.far(0, 0, 2), 0);
        due("24, 42, 56", y.far(0, 0, 3), -1);
        due("dry", one(0, 12, 0).far(0, 0, 60), 60);
        due("no biscuit", y.far(1, 13, 0), -11);
        due("d", y.far(0, 13, 0), -16);
        due("s", y.far(0, 0, 61), -16);
        due("s", y.far(0, 0, -1), -16);
        due("counted", y.status(11), 1);
        due("counted", y.status(16), 3);
    }

    private static void worth() {
        DunkedBiscuits x = one(0, 3, 0, 9, 10, 99);
        worths(x, 1, 2, 4, 8, 16, 32, 64, 0, 0, 99);
        due("worth", x.worth(0, 0, 0, 0), 102);
        due("of what is left", x.worth(0, 0, 1, 0), 99);
        due("no biscuit", x.worth(1, 99, 0, 0), -1);
    }

    private static void best() {
        DunkedBiscuits x = one(0, 3, 0);
        due("of several the least", x.best(0, 60, 0), 0);
        worths(x, 0, 0, 0, 5);
        // SOAK 7: 35 behind 5 SECONDS, in all three CELLS 3 deep
        due("all of them 30 to 39", x.best(0, 0, 0), 305);
        worths(x, 3, 0, 0, 5);
        due("all of them 30 to 39", x.best(0, 0, 0), 305);
        worths(x, 5);
        due("dry is as good", x.best(0, 0, 0), 0);
        due("no biscuit", x.best(1, 61, 2), -1);
        due("another turned", x.best(0, 61, 2), -5);
        due("another turned", x.best(0, 61, -1), -5);
        due("c", x.best(0, 61, 1), -6);
        due("c", x.best(0, -1, 0), -6);
        due("counted", x.status(15), 2);
        DunkedBiscuits y = one(1, 12, 0);
        y.ask(0, 19);
        worths(y, 0, 0, 0, 50);
        // SOAK 1: 30 behind 30 SECONDS
        due("30 seconds at most", y.best(0, 0, 0), 1230);
        worths(y, 0, 0, 0, 0, 50);
        due("not by 31", y.best(0, 0, 0), 0);
    }

    private static void bestTurned() {
        DunkedBiscuits x = one(0, 2, 0, 40, 0);
        worths(x, 0, 0, 0, 0, 50, 0);
        // turned: 0, 40; 1 deep 6 SECONDS: 42, 40
        due("turned", x.best(0, 0, 1), 106);
        due("not turned, of several the least", x.best(0, 0, 0), 0);
        due("is as it was", x.biscuitOf(0, 10), 40);
        DunkedBiscuits y = one(0, 2, 0, 0, 40);
        worths(y, 0, 0, 0, 0, 50, 0);
        due("not turned", y.best(0, 0, 0), 106);
    }

    private static void twice() {
        DunkedBiscuits x = one(0, 2, 0);
        worths(x, 1, 0, 10, 0, 0);
        // 28 and, by creep 0, 1, 3, 6: turned about 6 (3 SECONDS: 27) and 28 (creeps not)
        due("twice", x.twice(0, 1, 4, 1, 3), 20);
        due("not turned it would be", x.twice(0, 1, 4, 0, 0), 11);
        due("no biscuit", x.twice(1, 13, 0, 0, 0), -1);
        int[][] wrongs = {{13, 0, 0, 0}, {0, 61, 0, 0}, {0, 0, 13, 0}, {0, 0, 0, 61}, {-1, 0, 0, 0}, {0, -1, 0, 0},
            {0, 0, -1, 0}, {0, 0, 0, -1}};
        for (int[] w : wrongs) {
            due("twice -6", x.twice(0, w[0], w[1], w[2], w[3]), -6);
        }
        // broken in the first: the second by what is left, as deep as told
        DunkedBiscuits y = one(0, 4, 0, 0, 0, 60, 0);
        worths(y, 1, 0, 0, 0, 0, 0, 50);
        due("two are left, 15 and 60, turned", y.twice(0, 0, 1, 0, 0), 50);
        due("the second soaks both", y.twice(0, 0, 1, 12, 1), 50);
    }

    private static void goes() {
        DunkedBiscuits x = one(0, 3, 0, 95, 0, 0);
        due("none", x.goes(0, 0, 60), 0);
        due("as far as 99", x.goes(0, 1, 2), 4);
        due("creep is no soak", x.goes(0, 2, 1), 4 + 7);
        due("no biscuit", x.goes(1, 13, 0), -1);
        due("d", x.goes(0, 13, 0), -6);
        due("s", x.goes(0, 0, 61), -6);
        due("s", x.goes(0, 0, -1), -6);
        due("no tea left doesn't matter", x.ask(2, 0), 1000);
        due("as far as 99", x.goes(0, 1, 2), 4);
    }

    private static void goesBroken() {
        // 2 deep: 7 each, then CELL 2 holds 0 and both are gone: what they took counts
        DunkedBiscuits x = one(0, 3, 0, 0, 0, 60);
        due("ahead of its going", x.goes(0, 2, 1), 14);
        due("not besides", x.goes(0, 2, 60), 14);
        // 3 deep: 7 more each SECOND of the one that is left, up to 99
        due("one is left", x.goes(0, 3, 2), 28);
        due("one is left", x.goes(0, 3, 60), 14 + 39);
    }

    private static void plate() {
        DunkedBiscuits x = new DunkedBiscuits();
        due("no biscuits", x.plate(0, 0, 0, -1), 0);
        due("no biscuits", x.plate(0, 0, 0, 0), -5);
        // with LOSS 1 and 10 SECONDS between HEAT is 60, 50, 40: SOAK falls by 1 each
        x.ask(1, 1);
        x.biscuit(0, 1, 0);
        x.biscuit(0, 1, 1);
        x.biscuit(0, 1, 2);
        // SOAK of the three at their places: 7 6 5, 8 7 6, 9 8 7; in 10 SECONDS 10 times that
        worths(x, 0, 0, 0, 0, 0, 1, 2, 4, 8, 16);
        // 0 1 2: 4 4 4; 0 2 1: 4 8 2; 1 0 2: 8 2 4; 1 2 0: 8 8 1; 2 0 1: 16 2 2; 2 1 0: 16 4 1
        due("most", x.plate(1, 10, 0, -1), 21);
        due("first", x.plate(1, 10, 0, 0), 2);
        due("second", x.plate(1, 10, 0, 1), 1);
        due("third", x.plate(1, 10, 0, 2), 0);
        worths(x, 0, 0, 0, 0, 0, 4, 4, 4, 4, 4);
        due("of several the first", x.plate(1, 10, 0, 0), 0);
        due("of several the first", x.plate(1, 10, 0, 1), 1);
        due("of several the first", x.plate(1, 10, 0, 2), 2);
        // the carry counts for the time too: 5 SECONDS in, 5 out
        worths(x, 0, 0, 1, 2, 4, 8, 0, 0, 0, 0);
        // 5 times SOAK: 35 30 25, 40 35 30, 45 40 35; 0 2 1: 2 4 2, 1 0 2: 4 2 2, 1 2 0: 4 4 1, 2 1 0: 4 2 1
        due("most with a carry", x.plate(1, 5, 5, -1), 9);
        due("first", x.plate(1, 5, 5, 0), 1);
        due("second", x.plate(1, 5, 5, 1), 2);
        due("third", x.plate(1, 5, 5, 2), 0);
    }

    /** The worth of each at each place grows so that the last order of all has most. */
    private static void plateOfFive() {
        DunkedBiscuits x = new DunkedBiscuits();
        x.ask(0, 99);
        x.ask(1, 1);
        for (int b = 0; b < 5; b++) {
            x.biscuit(0, 1, b);
        }
        // SOAK 10 and b less the place, 5 SECONDS: 70, 60, 50, 40, 30; 10 wetter is worth thrice as much
        worths(x, 0, 0, 0, 1, 3, 9, 27, 81, 0, 0);
        due("most", x.plate(1, 5, 5, -1), 81 + 27 + 9 + 3 + 1);
        for (int i = 0; i < 5; i++) {
            due("place " + i, x.plate(1, 5, 5, i), 4 - i);
        }
    }

    private static void plateHeat() {
        DunkedBiscuits x = new DunkedBiscuits();
        x.biscuit(0, 1, 0);
        x.biscuit(0, 1, 0);
        x.carry(0, 19);
        worths(x, 1, 2);
        // one SECOND more and HEAT is 59: the second one soaks but 6 in a SECOND, 12 in two
        due("seconds go on from the beginning", x.plate(1, 1, 0, -1), 2);
        due("7 2s: 14 and 12", x.plate(1, 2, 0, -1), 4);
        x.ask(0, 0);
        x.ask(1, 1);
        due("heat 0 at least", x.plate(1, 10, 0, -1), 4);
        x.eats(1);
        due("one without cells has none", x.plate(1, 10, 0, -1), 2);
        due("and has its place", x.plate(1, 10, 0, 1), 1);
        due("heat stays", x.status(2), 0);
        due("seconds stay", x.status(7), 19);
    }

    private static void plateRefused() {
        DunkedBiscuits x = new DunkedBiscuits();
        for (int b = 0; b < 5; b++) {
            x.biscuit(0, 1, 0);
        }
        due("five", x.plate(12, 60, 60, 4), 4);
        due("-5 ahead of -6", x.plate(13, 61, 61, 5), -5);
        due("-5 ahead of -6", x.plate(13, 61, 61, -2), -5);
        due("d", x.plate(13, 0, 0, 0), -6);
        due("s", x.plate(0, 61, 0, 0), -6);
        due("c", x.plate(0, 0, 61, -1), -6);
        due("c", x.plate(0, 0, -1, -1), -6);
        x.biscuit(0, 1, 0);
        due("six", x.plate(0, 0, 0, -1), -6);
        due("six", x.plate(0, 0, 0, 5), -6);
        due("no seventh", x.plate(0, 0, 0, 6), -5);
        due("counted", x.status(15), 3);
        due("counted", x.status(16), 6);
    }

    private static void rule() {
        DunkedBiscuits x = one(0, 1, 0);
        due("none", new DunkedBiscuits().rule(99, 1, 12, 60), 0);
        worths(x, 1, 2, 4, 8, 16, 32, 64, 90, 91, 92);
        due("S 5 - 60 / 20 = 2", x.rule(5, 20, 1, 0), 2);
        due("S 5 - 60 / 19 = 2", x.rule(5, 19, 1, 0), 2);
        due("S 6 - 60 / 21 = 4", x.rule(6, 21, 1, 0), 4);
        due("S 0 at least", x.rule(0, 1, 1, 0), 1);
        x.ask(0, 0);
        due("S 60 at most, SOAK 1", x.rule(99, 1, 1, 0), 64);
        x.biscuit(0, 1, 0);
        due("of all", x.rule(99, 1, 1, 0), 128);
        int[][] wrongs = {{-1, 1, 0, 0}, {100, 1, 0, 0}, {0, 0, 0, 0}, {0, 100, 0, 0}, {0, 1, -1, 0}, {0, 1, 13, 0},
            {0, 1, 0, -1}, {0, 1, 0, 61}};
        for (int[] w : wrongs) {
            due("rule -6", x.rule(w[0], w[1], w[2], w[3]), -6);
        }
        due("counted", x.status(16), 8);
        // with a carry it breaks
        DunkedBiscuits y = one(0, 2, 0, 99, 56);
        worths(y, 1, 1, 1, 1, 1, 1, 1, 1, 1, 1);
        due("no carry", y.rule(0, 1, 0, 0), 2);
        due("a carry", y.rule(0, 1, 0, 1), 1);
    }

    private static void back() {
        DunkedBiscuits x = one(0, 2, 0, 33, 44);
        row(x, 0, 0, 14, 14);
        due("from all dry", x.back(0, 0, 2), 1L << 2);
        due("deep as all", x.back(0, 0, 12), 1L << 2);
        due("not so", x.back(0, 0, 1), 0);
        row(x, 0, 0, 0, 0);
        due("at once", x.back(0, 0, 2), 1);
        due("never wet", x.back(0, 0, 0), (1L << 61) - 1);
        row(x, 0, 3, 7 + (5L << 32), 7 - (1L << 40), 99);
        due("lowest bits; others behind don't matter", x.back(0, 0, 2), 2);
        DunkedBiscuits y = one(0, 1, 9);
        row(y, 0, 1, 99);
        // SOAK 16: 99 from the seventh SECOND on
        due("up to 60", y.back(0, 0, 1), ((1L << 61) - 1) - ((1L << 7) - 1));
        // 63, 63 would be so behind 9, but then it breaks
        DunkedBiscuits z = one(0, 2, 0);
        row(z, 0, 0, 63, 63);
        due("none being gone", z.back(0, 0, 2), 0);
        row(z, 0, 0, 56, 56);
        due("none being gone", z.back(0, 0, 2), 1L << 8);
    }

    private static void backRefused() {
        DunkedBiscuits x = one(0, 2, 0);
        x.show(1, 0);
        x.row(0, 2, 1);
        due("no biscuit", x.back(1, 1, 13), -1);
        due("no shelf", x.back(0, 8, 13), -1);
        due("a biscuit", x.back(0, 1, 13), -2);
        due("nothing", x.back(0, 2, 13), -3);
        due("too few", x.back(0, 0, 13), -5);
        x.row(0, 2, 2);
        due("d", x.back(0, 0, 13), -6);
        due("d", x.back(0, 0, -1), -6);
        int[] counted = {2, 1, 1, 0, 1, 2, 0};
        for (int i = 0; i < 7; i++) {
            due("counted " + i, x.status(11 + i), counted[i]);
        }
    }

    private static void heats() {
        DunkedBiscuits x = one(0, 2, 0, 33, 44);
        row(x, 0, 0, 14, 14);
        due("SOAK 7", x.heats(0, 0, 2, 2), 60);
        due("SOAK 2", x.heats(0, 0, 2, 7), 10);
        due("SOAK 1", x.heats(0, 0, 2, 14), 0);
        due("no SOAK", x.heats(0, 0, 2, 3), -1);
        due("at once", x.heats(0, 0, 2, 0), -1);
        row(x, 0, 0, 0, 0);
        due("at once", x.heats(0, 0, 2, 0), 0);
        row(x, 0, 0, 10, 10);
        due("SOAK 10", x.heats(0, 0, 2, 1), 90);
        due("heat stays", x.status(2), 60);
        row(x, 0, 0, 60, 60);
        due("none being gone: 60 breaks", x.heats(0, 0, 2, 60), -1);
        DunkedBiscuits y = one(1, 1, 0);
        row(y, 0, 3, 2 + (1L << 33));
        // halves of 4 and 5 are 2: HEAT 30 is the least
        due("the least", y.heats(0, 0, 1, 1), 30);
        row(y, 0, 3, 0);
        due("half of 1 is 0", y.heats(0, 0, 1, 60), 0);
    }

    private static void heatsRefused() {
        DunkedBiscuits x = one(0, 2, 0);
        x.show(1, 0);
        x.row(0, 2, 1);
        due("no biscuit", x.heats(1, 1, 13, 61), -11);
        due("no shelf", x.heats(0, -1, 13, 61), -11);
        due("a biscuit", x.heats(0, 1, 13, 61), -12);
        due("nothing", x.heats(0, 2, 13, 61), -13);
        due("too few", x.heats(0, 0, 13, 61), -15);
        x.row(0, 2, 2);
        due("d", x.heats(0, 0, 13, 0), -16);
        due("t", x.heats(0, 0, 0, 61), -16);
        due("t", x.heats(0, 0, 0, -1), -16);
        int[] counted = {2, 1, 1, 0, 1, 3, 0};
        for (int i = 0; i < 7; i++) {
            due("counted " + i, x.status(11 + i), counted[i]);
        }
    }

    private static void fetch() {
        DunkedBiscuits x = new DunkedBiscuits();
        due("none", x.fetch(1, 0), 0);
        x.biscuit(0, 2, 0);
        x.biscuit(0, 1, 0);
        x.biscuit(1, 3, 0);
        x.biscuit(0, 2, 0);
        wets(x, 3, 99, 56);
        due("all", x.fetch(1, 0), 15);
        due("not the broken one", x.fetch(1, 1), 7);
        due("as many cells", x.fetch(2, 8), 5);
        due("the coat alone", x.fetch(2, 9), 4);
        due("three cells", x.fetch(3, 0), 4);
        due("four", x.fetch(4, 0), 0);
        int[][] wrongs = {{0, 0}, {13, 0}, {1, -1}, {1, 61}};
        for (int[] w : wrongs) {
            due("fetch -6", x.fetch(w[0], w[1]), -6);
        }
        due("counted", x.status(16), 4);
    }

    private static void withoutCells() {
        DunkedBiscuits x = one(2, 5, 3, 99, 99, 99, 99, 99);
        worths(x, 9, 9, 9, 9, 9, 9, 9, 9, 9, 9);
        due("eaten", x.eats(0), 45);
        due("left", x.left(0, 12, 60, 60), 0);
        due("wetness", x.wetness(0, 1, 1, 1, 0), -5);
        due("when", x.when(0, 12, 60, 60), -1);
        due("longest", x.longest(0, 12, 60), 60);
        due("far", x.far(0, 12, 60), 60);
        due("worth", x.worth(0, 12, 60, 60), 0);
        due("best", x.best(0, 60, 0), 0);
        due("best turned", x.best(0, 60, 1), 0);
        due("twice", x.twice(0, 1, 1, 1, 1), 0);
        due("goes", x.goes(0, 12, 60), 0);
        due("plate", x.plate(1, 1, 1, -1), 0);
        due("plate", x.plate(1, 1, 1, 0), 0);
        due("rule", x.rule(99, 1, 12, 60), 0);
        due("fetch", x.fetch(1, 0), 0);
        x.row(0, 0, 0);
        due("back: all bits", x.back(0, 0, 12), (1L << 61) - 1);
        due("heats", x.heats(0, 0, 12, 60), 0);
        due("turn", x.turn(0), 0);
    }

    private static void nothingChanges() {
        DunkedBiscuits x = one(0, 5, 0, 10, 20, 30, 40, 50);
        x.row(0, 0, 5);
        x.left(0, 5, 60, 60);
        x.best(0, 60, 1);
        x.twice(0, 5, 60, 5, 60);
        x.plate(5, 60, 60, 0);
        x.rule(99, 1, 5, 60);
        x.back(0, 0, 5);
        x.heats(0, 0, 5, 60);
        x.fetch(5, 60);
        x.goes(0, 5, 60);
        for (int i = 0; i < 5; i++) {
            due("cell " + i, x.biscuitOf(0, 10 + i), 10 * (i + 1));
        }
        long[] stays = {1, 5, 60, 20, 1000, 0, 0, 0, 1};
        for (int what = 0; what < stays.length; what++) {
            due("status " + what, x.status(what), stays[what]);
        }
    }
}
