/**
 * Each sentence of "2. A SECOND", of the Details on it, and of promises 16 to 21, that names a boundary case, by a
 * test of its own, worked out by hand.
 */
public final class SecondSentencesTest {
    private static final int BISCUIT = 0;
    private static final int COAT = 1;
    private static final int HOLE = 2;
    private static final int SUGAR = 3;
    private static final int RUSK = 4;
    private static final int PAIR = 5;
    private static final int STALE = 6;

    private static int wrong = 0;
    private static String sentence = "";

    private static void due(long got, long want) {
        if (got != want) {
            wrong++;
            System.out.println(sentence + ": " + got + ", due is " + want);
        }
    }

    public static void main(String[] args) {
        aTenthOfHeatCut();
        aCoatSoaksHalfCut();
        theMiddleCell();
        theMiddleByCellsAsTheyAre();
        aRuskSoaksTwice();
        creepsAQuarterCut();
        sugarCreepsHalfCut();
        soaksBelowTheDepth();
        cellNoughtDoesNotCreep();
        noCreepIfNotWetter();
        allByWhatTheyWere();
        ninetyNineAtMost();
        outOfItNothingSoaks();
        holdsBelowNought();
        pairAndStaleHoldMore();
        eachBelowHangsByItself();
        breaksWhenMoreHangs();
        breaksAtTheLowest();
        neverAtNought();
        restBeginsAtTheBreak();
        lessDeepByWhatIsGone();
        depthNoughtAtLeast();
        depthOfAllCells();
        leastAndMostOfADip();
        leastAndMostOfACarry();
        behindEachSecond();
        onceASecond();
        heatStays();
        theCarryIsBehindTheDip();
        whenCountsOn();
        System.out.println(wrong == 0 ? "sentences of seconds: as due" : "sentences of seconds: " + wrong + " not as due");
        if (wrong != 0) {
            System.exit(1);
        }
    }

    private static DunkedBiscuits one(int kind, int cells, int a, int... wets) {
        DunkedBiscuits x = new DunkedBiscuits();
        x.biscuit(kind, cells, a);
        for (int i = 0; i < wets.length; i++) {
            x.wet(0, i, wets[i]);
        }
        return x;
    }

    /** What is left behind a DIP and a CARRY is just so wet. */
    private static void behind(DunkedBiscuits x, int d, int s, int c, int... wets) {
        due(x.left(0, d, s, c), wets.length);
        for (int i = 0; i < wets.length; i++) {
            due(x.wetness(0, d, s, c, i), wets[i]);
        }
        due(x.wetness(0, d, s, c, wets.length), -5);
    }

    private static int soakBy(DunkedBiscuits x, int heat, int cell) {
        x.ask(0, heat);
        return x.soak(0, cell);
    }

    // ---- SOAK

    private static void aTenthOfHeatCut() {
        sentence = "SOAK of a CELL by HEAT: 1 and a and a tenth of HEAT (cut)";
        DunkedBiscuits x = one(BISCUIT, 2, 0);
        due(soakBy(x, 0, 0), 1);
        due(soakBy(x, 9, 0), 1);
        due(soakBy(x, 10, 0), 2);
        due(soakBy(x, 19, 1), 2);
        due(soakBy(x, 90, 1), 10);
        due(soakBy(x, 99, 1), 10);
        DunkedBiscuits y = one(BISCUIT, 2, 9);
        due(soakBy(y, 0, 0), 10);
        due(soakBy(y, 99, 0), 19);
    }

    private static void aCoatSoaksHalfCut() {
        sentence = "COAT (SUGAR): half of that (cut)";
        for (int kind : new int[] {COAT, SUGAR}) {
            DunkedBiscuits x = one(kind, 3, 0);
            due(soakBy(x, 0, 0), 0);
            due(soakBy(x, 10, 0), 1);
            due(soakBy(x, 20, 1), 1);
            due(soakBy(x, 30, 2), 2);
            x.ask(0, 0);
            behind(x, 3, 60, 0, 0, 0, 0);
        }
    }

    private static void theMiddleCell() {
        sentence = "HOLE (PAIR): of the middle CELL (CELLS by 2, cut) twice that";
        for (int kind : new int[] {HOLE, PAIR}) {
            for (int cells = 1; cells <= 12; cells++) {
                DunkedBiscuits x = one(kind, cells, 1);
                for (int cell = 0; cell < cells; cell++) {
                    due(x.soak(0, cell), cell == cells / 2 ? 16 : 8);
                }
            }
        }
        sentence = "of one CELL it is that one";
        due(one(HOLE, 1, 0).soak(0, 0), 14);
        due(one(PAIR, 1, 0).wetness(0, 1, 1, 0, 0), 14);
    }

    private static void theMiddleByCellsAsTheyAre() {
        sentence = "The middle CELL goes by the CELLS there are now";
        // SOAK 1; breaks at 2 behind the first SECOND: of 5 CELLS the one in the middle was 2, of 3 it is 1
        DunkedBiscuits x = one(HOLE, 5, 0, 0, 0, 70, 0, 0);
        x.ask(0, 0);
        behind(x, 5, 1, 0, 72, 1, 1);
        behind(x, 5, 2, 0, 73, 3, 2);
        DunkedBiscuits y = one(HOLE, 5, 0, 0, 0, 70, 0, 0);
        due(y.soak(0, 2), 14);
        due(y.soak(0, 1), 7);
        due(y.dip(0, 0, 1), 2);
        due(y.soak(0, 1), 14);
        due(y.soak(0, 2), 7);
        due(y.soak(0, 3), -1);
    }

    private static void aRuskSoaksTwice() {
        sentence = "RUSK (STALE): twice that";
        for (int kind : new int[] {RUSK, STALE}) {
            DunkedBiscuits x = one(kind, 3, 0);
            due(soakBy(x, 0, 0), 2);
            due(soakBy(x, 99, 1), 20);
            DunkedBiscuits y = one(kind, 3, 9);
            due(soakBy(y, 99, 2), 38);
        }
    }

    // ---- CREEP

    private static void creepsAQuarterCut() {
        sentence = "CREEP: a quarter of how much wetter the CELL below is (cut)";
        int[][] pairs = {{3, 0, 0}, {4, 0, 1}, {7, 0, 1}, {8, 0, 2}, {13, 10, 10}, {14, 10, 11}, {99, 0, 24},
            {99, 96, 96}, {99, 95, 96}};
        for (int kind : new int[] {BISCUIT, COAT, HOLE, RUSK, PAIR, STALE}) {
            for (int[] p : pairs) {
                if (p[1] < 60) {
                    due(one(kind, 2, 0, p[0], p[1]).wetness(0, 0, 1, 0, 1), p[2]);
                }
            }
        }
        due(one(PAIR, 2, 0, 99, 94).wetness(0, 0, 0, 1, 1), 95);
    }

    private static void sugarCreepsHalfCut() {
        sentence = "SUGAR: half of how much wetter it is (cut)";
        int[][] pairs = {{1, 0, 0}, {2, 0, 1}, {3, 0, 1}, {4, 0, 2}, {99, 0, 49}, {12, 11, 11}, {13, 11, 12}};
        for (int[] p : pairs) {
            due(one(SUGAR, 2, 0, p[0], p[1]).wetness(0, 0, 1, 0, 1), p[2]);
        }
    }

    private static void soaksBelowTheDepth() {
        sentence = "each CELL below D is by SOAK wetter, each at or above D by CREEP";
        DunkedBiscuits x = one(BISCUIT, 4, 0, 20, 20, 20, 0);
        behind(x, 0, 1, 0, 20, 20, 20, 5);
        behind(x, 1, 1, 0, 27, 20, 20, 5);
        behind(x, 2, 1, 0, 27, 27, 20, 5);
        behind(x, 3, 1, 0, 27, 27, 27, 5);
        behind(x, 4, 1, 0, 27, 27, 27, 7);
        // in the tea there is SOAK alone, no CREEP besides
        behind(one(BISCUIT, 2, 0, 50, 0), 2, 1, 0, 57, 7);
    }

    private static void cellNoughtDoesNotCreep() {
        sentence = "by CREEP (0 for CELL 0)";
        behind(one(BISCUIT, 2, 0, 50, 50), 0, 60, 0, 50, 50);
        behind(one(SUGAR, 1, 0, 50), 0, 0, 60, 50);
        behind(one(SUGAR, 1, 0, 0), 0, 0, 60, 0);
    }

    private static void noCreepIfNotWetter() {
        sentence = "by CREEP (0 .. if the one below isn't wetter)";
        behind(one(BISCUIT, 3, 0, 10, 50, 50), 0, 1, 0, 10, 50, 50);
        behind(one(SUGAR, 3, 0, 0, 50, 50), 0, 0, 1, 0, 50, 50);
        behind(one(SUGAR, 2, 0, 0, 2), 0, 0, 60, 0, 2);
    }

    private static void allByWhatTheyWere() {
        sentence = "all by what they were ahead";
        behind(one(BISCUIT, 3, 0, 40, 0, 0), 0, 1, 0, 40, 10, 0);
        behind(one(BISCUIT, 3, 0, 40, 0, 0), 0, 2, 0, 40, 17, 2);
        behind(one(SUGAR, 3, 0, 40, 20, 0), 0, 0, 1, 40, 30, 10);
        // CELL 0 is 1 and 8 wet ahead of the SECONDS in which the other creeps
        behind(one(BISCUIT, 2, 0, 1, 0), 1, 1, 0, 8, 0);
        behind(one(BISCUIT, 2, 0, 1, 0), 1, 2, 0, 15, 2);
    }

    private static void ninetyNineAtMost() {
        sentence = "(99 at most)";
        behind(one(BISCUIT, 1, 0, 91), 1, 1, 0, 98);
        behind(one(BISCUIT, 1, 0, 92), 1, 1, 0, 99);
        behind(one(BISCUIT, 1, 0, 93), 1, 1, 0, 99);
        behind(one(BISCUIT, 1, 0, 99), 1, 60, 60, 99);
        behind(one(RUSK, 1, 9, 0), 12, 60, 0, 99);
    }

    private static void outOfItNothingSoaks() {
        sentence = "Out of it: D is 0";
        behind(one(BISCUIT, 3, 9, 5, 5, 5), 3, 0, 60, 5, 5, 5);
        behind(one(BISCUIT, 3, 9, 0, 0, 0), 3, 1, 1, 16, 16, 16);
        // by CREEP 0, 1, 4, 8, then (28 - 8) / 4 more
        behind(one(BISCUIT, 2, 0, 0, 0), 1, 4, 1, 28, 13);
    }

    // ---- HOLDS, HANGS, BREAKS

    private static void holdsBelowNought() {
        sentence = "HOLDS of a CELL: 60 less what it is WET (it may be below 0)";
        int[][] held = {{0, 60}, {59, 1}, {60, 0}, {61, -1}, {99, -39}};
        for (int kind : new int[] {BISCUIT, COAT, HOLE, SUGAR, RUSK}) {
            for (int[] h : held) {
                due(one(kind, 1, 9, h[0]).cellOf(0, 0, 0), h[1]);
            }
        }
    }

    private static void pairAndStaleHoldMore() {
        sentence = "PAIR: 40 more; STALE: a more";
        due(one(PAIR, 1, 9, 0).cellOf(0, 0, 0), 100);
        due(one(PAIR, 1, 9, 99).cellOf(0, 0, 0), 1);
        due(one(STALE, 1, 0, 0).cellOf(0, 0, 0), 60);
        due(one(STALE, 1, 9, 0).cellOf(0, 0, 0), 69);
        due(one(STALE, 1, 9, 99).cellOf(0, 0, 0), -30);
    }

    private static void eachBelowHangsByItself() {
        sentence = "Each CELL below hangs by itself, cut by itself";
        DunkedBiscuits x = one(BISCUIT, 5, 0, 19, 20, 39, 40, 99);
        due(x.cellOf(0, 0, 1), 0);
        due(x.cellOf(0, 1, 1), 1);
        due(x.cellOf(0, 2, 1), 3);
        due(x.cellOf(0, 3, 1), 5);
        due(x.cellOf(0, 4, 1), 8);
        DunkedBiscuits y = one(PAIR, 12, 0, 99, 99, 99, 99, 99, 99, 99, 99, 99, 99, 99, 99);
        due(y.cellOf(0, 11, 1), 55);
        due(one(BISCUIT, 12, 0).cellOf(0, 11, 1), 11);
    }

    private static void breaksWhenMoreHangs() {
        sentence = "on which more HANGS than it HOLDS";
        // on CELL 1 hangs 1, 2, 5
        int[][] last = {{0, 59}, {19, 59}, {20, 58}, {99, 55}};
        for (int[] l : last) {
            due(one(BISCUIT, 2, 0, l[0], l[1]).breaks(0), -1);
            due(one(BISCUIT, 2, 0, l[0], l[1] + 1).breaks(0), 1);
            due(one(PAIR, 2, 0, l[0], 99).breaks(0), l[0] < 20 ? -1 : 1);
            due(one(STALE, 2, 9, l[0], l[1] + 9).breaks(0), -1);
            due(one(STALE, 2, 9, l[0], l[1] + 10).breaks(0), 1);
        }
    }

    private static void breaksAtTheLowest() {
        sentence = "It BREAKS at the lowest CELL";
        due(one(BISCUIT, 5, 0, 0, 99, 99, 99, 99).breaks(0), 1);
        due(one(BISCUIT, 5, 0, 0, 0, 0, 99, 99).breaks(0), 3);
        due(one(BISCUIT, 5, 0, 0, 0, 0, 0, 99).breaks(0), 4);
        due(one(BISCUIT, 12, 0, 0, 0, 0, 0, 0, 0, 0, 0, 0, 0, 0, 99).breaks(0), 11);
    }

    private static void neverAtNought() {
        sentence = "(not 0)";
        due(one(BISCUIT, 1, 0, 99).breaks(0), -1);
        behind(one(BISCUIT, 1, 0, 99), 1, 60, 60, 99);
        due(one(BISCUIT, 3, 0, 99, 0, 0).breaks(0), -1);
        due(one(BISCUIT, 2, 0, 99, 99).breaks(0), 1);
    }

    private static void restBeginsAtTheBreak() {
        sentence = "all CELLS below are gone (what is left begins with 0 there)";
        behind(one(BISCUIT, 5, 0, 4, 3, 2, 61, 60), 0, 1, 0, 61, 60);
        behind(one(BISCUIT, 4, 0, 0, 0, 0, 99), 0, 0, 1, 99);
        behind(one(BISCUIT, 4, 0, 0, 60, 50, 40), 0, 1, 0, 60, 52, 42);
    }

    private static void lessDeepByWhatIsGone() {
        sentence = "and is as many CELLS less deep";
        // HEAT 0: SOAK 1; 3 deep, behind the break at 2 but 1 deep
        DunkedBiscuits x = one(BISCUIT, 5, 0, 0, 0, 70, 60, 60);
        x.ask(0, 0);
        due(x.when(0, 3, 60, 0), 1);
        behind(x, 3, 1, 0, 71, 62, 60);
        DunkedBiscuits y = one(BISCUIT, 5, 0, 0, 0, 70, 0, 0);
        y.ask(0, 0);
        behind(y, 3, 1, 0, 71, 17, 0);
        // 1 deep: CELL 0 soaks, the others creep: (71 - 17) / 4 and 17 / 4
        behind(y, 3, 2, 0, 72, 30, 4);
    }

    private static void depthNoughtAtLeast() {
        sentence = "as many CELLS less deep, 0 at least";
        DunkedBiscuits x = one(BISCUIT, 3, 0, 0, 0, 70);
        behind(x, 1, 60, 0, 70);
        behind(x, 2, 60, 0, 70);
        DunkedBiscuits y = one(BISCUIT, 3, 0, 0, 0, 70);
        y.ask(0, 0);
        behind(y, 3, 3, 0, 73);
    }

    private static void depthOfAllCells() {
        sentence = "D above CELLS is taken as all of them";
        // breaks at 2 of 3: what is left of 3 is 1, of 12 it would be 10
        DunkedBiscuits x = one(BISCUIT, 4, 0, 0, 0, 70, 50);
        x.ask(0, 0);
        for (int d : new int[] {4, 5, 12}) {
            behind(x, d, 1, 0, 71, 51);
            behind(x, d, 3, 0, 73, 53);
        }
        DunkedBiscuits y = one(BISCUIT, 1, 0);
        due(y.goes(0, 12, 2), 14);
        due(y.goes(0, 1, 2), 14);
    }

    // ---- DIP and CARRY

    private static void leastAndMostOfADip() {
        sentence = "A DIP (D 0 to 12, S 0 to 60)";
        DunkedBiscuits x = one(COAT, 12, 0);
        x.ask(0, 10);
        // SOAK 1
        due(x.wetness(0, 0, 60, 0, 0), 0);
        due(x.wetness(0, 12, 0, 0, 0), 0);
        due(x.wetness(0, 12, 1, 0, 11), 1);
        due(x.left(0, -1, 0, 0), -6);
        due(x.left(0, 13, 0, 0), -6);
        due(x.left(0, 0, -1, 0), -6);
        due(x.left(0, 0, 61, 0), -6);
        DunkedBiscuits y = one(BISCUIT, 1, 0);
        y.ask(0, 0);
        behind(y, 1, 59, 0, 59);
        behind(y, 1, 60, 0, 60);
    }

    private static void leastAndMostOfACarry() {
        sentence = "A CARRY of c SECONDS (0 to 60)";
        DunkedBiscuits x = one(BISCUIT, 2, 0, 40, 0);
        behind(x, 0, 0, 0, 40, 0);
        behind(x, 0, 0, 1, 40, 10);
        behind(x, 0, 0, 60, 40, 37);
        due(x.left(0, 0, 0, -1), -6);
        due(x.left(0, 0, 0, 61), -6);
        // 12 CELLS: by c the wet comes c CELLS up
        DunkedBiscuits y = one(SUGAR, 12, 0, 40);
        due(y.wetness(0, 0, 0, 3, 3), 5);
        due(y.wetness(0, 0, 0, 3, 4), 0);
    }

    private static void behindEachSecond() {
        sentence = "behind each SECOND it may BREAK";
        DunkedBiscuits x = one(BISCUIT, 2, 0, 0, 70);
        due(x.breaks(0), 1);
        behind(x, 0, 0, 0, 0, 70);
        due(x.when(0, 0, 0, 0), -1);
        behind(x, 0, 1, 0, 70);
        behind(x, 0, 0, 1, 70);
        due(x.when(0, 0, 1, 0), 1);
        due(x.when(0, 0, 0, 1), 1);
    }

    private static void onceASecond() {
        sentence = "It BREAKS once a SECOND at most";
        DunkedBiscuits x = one(BISCUIT, 5, 0, 0, 70, 70, 70, 70);
        behind(x, 0, 1, 0, 70, 70, 70, 70);
        behind(x, 0, 2, 0, 70, 70, 70);
        behind(x, 0, 2, 1, 70, 70);
        behind(x, 0, 0, 4, 70);
        behind(x, 0, 60, 60, 70);
        due(x.when(0, 0, 60, 60), 1);
        due(x.dip(0, 0, 2), 2);
        due(x.carry(0, 1), 1);
    }

    private static void heatStays() {
        sentence = "(HEAT stays as it is for it.)";
        DunkedBiscuits x = one(BISCUIT, 1, 0);
        x.ask(0, 10);
        x.ask(1, 1);
        behind(x, 1, 10, 0, 20);
        due(x.goes(0, 1, 10), 20);
        due(x.twice(0, 1, 5, 1, 5), 0);
        due(x.dip(0, 1, 10), 0);
        due(x.biscuitOf(0, 10), 20);
        due(x.status(2), 0);
        due(x.dip(0, 1, 10), 0);
        due(x.biscuitOf(0, 10), 30);
    }

    private static void theCarryIsBehindTheDip() {
        sentence = "a CARRY: likewise, out of it";
        DunkedBiscuits x = one(BISCUIT, 3, 0);
        // 7, 14, 21, 28 and by CREEP 0, 1, 4, 8; 0, 0, 0, 1; then (28 - 8) / 4, (8 - 1) / 4
        behind(x, 1, 4, 0, 28, 8, 1);
        behind(x, 1, 4, 1, 28, 13, 2);
        behind(x, 1, 4, 2, 28, 16, 4);
    }

    private static void whenCountsOn() {
        sentence = "The SECOND (1 on, DIP and CARRY counted on) in which it BREAKS first; NONE";
        // 24, 42, 56, 66: breaks behind the third, once alone
        DunkedBiscuits x = one(BISCUIT, 2, 0, 99, 0);
        for (int s = 0; s <= 4; s++) {
            due(x.when(0, 0, s, 3 - Math.min(s, 3)), 3);
            due(x.when(0, 0, s, 60), 3);
        }
        due(x.when(0, 0, 2, 0), -1);
        due(x.when(0, 0, 1, 1), -1);
        due(x.when(0, 0, 0, 2), -1);
        // HEAT 0: SOAK 1; a COAT, that soaks nothing, breaks in the CARRY alone
        DunkedBiscuits y = one(BISCUIT, 2, 0, 0, 0);
        y.ask(0, 0);
        // 57 wet it holds 3, and 3 hangs on it
        due(y.when(0, 2, 60, 60), 58);
        DunkedBiscuits z = one(COAT, 2, 0, 99, 0);
        z.ask(0, 0);
        due(z.when(0, 2, 60, 60), 63);
        due(z.when(0, 2, 60, 2), -1);
        // first, though it breaks again
        due(one(BISCUIT, 3, 0, 0, 70, 70).when(0, 0, 60, 60), 1);
    }
}
