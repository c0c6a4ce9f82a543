/**
 * Each sentence of "3. WHAT COMES OF IT", of the Details on it, and of promises 22 to 43, that names a boundary case,
 * by a test of its own, worked out by hand; what is refused, and in what order, is tested in RefusalsTest.
 */
public final class OutcomeSentencesTest {
    private static final int BISCUIT = 0;
    private static final int COAT = 1;
    private static final int HOLE = 2;
    private static final int SUGAR = 3;
    private static final int RUSK = 4;
    private static final int STALE = 6;
    /** A bit for each S from 0 to 60. */
    private static final long ALL_SECONDS = (1L << 61) - 1;

    private static int wrong = 0;
    private static String sentence = "";

    private static void due(long got, long want) {
        if (got != want) {
            wrong++;
            System.out.println(sentence + ": " + got + ", due is " + want);
        }
    }

    public static void main(String[] args) {
        longestFromNoneToSixty();
        farFromNoneToSixty();
        worthOfWhatIsLeft();
        carriedWorth();
        bestDepths();
        bestSeconds();
        bestOfSeveral();
        bestTurned();
        twiceTurnedBetween();
        twiceByWhatIsLeft();
        goesAsFarAsTheMost();
        goesNotBesides();
        plateOfNoneAndOfFive();
        plateOfSeveralTheFirst();
        plateHeatStaysForEach();
        plateGoesOnBySeconds();
        plateHeatNoughtAtLeast();
        plateWithoutCells();
        ruleCut();
        ruleNoughtAndSixty();
        ruleOfAll();
        backNoughtToSixty();
        backFromAllDry();
        backNoneBeingGone();
        backElementsBehindCells();
        heatsLeast();
        heatsNone();
        fetchAtLeast();
        fetchThatDeep();
        withoutCells();
        teaNoughtAtLeast();
        sludgeByDipsAlone();
        byHeatAtItsBeginning();
        heatEachLossSeconds();
        lossAsItIsThen();
        eaten();
        turnedAbout();
        teasOneToTwenty();
        teasDraw();
        drawsWrapAndHaveNoSign();
        seedIsAnyInt();
        actsWrap();
        noTraceThen();
        imageAndRestore();
        imageOfNone();
        shelvesOfAnImage();
        statusOfWhat();
        System.out.println(wrong == 0 ? "sentences of outcomes: as due" : "sentences of outcomes: " + wrong + " not as due");
        if (wrong != 0) {
            System.exit(1);
        }
    }

    private static DunkedBiscuits one(int kind, int cells, int a, int... wets) {
        DunkedBiscuits x = new DunkedBiscuits();
        add(x, kind, cells, a, wets);
        return x;
    }

    private static void add(DunkedBiscuits x, int kind, int cells, int a, int... wets) {
        int b = x.biscuit(kind, cells, a);
        for (int i = 0; i < wets.length; i++) {
            x.wet(b, i, wets[i]);
        }
    }

    private static void worths(DunkedBiscuits x, int... worths) {
        for (int w = 0; w < worths.length; w++) {
            x.worthOf(w, worths[w]);
        }
    }

    private static void row(DunkedBiscuits x, int s, int... values) {
        x.row(s, 2, values.length);
        for (int i = 0; i < values.length; i++) {
            x.set(s, i, values[i]);
        }
    }

    private static void plate(DunkedBiscuits x, int d, int s, int c, int worth, int... order) {
        due(x.plate(d, s, c, -1), worth);
        for (int i = 0; i < order.length; i++) {
            due(x.plate(d, s, c, i), order[i]);
        }
    }

    // ---- LONGEST, FAR

    private static void longestFromNoneToSixty() {
        sentence = "LONGEST for D and c: the greatest S (0 to 60) with which it is WHOLE; NONE";
        // 99, 0: 24, 42, 56; breaks behind the third SECOND
        DunkedBiscuits x = one(BISCUIT, 2, 0, 99, 0);
        due(x.longest(0, 0, 0), 2);
        due(x.longest(0, 0, 1), 1);
        due(x.longest(0, 0, 2), 0);
        due(x.longest(0, 0, 3), -1);
        due(x.longest(0, 0, 60), -1);
        // SOAK 1: 57 wet holds 3 and hangs 3, 58 wet breaks
        DunkedBiscuits y = one(BISCUIT, 2, 0);
        y.ask(0, 0);
        due(y.longest(0, 2, 60), 57);
        due(y.longest(0, 12, 0), 57);
        due(one(BISCUIT, 12, 9).longest(0, 0, 60), 60);
        due(one(BISCUIT, 1, 9).longest(0, 12, 60), 60);
        // breaks in SECOND 60 and would in 61
        DunkedBiscuits z = one(BISCUIT, 2, 0, 0, 57);
        z.ask(0, 0);
        due(z.when(0, 1, 60, 0), 60);
        due(z.longest(0, 1, 0), 59);
        z.wet(0, 1, 56);
        due(z.longest(0, 1, 0), 60);
    }

    private static void farFromNoneToSixty() {
        sentence = "FAR for D and S: the greatest c likewise";
        DunkedBiscuits x = one(BISCUIT, 2, 0, 99, 0);
        due(x.far(0, 0, 0), 2);
        due(x.far(0, 0, 1), 1);
        due(x.far(0, 0, 2), 0);
        due(x.far(0, 0, 3), -1);
        due(x.far(0, 0, 60), -1);
        due(x.far(0, 1, 2), 0);
        due(one(BISCUIT, 12, 0).far(0, 12, 8), -1);
        due(one(BISCUIT, 12, 0).far(0, 0, 60), 60);
        due(one(BISCUIT, 1, 9).far(0, 12, 60), 60);
        due(one(BISCUIT, 2, 0, 40, 0).far(0, 0, 0), 60);
    }

    // ---- WORTH, BEST, TWICE

    private static void worthOfWhatIsLeft() {
        sentence = "WORTHS of all CELLS that are left together";
        DunkedBiscuits x = one(BISCUIT, 3, 0, 9, 70, 99);
        worths(x, 1, 2, 4, 8, 16, 32, 64, 10, 20, 99);
        due(x.worth(0, 0, 0, 0), 1 + 10 + 99);
        due(x.worth(0, 0, 1, 0), 10 + 99);
        due(x.worth(0, 0, 1, 1), 99);
    }

    private static void bestDepths() {
        sentence = "BEST for c: D (0 to CELLS)";
        // 5 SECONDS by SOAK 7: 35, worth 1; a CELL that isn't in the tea creeps to less
        DunkedBiscuits x = one(BISCUIT, 12, 0);
        x.worthOf(3, 1);
        due(x.best(0, 0, 0), 1205);
        DunkedBiscuits y = one(BISCUIT, 1, 0);
        y.worthOf(3, 1);
        due(y.best(0, 60, 0), 105);
        // dry is worth most
        DunkedBiscuits z = one(BISCUIT, 12, 0);
        z.worthOf(0, 1);
        due(z.best(0, 60, 0), 0);
        due(z.best(0, 60, 1), 0);
    }

    private static void bestSeconds() {
        sentence = "BEST for c: S (0 to 30)";
        // SOAK 1
        for (int wet = 0; wet <= 1; wet++) {
            DunkedBiscuits x = one(BISCUIT, 1, 0, wet);
            x.ask(0, 0);
            x.worthOf(3, 1);
            due(x.best(0, 0, 0), 130 - wet);
            x.worthOf(3, 0);
            x.worthOf(4, 1);
            due(x.best(0, 0, 0), 0);
        }
        DunkedBiscuits y = one(BISCUIT, 1, 0, 9);
        y.ask(0, 0);
        y.worthOf(4, 1);
        due(y.best(0, 0, 0), 0);
        y.wet(0, 0, 10);
        due(y.best(0, 0, 0), 130);
    }

    private static void bestOfSeveral() {
        sentence = "with most WORTH, of several the least D, then the least S";
        DunkedBiscuits x = one(BISCUIT, 2, 0);
        due(x.best(0, 0, 0), 0);
        worths(x, 1, 1, 1, 1, 1, 1, 1, 1, 1, 1);
        due(x.best(0, 0, 0), 0);
        // one of 20 to 29 is wanted: CELL 0 is 21 behind 3 SECONDS, and 28 behind 4: the least S
        DunkedBiscuits y = one(BISCUIT, 2, 0, 0, 40);
        y.worthOf(2, 5);
        due(y.best(0, 0, 0), 103);
        // 2 deep the middle CELL is 28 behind 2 SECONDS: the least D is ahead of the least S
        DunkedBiscuits z = one(HOLE, 2, 0);
        z.worthOf(2, 5);
        due(z.worth(0, 2, 2, 0), 5);
        due(z.worth(0, 1, 3, 0), 5);
        due(z.best(0, 0, 0), 103);
    }

    private static void bestTurned() {
        sentence = "BEST TURNED: likewise, the BISCUIT being turned about first";
        DunkedBiscuits x = one(BISCUIT, 2, 0, 40, 0);
        worths(x, 0, 0, 0, 0, 5, 0, 0, 0, 0, 0);
        // turned 0, 40: 42 behind 6 SECONDS 1 deep
        due(x.best(0, 0, 1), 106);
        due(x.biscuitOf(0, 10), 40);
        due(x.biscuitOf(0, 11), 0);
        DunkedBiscuits y = one(BISCUIT, 3, 0, 0, 50, 40);
        worths(y, 0, 0, 0, 0, 5, 5, 0, 0, 0, 0);
        // not turned CELL 0 is 42 behind 6 SECONDS; turned it is the top one, by CREEP 12, 21, 28, 33, 37, 40
        due(y.best(0, 0, 0), 106);
        due(y.best(0, 0, 1), 6);
    }

    private static void twiceTurnedBetween() {
        sentence = "TWICE: WORTH by two DIPS, one behind the other, the BISCUIT turned about between";
        // 7 and 0, turned 0 and 7; 7 and 7
        DunkedBiscuits x = one(BISCUIT, 2, 0);
        x.ask(0, 99);
        worths(x, 1, 10);
        due(x.twice(0, 0, 0, 0, 0), 2);
        due(x.twice(0, 1, 1, 0, 0), 11);
        due(x.twice(0, 1, 1, 1, 1), 20);
        due(x.twice(0, 0, 0, 1, 1), 11);
        due(x.twice(0, 12, 1, 12, 0), 20);
        due(x.twice(0, 12, 0, 12, 1), 20);
        // turned though no DIP takes any time: 0, 40 creeps not, 40, 0 does
        DunkedBiscuits y = one(BISCUIT, 2, 0, 0, 40);
        worths(y, 1, 10, 0, 0, 20);
        due(y.twice(0, 0, 0, 0, 1), 30);
        due(y.worth(0, 0, 1, 0), 21);
    }

    private static void twiceByWhatIsLeft() {
        sentence = "TWICE: CELLS gone by the first are gone for the second";
        DunkedBiscuits x = one(BISCUIT, 4, 0, 0, 0, 70, 50);
        x.ask(0, 0);
        worths(x, 1, 2, 4, 8, 16, 32, 64, 99);
        // behind the first 70 and 55, turned 55 and 70: it breaks in the second
        due(x.twice(0, 0, 1, 0, 0), 99 + 32);
        due(x.twice(0, 0, 1, 12, 1), 99);
        due(x.biscuitOf(0, 1), 4);
    }

    // ---- GOES

    private static void goesAsFarAsTheMost() {
        sentence = "by how much wetter in all CELLS below D became by SOAK (as far as 99 lets them)";
        for (int wet = 90; wet < 100; wet++) {
            DunkedBiscuits x = one(BISCUIT, 1, 0, wet);
            due(x.goes(0, 1, 1), Math.min(7, 99 - wet));
            due(x.goes(0, 1, 60), 99 - wet);
            due(x.goes(0, 0, 60), 0);
            due(x.goes(0, 12, 0), 0);
        }
        // CREEP is no SOAK: 7 in CELL 0 alone, second by second
        due(one(BISCUIT, 3, 0, 40, 20, 0).goes(0, 1, 1), 7);
        due(one(BISCUIT, 3, 0, 40, 20, 0).goes(0, 0, 5), 0);
        due(one(BISCUIT, 3, 0).goes(0, 2, 3), 42);
    }

    private static void goesNotBesides() {
        sentence = "What a CELL took ahead of its going counts for GOES; CELLS that are gone not besides";
        DunkedBiscuits x = one(BISCUIT, 3, 0, 0, 0, 70);
        due(x.goes(0, 2, 1), 14);
        due(x.goes(0, 2, 60), 14);
        due(x.goes(0, 3, 1), 21);
        due(x.goes(0, 3, 2), 28);
        due(x.goes(0, 12, 60), 14 + 29);
        x.ask(2, 5);
        due(x.goes(0, 12, 60), 14 + 29);
    }

    // ---- PLATE

    private static void plateOfNoneAndOfFive() {
        sentence = "PLATE: all BISCUITS one after the other (5 at most)";
        DunkedBiscuits x = new DunkedBiscuits();
        due(x.plate(0, 0, 0, -1), 0);
        due(x.plate(12, 60, 60, -1), 0);
        x.worthOf(0, 9);
        for (int n = 1; n <= 5; n++) {
            x.biscuit(BISCUIT, n, 0);
            due(x.plate(0, 0, 0, -1), 9 * n * (n + 1) / 2);
            due(x.plate(0, 0, 0, n - 1), n - 1);
            due(x.plate(0, 0, 0, n), -5);
        }
        x.biscuit(BISCUIT, 1, 0);
        due(x.plate(0, 0, 0, -1), -6);
    }

    private static void plateOfSeveralTheFirst() {
        sentence = "the order with most WORTH in all, of several the first (by rows of numbers)";
        DunkedBiscuits x = new DunkedBiscuits();
        x.ask(1, 1);
        for (int b = 0; b < 4; b++) {
            x.biscuit(BISCUIT, 1, 0);
        }
        // all alike: SOAK 7, 6, 5, 4 for 10 SECONDS
        worths(x, 0, 0, 0, 0, 1, 2, 3, 4, 5, 6);
        plate(x, 1, 10, 0, 10, 0, 1, 2, 3);
        // 2 alone gains by being the first: 2 0 1 3 is the first of those
        DunkedBiscuits y = new DunkedBiscuits();
        y.ask(1, 1);
        for (int b = 0; b < 4; b++) {
            add(y, BISCUIT, 1, 0, b == 2 ? 0 : 99);
        }
        y.worthOf(7, 50);
        plate(y, 1, 10, 0, 50, 2, 0, 1, 3);
        y.worthOf(7, 0);
        y.worthOf(4, 50);
        plate(y, 1, 10, 0, 50, 0, 1, 3, 2);
        y.worthOf(4, 0);
        y.worthOf(6, 50);
        plate(y, 1, 10, 0, 50, 0, 2, 1, 3);
    }

    private static void plateHeatStaysForEach() {
        sentence = "HEAT staying so for each; S SECONDS and c have gone by between its beginning and that of the next";
        DunkedBiscuits x = new DunkedBiscuits();
        x.ask(1, 10);
        x.biscuit(BISCUIT, 1, 0);
        x.biscuit(BISCUIT, 1, 0);
        worths(x, 0, 0, 0, 1, 0, 0, 0, 10);
        // 10 SECONDS in, none or 9 out: HEAT 60 and then 59: 70 and 60 wet
        due(x.plate(1, 10, 0, -1), 10);
        // with 5 in and 5 out: 35 and 30; with 5 in and 4 out HEAT is 60 still
        due(x.plate(1, 5, 5, -1), 2);
        worths(x, 0, 0, 0, 1, 0, 0, 0, 0);
        x.ask(0, 10);
        x.wet(0, 0, 28);
        x.wet(1, 0, 28);
        // SOAK 2, of HEAT 9 it is 1: 30 and 29
        due(x.plate(1, 1, 8, -1), 2);
        due(x.plate(1, 1, 9, -1), 1);
        due(x.status(2), 10);
        due(x.status(7), 0);
    }

    private static void plateGoesOnBySeconds() {
        sentence = "PLATE goes on by SECONDS from the beginning on";
        DunkedBiscuits x = new DunkedBiscuits();
        x.biscuit(BISCUIT, 1, 0);
        x.biscuit(BISCUIT, 1, 0);
        x.wet(0, 0, 3);
        x.wet(1, 0, 3);
        worths(x, 1, 10);
        // 10 and 10 wet; 10 and 9 if HEAT is 59 for the second
        due(x.plate(1, 1, 0, -1), 20);
        x.carry(0, 18);
        due(x.plate(1, 1, 0, -1), 20);
        due(x.plate(1, 1, 1, -1), 11);
        x.carry(0, 1);
        due(x.status(2), 60);
        due(x.plate(1, 1, 0, -1), 11);
        due(x.plate(1, 1, 0, 0), 0);
        due(x.status(7), 19);
    }

    private static void plateHeatNoughtAtLeast() {
        sentence = "so that HEAT falls as in truth (0 at least)";
        DunkedBiscuits x = new DunkedBiscuits();
        x.ask(0, 5);
        x.ask(1, 1);
        for (int b = 0; b < 5; b++) {
            x.biscuit(BISCUIT, 1, 0);
        }
        worths(x, 1, 10);
        // SOAK 1 by any HEAT below 10
        due(x.plate(1, 10, 60, -1), 50);
        x.ask(0, 0);
        due(x.plate(1, 9, 60, -1), 5);
    }

    private static void plateWithoutCells() {
        sentence = "One without CELLS has WORTH 0 on a PLATE";
        DunkedBiscuits x = new DunkedBiscuits();
        x.ask(1, 1);
        x.biscuit(BISCUIT, 1, 0);
        x.biscuit(BISCUIT, 1, 0);
        x.eats(0);
        worths(x, 5, 5, 5, 5, 5, 5, 7, 5, 5, 5);
        // CELLS of the other: 70 wet if it is the first, 60 behind the one without
        plate(x, 1, 10, 0, 7, 0, 1);
        worths(x, 5, 5, 5, 5, 5, 5, 5, 7, 5, 5);
        plate(x, 1, 10, 0, 7, 1, 0);
    }

    // ---- RULE

    private static void ruleCut() {
        sentence = "RULE of u, v: S is u less HEAT by v (cut)";
        // SOAK 7: 10 WET more or less tell S: 1 is 7, 2 is 14, 3 is 21, 5 is 35
        DunkedBiscuits x = one(BISCUIT, 1, 0);
        worths(x, 1, 2, 3, 4, 5, 6, 7, 8, 9, 10);
        due(x.rule(5, 20, 1, 0), 2);
        due(x.rule(5, 19, 1, 0), 2);
        due(x.rule(5, 21, 1, 0), 3);
        due(x.rule(5, 61, 1, 0), 4);
        due(x.rule(5, 60, 1, 0), 3);
        due(x.rule(5, 99, 1, 0), 4);
        due(x.rule(61, 1, 1, 0), 1);
        due(x.rule(62, 1, 1, 0), 2);
    }

    private static void ruleNoughtAndSixty() {
        sentence = "(cut; 0 at least, 60 at most)";
        DunkedBiscuits x = one(BISCUIT, 1, 0);
        worths(x, 1, 2, 3, 4, 5, 6, 7, 8, 9, 10);
        due(x.rule(0, 1, 1, 0), 1);
        due(x.rule(60, 1, 1, 0), 1);
        x.ask(0, 99);
        due(x.rule(0, 1, 12, 60), 1);
        // SOAK 1
        x.ask(0, 0);
        due(x.rule(59, 1, 1, 0), 6);
        due(x.rule(60, 1, 1, 0), 7);
        due(x.rule(69, 1, 1, 0), 7);
        due(x.rule(70, 1, 1, 0), 7);
        due(x.rule(99, 99, 1, 0), 7);
        // 9 and 60, not 61
        x.wet(0, 0, 9);
        due(x.rule(61, 1, 1, 0), 7);
        due(x.rule(99, 1, 1, 0), 7);
        x.wet(0, 0, 0);
        due(new DunkedBiscuits().rule(99, 99, 12, 60), 0);
    }

    private static void ruleOfAll() {
        sentence = "RULE's WORTH: of all BISCUITS by a DIP of D and a CARRY of c";
        DunkedBiscuits x = new DunkedBiscuits();
        x.worthOf(0, 3);
        due(x.rule(0, 1, 12, 60), 0);
        for (int b = 0; b < 6; b++) {
            x.biscuit(BISCUIT, b + 1, 0);
            due(x.rule(0, 1, 12, 60), 3 * (b + 1) * (b + 2) / 2);
        }
        x.eats(5);
        due(x.rule(0, 1, 12, 60), 3 * 15);
        // behind a CARRY of 5 both are 10 to 19 wet, as in carriedWorth()
        DunkedBiscuits y = one(BISCUIT, 2, 0);
        y.worthOf(1, 5);
        due(y.rule(62, 1, 1, 4), 5);
        due(y.rule(62, 1, 1, 5), 10);
    }

    private static void carriedWorth() {
        sentence = "WORTH, BEST and PLATE behind a DIP and a CARRY";
        // 1 deep, 2 SECONDS: 14 and 1; carried 4, 6, 8, 9, 10
        DunkedBiscuits x = one(BISCUIT, 2, 0);
        x.worthOf(1, 5);
        due(x.worth(0, 1, 2, 4), 5);
        due(x.worth(0, 1, 2, 5), 10);
        due(x.best(0, 0, 0), 202);
        due(x.best(0, 4, 0), 202);
        due(x.best(0, 5, 0), 102);
        due(x.best(0, 5, 1), 102);
        due(x.plate(1, 2, 4, -1), 5);
        due(x.plate(1, 2, 5, -1), 10);
    }

    // ---- BACK, HEATS, FETCH

    private static void backNoughtToSixty() {
        sentence = "BACK: all S (0 to 60, bits)";
        DunkedBiscuits x = one(BISCUIT, 1, 0);
        x.ask(0, 0);
        row(x, 0, 0);
        due(x.back(0, 0, 1), 1);
        due(x.back(0, 0, 0), ALL_SECONDS);
        for (int s : new int[] {1, 31, 32, 33, 59, 60}) {
            row(x, 0, s);
            due(x.back(0, 0, 1), 1L << s);
        }
        row(x, 0, 61);
        due(x.back(0, 0, 1), 0);
        row(x, 0, -1);
        due(x.back(0, 0, 1), 0);
        // 99 from the seventh SECOND on
        DunkedBiscuits y = one(BISCUIT, 1, 9);
        row(y, 0, 99);
        due(y.back(0, 0, 12), ALL_SECONDS - 127);
    }

    private static void backFromAllDry() {
        sentence = "behind which, D deep, from all dry, the CELLS would be just so WET";
        DunkedBiscuits x = one(BISCUIT, 3, 0, 40, 50, 60);
        row(x, 0, 14, 14, 1);
        due(x.back(0, 0, 2), 4);
        due(x.back(0, 0, 3), 0);
        due(x.back(0, 0, 1), 0);
        row(x, 0, 14, 14, 14);
        due(x.back(0, 0, 3), 4);
        due(x.back(0, 0, 12), 4);
        row(x, 0, 14, 14, 13);
        due(x.back(0, 0, 3), 0);
        row(x, 0, 13, 14, 14);
        due(x.back(0, 0, 3), 0);
        due(x.biscuitOf(0, 3), 150);
        DunkedBiscuits y = one(BISCUIT, 12, 0, 1, 2, 3, 4, 5, 6, 7, 8, 9, 10, 11, 12);
        y.row(0, 0, 12);
        due(y.back(0, 0, 0), ALL_SECONDS);
        due(y.heats(0, 0, 0, 60), 0);
    }

    private static void backNoneBeingGone() {
        sentence = "(none being gone)";
        DunkedBiscuits x = one(BISCUIT, 2, 0);
        row(x, 0, 56, 56);
        due(x.back(0, 0, 2), 1L << 8);
        row(x, 0, 63, 63);
        due(x.back(0, 0, 2), 0);
        row(x, 0, 99, 99);
        due(x.back(0, 0, 2), 0);
        due(x.heats(0, 0, 2, 60), -1);
    }

    private static void backElementsBehindCells() {
        sentence = "-5 fewer elements than CELLS";
        DunkedBiscuits x = one(BISCUIT, 2, 0);
        row(x, 0, 7);
        due(x.back(0, 0, 2), -5);
        due(x.heats(0, 0, 2, 1), -15);
        row(x, 0, 7, 7);
        due(x.back(0, 0, 2), 2);
        due(x.heats(0, 0, 2, 1), 60);
        row(x, 0, 7, 7, 99, -5);
        due(x.back(0, 0, 2), 2);
        due(x.heats(0, 0, 2, 1), 60);
        x.row(0, 3, 160);
        due(x.back(0, 0, 2), 1);
    }

    private static void heatsLeast() {
        sentence = "HEATS: the least HEAT (0 to 99) by which that is so for a told S";
        DunkedBiscuits x = one(BISCUIT, 1, 0, 77);
        for (int soak = 1; soak <= 10; soak++) {
            row(x, 0, soak);
            due(x.heats(0, 0, 1, 1), 10 * (soak - 1));
        }
        row(x, 0, 60);
        due(x.heats(0, 0, 1, 60), 0);
        row(x, 0, 0);
        due(x.heats(0, 0, 1, 0), 0);
        due(x.heats(0, 0, 0, 60), 0);
        // 99 behind 60 SECONDS by HEAT 10 on
        row(x, 0, 99);
        due(x.heats(0, 0, 12, 60), 10);
        // half of 4 and of 5
        DunkedBiscuits y = one(SUGAR, 1, 0);
        row(y, 0, 2);
        due(y.heats(0, 0, 1, 1), 30);
        due(y.status(2), 60);
    }

    private static void heatsNone() {
        sentence = "HEATS; NONE";
        DunkedBiscuits x = one(BISCUIT, 1, 0);
        row(x, 0, 11);
        due(x.heats(0, 0, 1, 1), -1);
        row(x, 0, 0);
        due(x.heats(0, 0, 1, 1), -1);
        row(x, 0, 1);
        due(x.heats(0, 0, 1, 0), -1);
        due(x.heats(0, 0, 0, 60), -1);
        for (int what = 11; what <= 17; what++) {
            due(x.status(what), 0);
        }
    }

    private static void fetchAtLeast() {
        sentence = "FETCH: BISCUITS (bits) with as many CELLS as are told at least";
        DunkedBiscuits x = new DunkedBiscuits();
        due(x.fetch(1, 0), 0);
        due(x.fetch(12, 60), 0);
        int[] cells = {1, 12, 3, 11, 2, 12};
        for (int n : cells) {
            x.biscuit(BISCUIT, n, 0);
        }
        due(x.fetch(1, 0), 63);
        due(x.fetch(2, 0), 62);
        due(x.fetch(3, 0), 46);
        due(x.fetch(11, 0), 42);
        due(x.fetch(12, 0), 34);
        x.eats(1);
        due(x.fetch(1, 0), 61);
        due(x.fetch(12, 0), 32);
        due(x.fetch(0, 0), -6);
        due(x.fetch(13, 0), -6);
    }

    private static void fetchThatDeep() {
        sentence = "that are WHOLE behind a DIP that deep of a told S";
        DunkedBiscuits x = new DunkedBiscuits();
        x.biscuit(BISCUIT, 2, 0);
        x.biscuit(COAT, 2, 0);
        x.biscuit(BISCUIT, 1, 0);
        // SOAK 7: 2 deep it holds 8 SECONDS, the COAT by SOAK 3 up to 57 wet 19
        due(x.fetch(2, 8), 3);
        due(x.fetch(2, 9), 2);
        due(x.fetch(2, 19), 2);
        due(x.fetch(2, 20), 0);
        due(x.fetch(1, 60), 4);
        add(x, BISCUIT, 2, 0, 0, 70);
        due(x.fetch(2, 0), 11);
        due(x.fetch(2, 1), 3);
    }

    // ---- one without CELLS

    private static void withoutCells() {
        sentence = "One without CELLS stays WHOLE, has the BEST 0, WORTH 0 on a PLATE, and all bits for back()";
        DunkedBiscuits x = one(RUSK, 2, 9, 99, 99);
        worths(x, 9, 9, 9, 9, 9, 9, 9, 9, 9, 9);
        due(x.eats(0), 18);
        due(x.longest(0, 12, 60), 60);
        due(x.far(0, 12, 60), 60);
        due(x.best(0, 0, 0), 0);
        due(x.best(0, 60, 1), 0);
        due(x.plate(12, 60, 60, -1), 0);
        due(x.plate(12, 60, 60, 0), 0);
        x.row(0, 0, 0);
        due(x.back(0, 0, 0), ALL_SECONDS);
        due(x.back(0, 0, 12), ALL_SECONDS);
        row(x, 0, 5, 5);
        due(x.back(0, 0, 12), ALL_SECONDS);
        due(x.heats(0, 0, 12, 60), 0);
        due(x.left(0, 12, 60, 60), 0);
        due(x.when(0, 12, 60, 60), -1);
        due(x.worth(0, 12, 60, 60), 0);
        due(x.goes(0, 12, 60), 0);
        due(x.twice(0, 12, 60, 12, 60), 0);
        due(x.rule(99, 99, 12, 60), 0);
        due(x.breaks(0), -1);
        due(x.turn(0), 0);
        due(x.biscuitOf(0, 0), RUSK);
        due(x.biscuitOf(0, 1), 0);
        due(x.biscuitOf(0, 2), 9);
        due(x.biscuitOf(0, 3), 0);
        for (int what = 11; what <= 17; what++) {
            due(x.status(what), 0);
        }
    }

    // ---- in truth

    private static void teaNoughtAtLeast() {
        sentence = "TEA is less by what GOES (0 at least)";
        for (int tea = 0; tea < 17; tea++) {
            DunkedBiscuits x = one(BISCUIT, 2, 0);
            x.ask(2, tea);
            due(x.dip(0, 2, 1), 0);
            due(x.status(4), Math.max(0, tea - 14));
            due(x.biscuitOf(0, 3), 14);
            due(x.status(7), 1);
        }
        DunkedBiscuits y = one(BISCUIT, 2, 0);
        due(y.dip(0, 0, 60), 0);
        due(y.dip(0, 12, 0), 0);
        due(y.status(4), 1000);
        due(y.status(7), 60);
    }

    private static void sludgeByDipsAlone() {
        sentence = "CELLS that are gone by it are SLUDGE, each 1; A CARRY: what is gone then is no SLUDGE";
        DunkedBiscuits x = one(BISCUIT, 6, 0, 0, 0, 70, 70, 0, 70);
        due(x.dip(0, 0, 1), 2);
        due(x.status(5), 2);
        due(x.carry(0, 1), 1);
        due(x.status(5), 2);
        due(x.status(1), 3);
        due(x.dip(0, 0, 60), 2);
        due(x.status(5), 4);
        due(x.dip(0, 0, 60), 0);
        due(x.status(5), 4);
        due(x.status(7), 122);
    }

    private static void byHeatAtItsBeginning() {
        sentence = "a DIP (by HEAT as it is at its beginning)";
        DunkedBiscuits x = one(BISCUIT, 1, 0);
        x.ask(1, 1);
        due(x.dip(0, 1, 2), 0);
        due(x.biscuitOf(0, 10), 14);
        due(x.status(2), 58);
        due(x.dip(0, 1, 2), 0);
        due(x.biscuitOf(0, 10), 26);
        due(x.status(2), 56);
    }

    private static void heatEachLossSeconds() {
        sentence = "HEAT is 1 less each LOSS SECONDS (counted from the beginning on, 0 at least)";
        DunkedBiscuits x = one(BISCUIT, 1, 0);
        x.ask(1, 7);
        for (int second = 1; second <= 30; second++) {
            due(x.carry(0, 1), 0);
            due(x.status(7), second);
            due(x.status(2), 60 - second / 7);
        }
        DunkedBiscuits y = one(BISCUIT, 1, 0);
        y.ask(1, 1);
        y.ask(0, 59);
        y.carry(0, 58);
        due(y.status(2), 1);
        y.carry(0, 1);
        due(y.status(2), 0);
        y.carry(0, 1);
        due(y.status(2), 0);
        y.carry(0, 60);
        due(y.status(2), 0);
        // what went by at HEAT 0 doesn't count later
        y.ask(0, 9);
        due(y.status(2), 9);
        y.dip(0, 0, 3);
        due(y.status(2), 6);
    }

    private static void lossAsItIsThen() {
        sentence = "HEAT falls at each SECOND whose number is a multiple of LOSS as it is then";
        DunkedBiscuits x = one(BISCUIT, 1, 0);
        x.ask(1, 99);
        x.carry(0, 59);
        x.ask(1, 20);
        due(x.status(2), 60);
        x.carry(0, 1);
        due(x.status(2), 59);
        x.ask(1, 61);
        x.carry(0, 1);
        due(x.status(2), 58);
        x.ask(1, 60);
        x.carry(0, 58);
        due(x.status(2), 58);
        x.carry(0, 1);
        due(x.status(7), 120);
        due(x.status(2), 57);
        x.ask(1, 99);
        x.carry(0, 60);
        due(x.status(2), 57);
        x.carry(0, 18);
        due(x.status(7), 198);
        due(x.status(2), 56);
    }

    private static void eaten() {
        sentence = "A BISCUIT is EATEN: its WORTH is PLEASURE (0 at first), it has no CELLS then";
        DunkedBiscuits x = one(BISCUIT, 3, 0, 9, 10, 99);
        add(x, BISCUIT, 1, 0);
        worths(x, 1, 20, 0, 0, 0, 0, 0, 0, 0, 70);
        due(x.status(6), 0);
        due(x.eats(0), 91);
        due(x.status(6), 91);
        due(x.status(1), 1);
        due(x.eats(1), 1);
        due(x.status(6), 92);
        due(x.status(1), 0);
        due(x.status(0), 2);
        due(x.eats(0), -6);
        due(x.status(6), 92);
        // with WORTH 0 it is EATEN too
        DunkedBiscuits y = one(BISCUIT, 1, 0);
        due(y.eats(0), 0);
        due(y.eats(0), -6);
    }

    private static void turnedAbout() {
        sentence = "A BISCUIT is turned about in truth: its CELLS";
        for (int cells : new int[] {1, 2, 3, 11, 12}) {
            DunkedBiscuits x = one(BISCUIT, cells, 0);
            for (int i = 0; i < cells; i++) {
                x.wet(0, i, i + 1);
            }
            due(x.turn(0), cells);
            for (int i = 0; i < cells; i++) {
                due(x.biscuitOf(0, 10 + i), cells - i);
            }
            due(x.turn(0), cells);
            due(x.biscuitOf(0, 10), 1);
        }
    }

    // ---- TEAS by draws

    /** The SEED behind a draw, as a number without a sign. */
    private static long behindADraw(long seed) {
        return (seed * 1103515245L + 12345L) & 0xffffffffL;
    }

    private static int drawn(long seed, int n) {
        return (int) ((seed >> 16) % n);
    }

    private static void teasOneToTwenty() {
        sentence = "n TEAS by draws (1 to 20) in truth: PLEASURE by them";
        for (int n : new int[] {1, 2, 20}) {
            DunkedBiscuits x = one(BISCUIT, 1, 0);
            worths(x, 7, 7, 7, 7, 7, 7, 7, 7, 7, 7);
            due(x.teas(n), 7);
            due(x.status(6), 7);
            due(x.status(1), 0);
            // 4 draws with CELLS, without them 1
            long seed = 1;
            for (int i = 0; i < 3 + n; i++) {
                seed = behindADraw(seed);
            }
            due(x.status(8), (int) seed);
            due(x.teas(n), 0);
            due(x.status(6), 7);
        }
        DunkedBiscuits y = one(BISCUIT, 1, 0);
        due(y.teas(0), -6);
        due(y.teas(21), -6);
        due(y.status(8), 1);
    }

    private static DunkedBiscuits forTeas() {
        DunkedBiscuits x = new DunkedBiscuits();
        x.biscuit(STALE, 3, 9);
        x.biscuit(SUGAR, 12, 3);
        x.biscuit(BISCUIT, 1, 0);
        x.eats(2);
        x.ask(1, 3);
        for (int w = 0; w < 10; w++) {
            x.worthOf(w, 7 * w + 1);
        }
        return x;
    }

    private static void teasDraw() {
        sentence = "a BISCUIT, a DRAW below how many there are; D below its CELLS and 1, S below 10, a CARRY below 6";
        int deepest = 0;
        int longest = 0;
        int farthest = 0;
        int without = 0;
        for (int begin = -300; begin < 300; begin++) {
            DunkedBiscuits x = forTeas();
            DunkedBiscuits y = forTeas();
            x.seed(begin * 7919);
            long seed = behindADraw(begin * 7919);
            int b = drawn(seed, 3);
            int pleasure = 0;
            if (b == 2) {
                without++;
            } else {
                seed = behindADraw(seed);
                int cells = y.biscuitOf(b, 1);
                int d = drawn(seed, cells + 1);
                seed = behindADraw(seed);
                int s = drawn(seed, 10);
                seed = behindADraw(seed);
                int c = drawn(seed, 6);
                y.dip(b, d, s);
                y.carry(b, c);
                pleasure = y.eats(b);
                deepest += d == cells ? 1 : 0;
                longest += s == 9 ? 1 : 0;
                farthest += c == 5 ? 1 : 0;
            }
            y.seed((int) seed);
            due(x.teas(1), pleasure);
            for (int what = 0; what < 9; what++) {
                due(x.status(what), y.status(what));
            }
        }
        due(deepest > 0 && longest > 0 && farthest > 0 && without > 0 ? 1 : 0, 1);
    }

    private static void drawsWrapAndHaveNoSign() {
        sentence = "A DRAW below n: SEED times 1103515245, and 12345 (an int, wrapping); its upper 16 bits, no sign";
        int[] seeds = {0, 1, -1, Integer.MAX_VALUE, Integer.MIN_VALUE, 77777, -12345};
        int below = 0;
        for (int seed : seeds) {
            DunkedBiscuits x = new DunkedBiscuits();
            for (int b = 0; b < 5; b++) {
                x.biscuit(BISCUIT, 1, 0);
            }
            x.worthOf(0, 1);
            for (int b = 1; b < 5; b++) {
                x.eats(b);
            }
            x.seed(seed);
            long next = behindADraw(seed);
            below += (int) next < 0 ? 1 : 0;
            // only BISCUIT 0 has a CELL
            x.teas(1);
            due(x.biscuitOf(0, 1), drawn(next, 5) == 0 ? 0 : 1);
            if (drawn(next, 5) != 0) {
                due(x.status(8), (int) next);
            }
        }
        due(below > 0 ? 1 : 0, 1);
    }

    private static void seedIsAnyInt() {
        sentence = "SEED becomes v: what it was (nothing is refused)";
        DunkedBiscuits x = new DunkedBiscuits();
        int was = 1;
        for (int v : new int[] {0, -1, Integer.MIN_VALUE, Integer.MAX_VALUE, 5}) {
            due(x.seed(v), was);
            due(x.status(8), v);
            was = v;
        }
    }

    // ---- ACTS

    private static void actsWrap() {
        sentence = "ACTS of BISCUITS, with x (wrapping)";
        DunkedBiscuits x = new DunkedBiscuits();
        int[] kinds = {0, 1, 2, 3, 4, 5};
        for (int kind : kinds) {
            x.biscuit(kind, 1, 9);
        }
        due(x.act(1, 0, Integer.MAX_VALUE), Integer.MIN_VALUE + 9);
        due(x.act(0, 1, Integer.MAX_VALUE), -2);
        due(x.act(2, 1, 1 << 29), ((1 << 29) + 2) * 6);
        // Integer.MIN_VALUE twice is 0, 9 less is MAX_VALUE - 8; m is 0
        due(x.act(0, 2, Integer.MIN_VALUE), Integer.MAX_VALUE - 8);
        due(x.act(3, 1, Integer.MAX_VALUE), (Integer.MIN_VALUE + 3 + 9) * 2);
        DunkedBiscuits y = new DunkedBiscuits();
        y.biscuit(RUSK, 1, 0);
        // creeps 0, soaks MIN_VALUE: less than 0 it stays so
        due(y.act(0, 2, Integer.MIN_VALUE), Integer.MIN_VALUE);
        y.biscuit(STALE, 1, 9);
        // soaks (x - 9 + 1 - 1) times 2, twice that
        due(y.act(1, 1, Integer.MIN_VALUE), -36);
    }

    private static void noTraceThen() {
        sentence = "0, and no TRACE then: no such BISCUIT, act; the TRACE's i-th body, NONE: none such";
        DunkedBiscuits x = one(STALE, 1, 0);
        int[] bodies = {50, 12, 71, 11, 70, 51, 10, 70, 51, 10};
        int[][] none = {{1, 0}, {-1, 0}, {6, 2}, {0, 3}, {0, -1}, {Integer.MIN_VALUE, 1}, {0, Integer.MAX_VALUE}};
        due(x.trace(0), -1);
        for (int[] n : none) {
            x.act(0, 2, 1);
            due(x.status(9), bodies.length);
            for (int i = 0; i < bodies.length; i++) {
                due(x.trace(i), bodies[i]);
            }
            due(x.trace(-1), -1);
            due(x.trace(bodies.length), -1);
            due(x.trace(19), -1);
            due(x.trace(20), -1);
            due(x.act(n[0], n[1], 5), 0);
            due(x.status(9), 0);
            due(x.trace(0), -1);
        }
        // the latest alone
        x.act(0, 2, 1);
        x.act(0, 0, 1);
        due(x.status(9), 3);
        due(x.trace(0), 70);
        due(x.trace(3), -1);
    }

    // ---- THE IMAGE, and how many

    private static void imageAndRestore() {
        sentence = "THE IMAGE of all but SHELVES (and THE IMAGE, REFUSALS, the FAULT, THE TRACE) is taken";
        DunkedBiscuits x = one(BISCUIT, 3, 1, 5, 6, 70);
        add(x, COAT, 2, 2, 9);
        x.worthOf(0, 3);
        x.ask(0, 50);
        x.ask(1, 9);
        x.dip(0, 0, 9);
        x.eats(1);
        x.seed(-5);
        int[] kept = {2, 1, 49, 9, 1000, 2, 3 + 3, 9, -5};
        due(x.image(), 2);
        for (int round = 0; round < 3; round++) {
            for (int what = 0; what < kept.length; what++) {
                due(x.status(what), kept[what]);
            }
            due(x.biscuitOf(0, 10), 70);
            due(x.worthOf(0, 3), 3);
            x.wet(0, 0, 1);
            x.worthOf(0, 9);
            x.ask(0, 1);
            x.ask(1, 1);
            x.ask(2, 1);
            x.biscuit(BISCUIT, 4, 0);
            x.wet(2, 1, 90);
            x.dip(2, 0, 3);
            x.teas(20);
            x.table(0);
            x.row(0, 0, 1 + round);
            x.table(0);
            x.act(0, 1, 1);
            due(x.restore(), 2);
            due(x.fault(), 0);
            due(x.trace(0), 11);
            due(x.status(9), 2);
            due(x.status(16), round + 1 + (round > 0 ? round : 0));
            due(x.holds(0), 100);
        }
        sentence = "All is as THE IMAGE has it: the latest";
        x.wet(0, 0, 33);
        due(x.image(), 2);
        x.wet(0, 0, 44);
        due(x.restore(), 2);
        due(x.biscuitOf(0, 10), 33);
    }

    private static void imageOfNone() {
        sentence = "-6 there is none; of no BISCUITS there is one";
        DunkedBiscuits x = new DunkedBiscuits();
        due(x.restore(), -6);
        due(x.status(16), 1);
        due(x.image(), 0);
        due(x.restore(), 0);
        for (int b = 0; b < 6; b++) {
            x.biscuit(BISCUIT, 1, 0);
        }
        x.show(0, 5);
        due(x.restore(), 0);
        due(x.status(0), 0);
        due(x.status(1), 0);
        due(x.holds(0), -1);
        due(x.biscuit(BISCUIT, 2, 0), 0);
        due(x.image(), 1);
        due(x.restore(), 1);
        due(x.biscuitOf(0, 1), 2);
    }

    private static void shelvesOfAnImage() {
        sentence = "SHELVES with BISCUITS hold those of these numbers, or NOTHING";
        DunkedBiscuits x = one(BISCUIT, 4, 0);
        add(x, BISCUIT, 3, 0);
        x.show(0, 1);
        x.image();
        add(x, BISCUIT, 2, 0);
        x.show(0, 2);
        x.show(1, 1);
        x.show(2, 0);
        x.row(3, 3, 160);
        x.set(3, 159, 8);
        x.eats(1);
        due(x.restore(), 2);
        due(x.holds(0), -1);
        due(x.says(0, 0), -3);
        due(x.holds(1), 1);
        due(x.says(1, 0), 3);
        due(x.holds(2), 0);
        due(x.says(2, 0), 4);
        due(x.holds(3), 103);
        due(x.element(3, 159), 8);
        due(x.holds(4), -1);
        // a ROW where a BISCUIT was stays
        add(x, BISCUIT, 1, 0);
        x.show(5, 2);
        x.row(5, 1, 1);
        due(x.restore(), 2);
        due(x.holds(5), 101);
        // a BISCUIT of that number again: the SHELF holds NOTHING still
        due(x.biscuit(BISCUIT, 1, 0), 2);
        due(x.holds(0), -1);
    }

    private static void statusOfWhat() {
        sentence = "How many: 0 to 9; 11 to 17: REFUSALS -1 to -7. NONE for another what";
        DunkedBiscuits x = one(BISCUIT, 3, 0);
        add(x, BISCUIT, 12, 0);
        due(x.status(0), 2);
        due(x.status(1), 15);
        int[] none = {-1, 10, 18, 19, Integer.MIN_VALUE, Integer.MAX_VALUE};
        for (int what : none) {
            due(x.status(what), -1);
        }
        // one of -1, two of -2, and so on
        x.show(0, 0);
        x.row(1, 0, 1);
        for (int k = 0; k < 7; k++) {
            for (int many = 0; many <= k; many++) {
                switch (k) {
                    case 0:
                        due(x.breaks(2), -11);
                        break;
                    case 1:
                        due(x.heats(0, 0, 0, 0), -12);
                        break;
                    case 2:
                        due(x.heats(0, 2, 0, 0), -13);
                        break;
                    case 3:
                        due(x.row(1, 0, -1), -4);
                        break;
                    case 4:
                        due(x.cellOf(0, 0, 2), -1005);
                        break;
                    case 5:
                        due(x.far(0, 13, 0), -16);
                        break;
                    default:
                        due(x.row(1, 0, 161), -7);
                        break;
                }
            }
        }
        for (int k = 1; k <= 7; k++) {
            due(x.status(10 + k), k);
        }
    }
}
