/**
 * Biscuits of cells, held by the rim in tea: how wet they get, when they break, and what can be
 * told of that ahead. Nothing is made behind the constructor: every call uses the same objects again.
 */
public final class DunkedBiscuits {
    public static final int NONE = -1;

    private static final int NOBODY = 1;
    private static final int OTHER = 2;
    private static final int NOTHING = 3;
    private static final int BELOW = 4;
    private static final int BEYOND = 5;
    private static final int WRONG = 6;
    private static final int ROOM = 7;

    private static final int BISCUIT = 0;
    private static final int COAT = 1;
    private static final int HOLE = 2;
    private static final int SUGAR = 3;
    private static final int RUSK = 4;
    private static final int PAIR = 5;
    private static final int STALE = 6;
    private static final int KINDS = 7;
    /** The kind above each kind. */
    private static final int[] ABOVE = {NONE, BISCUIT, BISCUIT, COAT, BISCUIT, HOLE, RUSK};

    private static final int MOST_SHELVES = 8;
    private static final int MOST_ELEMENTS = 160;
    private static final int SORTS = 4;
    private static final int MOST_BISCUITS = 6;
    private static final int MOST_CELLS = 12;
    private static final int MOST_A = 9;
    private static final int MOST_WET = 99;
    private static final int MOST_HEAT = 99;
    private static final int MOST_LOSS = 99;
    private static final int MOST_TEA = 9999;
    private static final int WORTHS = 10;
    private static final int MOST_WORTH = 99;
    private static final int MOST_SECONDS = 60;
    private static final int MOST_BEST_SECONDS = 30;
    private static final int MOST_ON_PLATE = 5;
    private static final int PLATE_ORDERS = 120;
    private static final int MOST_TEAS = 20;
    private static final int KEPT_BODIES = 20;

    private final Shelf[] shelves = new Shelf[MOST_SHELVES];
    private final State now = new State();
    private final State imaged = new State();
    private final State trial = new State();
    private final Dunk dunk = new Dunk();
    private final Dunk onward = new Dunk();
    private final Reader reader = new Reader(trial, dunk);
    private final Act latestAct = new Act();
    private final Biscuit aside = new Biscuit();
    private final int[] refusals = new int[ROOM + 1];
    /** Worth of each biscuit at each place of a plate, row by row. */
    private final int[] plateWorths = new int[MOST_ON_PLATE * MOST_ON_PLATE];
    private final int[] order = new int[MOST_ON_PLATE];
    private final int[] bestOrder = new int[MOST_ON_PLATE];
    private boolean hasImage;
    private int latestFault = NONE;

    public DunkedBiscuits() {
        for (int s = 0; s < MOST_SHELVES; s++) {
            shelves[s] = new Shelf();
        }
    }

    // ---- shelves

    public int row(int s, int sort, int n) {
        if (!isShelf(s)) {
            return refused(NOBODY);
        }
        if (n < 0) {
            return refused(BELOW);
        }
        if (!isWithin(sort, 0, SORTS - 1)) {
            return refused(WRONG);
        }
        if (n > MOST_ELEMENTS) {
            return refused(ROOM);
        }
        shelves[s].takeRow(sort, n);
        return 1;
    }

    public int set(int s, int i, long v) {
        int why = whyNoRow(s);
        if (why != 0) {
            return refused(why);
        }
        if (!shelves[s].hasElement(i)) {
            return refused(BEYOND);
        }
        shelves[s].put(i, v);
        return 1;
    }

    public int copy(int p, int q, int i, int j, int n) {
        int why = whyNoCopy(p, q, i, j, n);
        if (why != 0) {
            return refused(why);
        }
        System.arraycopy(shelves[p].elements, i, shelves[q].elements, j, n);
        return 1;
    }

    public long element(int s, int i) {
        return isShelf(s) ? shelves[s].elementAt(i) : 0L;
    }

    public int show(int s, int biscuit) {
        if (!isShelf(s) || biscuit != NONE && !now.hasBiscuit(biscuit)) {
            return refused(NOBODY);
        }
        shelves[s].takeBiscuit(biscuit);
        return biscuit == NONE ? 0 : 1;
    }

    public int holds(int s) {
        return isShelf(s) ? shelves[s].tellsWhatItHolds() : NONE;
    }

    public int says(int s, int kind) {
        if (!isShelf(s) || !isWithin(kind, 0, KINDS - 1)) {
            return refused(NOBODY);
        }
        Shelf shelf = shelves[s];
        if (shelf.holdsRow()) {
            return refused(OTHER);
        }
        if (!now.hasBiscuit(shelf.biscuit)) {
            return refused(NOTHING);
        }
        Biscuit biscuit = now.biscuits[shelf.biscuit];
        if (!biscuit.isOf(kind)) {
            return refused(OTHER);
        }
        return saysAs(biscuit, kind);
    }

    // ---- the table

    public int biscuit(int kind, int cells, int a) {
        if (!isWithin(kind, 0, KINDS - 1)) {
            return refused(NOBODY);
        }
        if (!isWithin(cells, 1, MOST_CELLS) || !isWithin(a, 0, MOST_A)) {
            return refused(WRONG);
        }
        if (!now.hasRoom()) {
            return refused(ROOM);
        }
        return now.addBiscuit(kind, cells, a);
    }

    public int biscuitOf(int biscuit, int what) {
        if (!now.hasBiscuit(biscuit)) {
            return refused(BEYOND);
        }
        Biscuit told = now.biscuits[biscuit];
        switch (what) {
            case 0:
                return told.kind;
            case 1:
                return told.cells;
            case 2:
                return told.a;
            case 3:
                return told.wetOfAll();
            default:
                break;
        }
        if (what < 10 || !told.hasCell(what - 10)) {
            return refused(BEYOND);
        }
        return told.wets[what - 10];
    }

    public int wet(int biscuit, int cell, int v) {
        if (!now.hasCellOf(biscuit, cell)) {
            return refused(NOBODY);
        }
        if (!isWithin(v, 0, MOST_WET)) {
            return refused(WRONG);
        }
        int was = now.biscuits[biscuit].wets[cell];
        now.biscuits[biscuit].wets[cell] = v;
        return was;
    }

    public int ask(int what, int v) {
        int was;
        if (what == 0 && isWithin(v, 0, MOST_HEAT)) {
            was = now.heat;
            now.heat = v;
        } else if (what == 1 && isWithin(v, 1, MOST_LOSS)) {
            was = now.loss;
            now.loss = v;
        } else if (what == 2 && isWithin(v, 0, MOST_TEA)) {
            was = now.tea;
            now.tea = v;
        } else {
            return refused(WRONG);
        }
        return was;
    }

    public int worthOf(int w, int v) {
        if (!isWithin(w, 0, WORTHS - 1) || !isWithin(v, 0, MOST_WORTH)) {
            return refused(WRONG);
        }
        int was = now.worths[w];
        now.worths[w] = v;
        return was;
    }

    public int table(int s) {
        int why = whyNoRow(s);
        if (why != 0) {
            return refused(why);
        }
        trial.takeOver(now);
        int items = reader.read(shelves[s]);
        latestFault = reader.fault;
        if (latestFault != NONE) {
            return refused(WRONG);
        }
        now.takeOver(trial);
        return items;
    }

    public int fault() {
        return latestFault;
    }

    // ---- a biscuit as it is

    public int soak(int biscuit, int cell) {
        if (!now.hasCellOf(biscuit, cell)) {
            return refused(NOBODY);
        }
        return now.biscuits[biscuit].soakOf(cell, now.heat);
    }

    public int cellOf(int biscuit, int cell, int what) {
        if (!now.hasCellOf(biscuit, cell)) {
            return refused(NOBODY) - 1000;
        }
        if (what == 0) {
            return now.biscuits[biscuit].holdsAt(cell);
        }
        if (what == 1) {
            return now.biscuits[biscuit].hangsOn(cell);
        }
        return refused(BEYOND) - 1000;
    }

    public int breaks(int biscuit) {
        if (!now.hasBiscuit(biscuit)) {
            return refused(NOBODY) - 10;
        }
        return now.biscuits[biscuit].breakingCell();
    }

    // ---- what would come of a dip and a carry

    public int left(int biscuit, int d, int s, int c) {
        int why = whyNoDunk(biscuit, d, s, c);
        if (why != 0) {
            return refused(why);
        }
        dunkAndCarry(now.biscuits[biscuit], d, s, c);
        return dunk.biscuit.cells;
    }

    public int wetness(int biscuit, int d, int s, int c, int i) {
        if (!now.hasBiscuit(biscuit)) {
            return refused(NOBODY);
        }
        if (i < 0) {
            return refused(BEYOND);
        }
        if (!mayBeDunk(d, s, c)) {
            return refused(WRONG);
        }
        dunkAndCarry(now.biscuits[biscuit], d, s, c);
        if (!dunk.biscuit.hasCell(i)) {
            return refused(BEYOND);
        }
        return dunk.biscuit.wets[i];
    }

    public int when(int biscuit, int d, int s, int c) {
        int why = whyNoDunk(biscuit, d, s, c);
        if (why != 0) {
            return refused(why) - 10;
        }
        dunkAndCarry(now.biscuits[biscuit], d, s, c);
        return dunk.brokeFirst;
    }

    public int longest(int biscuit, int d, int c) {
        int why = whyNoDunk(biscuit, d, 0, c);
        if (why != 0) {
            return refused(why) - 10;
        }
        dunk.begin(now.biscuits[biscuit], now.heat);
        dunk.enter(d);
        for (int s = 0; s <= MOST_SECONDS; s++) {
            if (s > 0) {
                dunk.second();
            }
            onward.goOnFrom(dunk);
            onward.stay(0, c);
            if (!onward.isWhole()) {
                return s - 1;
            }
        }
        return MOST_SECONDS;
    }

    public int far(int biscuit, int d, int s) {
        int why = whyNoDunk(biscuit, d, s, 0);
        if (why != 0) {
            return refused(why) - 10;
        }
        dunk.begin(now.biscuits[biscuit], now.heat);
        dunk.stay(d, s);
        for (int c = 0; c <= MOST_SECONDS; c++) {
            if (c > 0) {
                dunk.stay(0, 1);
            }
            if (!dunk.isWhole()) {
                return c - 1;
            }
        }
        return MOST_SECONDS;
    }

    public int worth(int biscuit, int d, int s, int c) {
        int why = whyNoDunk(biscuit, d, s, c);
        if (why != 0) {
            return refused(why);
        }
        dunkAndCarry(now.biscuits[biscuit], d, s, c);
        return now.worthOfCells(dunk.biscuit);
    }

    public int best(int biscuit, int c, int turned) {
        if (!now.hasBiscuit(biscuit)) {
            return refused(NOBODY);
        }
        if (!isWithin(turned, 0, 1)) {
            return refused(BEYOND);
        }
        if (!isWithin(c, 0, MOST_SECONDS)) {
            return refused(WRONG);
        }
        aside.become(now.biscuits[biscuit]);
        if (turned == 1) {
            aside.turnAbout();
        }
        return bestDip(aside, c);
    }

    public int twice(int biscuit, int d, int s, int e, int t) {
        if (!now.hasBiscuit(biscuit)) {
            return refused(NOBODY);
        }
        if (!mayBeDunk(d, s, 0) || !mayBeDunk(e, t, 0)) {
            return refused(WRONG);
        }
        dunk.begin(now.biscuits[biscuit], now.heat);
        dunk.stay(d, s);
        dunk.biscuit.turnAbout();
        dunk.stay(e, t);
        return now.worthOfCells(dunk.biscuit);
    }

    public int goes(int biscuit, int d, int s) {
        int why = whyNoDunk(biscuit, d, s, 0);
        if (why != 0) {
            return refused(why);
        }
        dunkAndCarry(now.biscuits[biscuit], d, s, 0);
        return dunk.took;
    }

    public int plate(int d, int s, int c, int i) {
        if (i != NONE && !now.hasBiscuit(i)) {
            return refused(BEYOND);
        }
        if (!mayBeDunk(d, s, c) || now.count > MOST_ON_PLATE) {
            return refused(WRONG);
        }
        fillPlateWorths(d, s, c);
        int most = findBestOrder();
        return i == NONE ? most : bestOrder[i];
    }

    public int rule(int u, int v, int d, int c) {
        if (!isWithin(u, 0, 99) || !isWithin(v, 1, 99) || !mayBeDunk(d, 0, c)) {
            return refused(WRONG);
        }
        int s = Math.max(0, Math.min(MOST_SECONDS, u - now.heat / v));
        int sum = 0;
        for (int b = 0; b < now.count; b++) {
            dunkAndCarry(now.biscuits[b], d, s, c);
            sum += now.worthOfCells(dunk.biscuit);
        }
        return sum;
    }

    public long back(int biscuit, int s, int d) {
        int why = whyNotBack(biscuit, s);
        if (why == 0 && !isWithin(d, 0, MOST_CELLS)) {
            why = WRONG;
        }
        if (why != 0) {
            return refused(why);
        }
        dunk.beginDry(now.biscuits[biscuit], now.heat);
        dunk.enter(d);
        long bits = 0L;
        for (int t = 0; t <= MOST_SECONDS; t++) {
            if (t > 0) {
                dunk.second();
            }
            if (dunk.isWhole() && isAsWetAs(dunk.biscuit, shelves[s])) {
                bits |= 1L << t;
            }
        }
        return bits;
    }

    public int heats(int biscuit, int s, int d, int t) {
        int why = whyNotBack(biscuit, s);
        if (why == 0 && !mayBeDunk(d, t, 0)) {
            why = WRONG;
        }
        if (why != 0) {
            return refused(why) - 10;
        }
        // SOAK goes by the tenth of HEAT alone, so that only a HEAT that ends with 0 can be the least.
        for (int heat = 0; heat <= MOST_HEAT; heat += 10) {
            dunk.beginDry(now.biscuits[biscuit], heat);
            dunk.stay(d, t);
            if (dunk.isWhole() && isAsWetAs(dunk.biscuit, shelves[s])) {
                return heat;
            }
        }
        return NONE;
    }

    public int fetch(int cells, int s) {
        if (!isWithin(cells, 1, MOST_CELLS) || !isWithin(s, 0, MOST_SECONDS)) {
            return refused(WRONG);
        }
        int bits = 0;
        for (int b = 0; b < now.count; b++) {
            if (now.biscuits[b].cells >= cells) {
                dunkAndCarry(now.biscuits[b], cells, s, 0);
                if (dunk.isWhole()) {
                    bits |= 1 << b;
                }
            }
        }
        return bits;
    }

    // ---- in truth

    public int dip(int biscuit, int d, int s) {
        int why = whyNotInTruth(biscuit, d, s, 0);
        if (why != 0) {
            return refused(why);
        }
        return now.dipInTruth(biscuit, d, s, dunk);
    }

    public int carry(int biscuit, int c) {
        int why = whyNotInTruth(biscuit, 0, 0, c);
        if (why != 0) {
            return refused(why);
        }
        return now.carryInTruth(biscuit, c, dunk);
    }

    public int turn(int biscuit) {
        if (!now.hasBiscuit(biscuit)) {
            return refused(NOBODY);
        }
        now.biscuits[biscuit].turnAbout();
        return now.biscuits[biscuit].cells;
    }

    public int eats(int biscuit) {
        int why = whyNotInTruth(biscuit, 0, 0, 0);
        if (why != 0) {
            return refused(why);
        }
        return now.eat(biscuit);
    }

    public int teas(int n) {
        if (now.count == 0) {
            return refused(BEYOND);
        }
        if (!isWithin(n, 1, MOST_TEAS)) {
            return refused(WRONG);
        }
        int pleasure = 0;
        for (int i = 0; i < n; i++) {
            pleasure += now.takeTea(dunk);
        }
        return pleasure;
    }

    public int seed(int v) {
        int was = now.seed;
        now.seed = v;
        return was;
    }

    public int act(int biscuit, int act, int x) {
        latestAct.bodies = 0;
        if (!now.hasBiscuit(biscuit) || !isWithin(act, 0, Act.ACTS - 1)) {
            return 0;
        }
        latestAct.kind = now.biscuits[biscuit].kind;
        latestAct.number = biscuit;
        latestAct.a = now.biscuits[biscuit].a;
        return Act.run(latestAct, act, latestAct.kind, x, 0);
    }

    public int trace(int i) {
        return i >= 0 && i < latestAct.bodies && i < KEPT_BODIES ? latestAct.kept[i] : NONE;
    }

    public int image() {
        imaged.takeOver(now);
        hasImage = true;
        return now.count;
    }

    public int restore() {
        if (!hasImage) {
            return refused(WRONG);
        }
        now.takeOver(imaged);
        for (int s = 0; s < MOST_SHELVES; s++) {
            if (shelves[s].biscuit >= now.count) {
                shelves[s].takeBiscuit(NONE);
            }
        }
        return now.count;
    }

    public int status(int what) {
        switch (what) {
            case 0:
                return now.count;
            case 1:
                return now.cellsOfAll();
            case 2:
                return now.heat;
            case 3:
                return now.loss;
            case 4:
                return now.tea;
            case 5:
                return now.sludge;
            case 6:
                return now.pleasure;
            case 7:
                return now.seconds;
            case 8:
                return now.seed;
            case 9:
                return latestAct.bodies;
            default:
                return isWithin(what, 10 + NOBODY, 10 + ROOM) ? refusals[what - 10] : NONE;
        }
    }

    // ---- why a call is refused: 0, or the refusal's number

    private int refused(int why) {
        if (why > 0 && why < refusals.length) {
            refusals[why]++;
        }
        return -why;
    }

    private static boolean isWithin(int v, int least, int most) {
        return v >= least && v <= most;
    }

    private static boolean isShelf(int s) {
        return s >= 0 && s < MOST_SHELVES;
    }

    private static boolean mayBeDunk(int d, int s, int c) {
        return isWithin(d, 0, MOST_CELLS) && isWithin(s, 0, MOST_SECONDS) && isWithin(c, 0, MOST_SECONDS);
    }

    private int whyNoRow(int s) {
        if (!isShelf(s)) {
            return NOBODY;
        }
        if (shelves[s].holdsRow()) {
            return 0;
        }
        return shelves[s].biscuit == NONE ? NOTHING : OTHER;
    }

    private int whyNoCopy(int p, int q, int i, int j, int n) {
        int whyFrom = whyNoRow(p);
        int whyTo = whyNoRow(q);
        if (whyFrom == NOBODY || whyTo == NOBODY) {
            return NOBODY;
        }
        if (whyFrom == OTHER || whyTo == OTHER) {
            return OTHER;
        }
        if (whyFrom == NOTHING || whyTo == NOTHING) {
            return NOTHING;
        }
        Shelf from = shelves[p];
        Shelf to = shelves[q];
        if (from.sort != to.sort) {
            return OTHER;
        }
        if (n < 0) {
            return BELOW;
        }
        return i < 0 || j < 0 || i > from.length - n || j > to.length - n ? BEYOND : 0;
    }

    private int whyNoDunk(int biscuit, int d, int s, int c) {
        if (!now.hasBiscuit(biscuit)) {
            return NOBODY;
        }
        return mayBeDunk(d, s, c) ? 0 : WRONG;
    }

    private int whyNotInTruth(int biscuit, int d, int s, int c) {
        if (!now.hasBiscuit(biscuit)) {
            return NOBODY;
        }
        return now.biscuits[biscuit].cells > 0 && mayBeDunk(d, s, c) ? 0 : WRONG;
    }

    private int whyNotBack(int biscuit, int s) {
        if (!now.hasBiscuit(biscuit)) {
            return NOBODY;
        }
        int why = whyNoRow(s);
        if (why != 0) {
            return why;
        }
        return shelves[s].length < now.biscuits[biscuit].cells ? BEYOND : 0;
    }

    // ---- what comes of dips

    private void dunkAndCarry(Biscuit biscuit, int d, int s, int c) {
        dunk.begin(biscuit, now.heat);
        dunk.stay(d, s);
        dunk.stay(0, c);
    }

    private int saysAs(Biscuit biscuit, int kind) {
        switch (kind) {
            case COAT:
            case HOLE:
            case RUSK:
                return biscuit.soakOf(0, now.heat);
            case SUGAR:
                return biscuit.a;
            case PAIR:
                return biscuit.holdsSoWet(0);
            case STALE:
                return biscuit.holdsSoWet(10);
            default:
                return biscuit.cells;
        }
    }

    private int bestDip(Biscuit biscuit, int c) {
        int most = NONE;
        int best = 0;
        for (int d = 0; d <= biscuit.cells; d++) {
            dunk.begin(biscuit, now.heat);
            dunk.enter(d);
            boolean changes = true;
            // A second that changes nothing leaves all longer dips with the worth of this one.
            for (int s = 0; s <= MOST_BEST_SECONDS && changes; s++) {
                onward.goOnFrom(dunk);
                onward.stay(0, c);
                int worth = now.worthOfCells(onward.biscuit);
                if (worth > most) {
                    most = worth;
                    best = 100 * d + s;
                }
                changes = dunk.second();
            }
        }
        return best;
    }

    private static boolean isAsWetAs(Biscuit biscuit, Shelf row) {
        for (int cell = 0; cell < biscuit.cells; cell++) {
            if ((int) row.elementAt(cell) != biscuit.wets[cell]) {
                return false;
            }
        }
        return true;
    }

    // ---- the plate

    /** The worth at a place doesn't hang on the biscuits ahead: each is told once for all orders. */
    private void fillPlateWorths(int d, int s, int c) {
        for (int place = 0; place < now.count; place++) {
            int heat = now.heatAfter(place * (s + c));
            for (int b = 0; b < now.count; b++) {
                dunk.begin(now.biscuits[b], heat);
                dunk.stay(d, s);
                dunk.stay(0, c);
                plateWorths[b * MOST_ON_PLATE + place] = now.worthOfCells(dunk.biscuit);
            }
        }
    }

    private int findBestOrder() {
        int count = now.count;
        for (int i = 0; i < count; i++) {
            order[i] = i;
        }
        int most = NONE;
        boolean more = true;
        for (int round = 0; round < PLATE_ORDERS && more; round++) {
            int worth = 0;
            for (int i = 0; i < count; i++) {
                worth += plateWorths[order[i] * MOST_ON_PLATE + i];
            }
            if (worth > most) {
                most = worth;
                System.arraycopy(order, 0, bestOrder, 0, count);
            }
            more = toNextOrder(count);
        }
        return most;
    }

    /** Makes of the order the next one by rows of numbers; false if it was the last. */
    private boolean toNextOrder(int count) {
        int rise = count - 2;
        while (rise >= 0 && order[rise] > order[rise + 1]) {
            rise--;
        }
        if (rise < 0) {
            return false;
        }
        int above = count - 1;
        while (above > rise + 1 && order[above] < order[rise]) {
            above--;
        }
        swapInOrder(rise, above);
        int low = rise + 1;
        int high = count - 1;
        while (low < high) {
            swapInOrder(low, high);
            low++;
            high--;
        }
        return true;
    }

    private void swapInOrder(int i, int j) {
        int kept = order[i];
        order[i] = order[j];
        order[j] = kept;
    }

    /** One biscuit: its kind, its a, and how wet each cell is, the lowest first. */
    private static final class Biscuit {
        int kind;
        int a;
        int cells;
        final int[] wets = new int[MOST_CELLS];

        void become(Biscuit other) {
            kind = other.kind;
            a = other.a;
            cells = other.cells;
            System.arraycopy(other.wets, 0, wets, 0, MOST_CELLS);
        }

        void becomeNew(int newKind, int newCells, int newA) {
            kind = newKind;
            a = newA;
            cells = newCells;
            dry();
        }

        void dry() {
            for (int cell = 0; cell < MOST_CELLS; cell++) {
                wets[cell] = 0;
            }
        }

        boolean hasCell(int cell) {
            return cell >= 0 && cell < cells;
        }

        boolean isOf(int wanted) {
            int above = kind;
            for (int step = 0; step < KINDS && above >= 0 && above < KINDS; step++) {
                if (above == wanted) {
                    return true;
                }
                above = ABOVE[above];
            }
            return false;
        }

        int wetOfAll() {
            int sum = 0;
            for (int cell = 0; cell < cells; cell++) {
                sum += wets[cell];
            }
            return sum;
        }

        int soakOf(int cell, int heat) {
            int plain = 1 + a + heat / 10;
            switch (kind) {
                case COAT:
                case SUGAR:
                    return plain / 2;
                case HOLE:
                case PAIR:
                    return cell == cells / 2 ? plain * 2 : plain;
                case RUSK:
                case STALE:
                    return plain * 2;
                default:
                    return plain;
            }
        }

        int creepInto(int cell) {
            if (cell < 1 || cell >= cells) {
                return 0;
            }
            int wetter = wets[cell - 1] - wets[cell];
            if (wetter <= 0) {
                return 0;
            }
            return kind == SUGAR ? wetter / 2 : wetter / 4;
        }

        int holdsSoWet(int wet) {
            int dry = 60;
            if (kind == PAIR) {
                dry += 40;
            } else if (kind == STALE) {
                dry += a;
            }
            return dry - wet;
        }

        int holdsAt(int cell) {
            return hasCell(cell) ? holdsSoWet(wets[cell]) : 0;
        }

        int hangsOn(int cell) {
            int sum = 0;
            for (int below = 0; below < cell && below < cells; below++) {
                sum += 1 + wets[below] / 20;
            }
            return sum;
        }

        int breakingCell() {
            int hangs = 0;
            for (int cell = 1; cell < cells; cell++) {
                hangs += 1 + wets[cell - 1] / 20;
                if (hangs > holdsSoWet(wets[cell])) {
                    return cell;
                }
            }
            return NONE;
        }

        void loseBelow(int cell) {
            if (!hasCell(cell)) {
                return;
            }
            cells -= cell;
            System.arraycopy(wets, cell, wets, 0, cells);
        }

        void turnAbout() {
            for (int low = 0; low < cells / 2; low++) {
                int high = cells - 1 - low;
                int kept = wets[low];
                wets[low] = wets[high];
                wets[high] = kept;
            }
        }
    }

    /** A biscuit's way through dips and carries, second by second; the biscuit it began with stays as it is. */
    private static final class Dunk {
        final Biscuit biscuit = new Biscuit();
        int heat;
        int depth;
        int seconds;
        int brokeFirst;
        int gone;
        int took;

        void begin(Biscuit from, int byHeat) {
            biscuit.become(from);
            heat = byHeat;
            depth = 0;
            seconds = 0;
            brokeFirst = NONE;
            gone = 0;
            took = 0;
        }

        void beginDry(Biscuit from, int byHeat) {
            begin(from, byHeat);
            biscuit.dry();
        }

        void goOnFrom(Dunk other) {
            biscuit.become(other.biscuit);
            heat = other.heat;
            depth = other.depth;
            seconds = other.seconds;
            brokeFirst = other.brokeFirst;
            gone = other.gone;
            took = other.took;
        }

        boolean isWhole() {
            return gone == 0;
        }

        void enter(int d) {
            depth = Math.min(d, biscuit.cells);
        }

        /** So many seconds that deep; a carry is 0 deep. */
        void stay(int d, int s) {
            enter(d);
            int end = seconds + s;
            boolean changes = true;
            // What a second leaves as it was, all later ones leave so too.
            for (int i = 0; i < s && changes; i++) {
                changes = second();
            }
            seconds = end;
        }

        /** One second, and what breaks behind it; false if all stays as it was. */
        boolean second() {
            boolean changes = false;
            // From the top down, so that the cell below still is as wet as it was ahead.
            for (int cell = biscuit.cells - 1; cell >= 0; cell--) {
                int was = biscuit.wets[cell];
                boolean inTea = cell < depth;
                int by = inTea ? biscuit.soakOf(cell, heat) : biscuit.creepInto(cell);
                int becomes = Math.min(MOST_WET, was + by);
                if (inTea) {
                    took += becomes - was;
                }
                if (becomes != was) {
                    changes = true;
                }
                biscuit.wets[cell] = becomes;
            }
            seconds++;
            int at = biscuit.breakingCell();
            if (at == NONE) {
                return changes;
            }
            biscuit.loseBelow(at);
            depth = Math.max(0, depth - at);
            gone += at;
            if (brokeFirst == NONE) {
                brokeFirst = seconds;
            }
            return true;
        }
    }

    /** All that an image keeps: the biscuits, the cup, the worths, the pleasure, the seconds, the seed. */
    private static final class State {
        final Biscuit[] biscuits = new Biscuit[MOST_BISCUITS];
        final int[] worths = new int[WORTHS];
        int count;
        int heat = 60;
        int loss = 20;
        int tea = 1000;
        int sludge;
        int pleasure;
        int seconds;
        int seed = 1;

        State() {
            for (int b = 0; b < MOST_BISCUITS; b++) {
                biscuits[b] = new Biscuit();
            }
        }

        void takeOver(State other) {
            for (int b = 0; b < MOST_BISCUITS; b++) {
                biscuits[b].become(other.biscuits[b]);
            }
            System.arraycopy(other.worths, 0, worths, 0, WORTHS);
            count = other.count;
            heat = other.heat;
            loss = other.loss;
            tea = other.tea;
            sludge = other.sludge;
            pleasure = other.pleasure;
            seconds = other.seconds;
            seed = other.seed;
        }

        boolean hasBiscuit(int biscuit) {
            return biscuit >= 0 && biscuit < count;
        }

        boolean hasCellOf(int biscuit, int cell) {
            return hasBiscuit(biscuit) && biscuits[biscuit].hasCell(cell);
        }

        boolean hasRoom() {
            return count < MOST_BISCUITS;
        }

        int addBiscuit(int kind, int cells, int a) {
            if (!hasRoom()) {
                return NONE;
            }
            biscuits[count].becomeNew(kind, cells, a);
            count++;
            return count - 1;
        }

        int cellsOfAll() {
            int sum = 0;
            for (int b = 0; b < count; b++) {
                sum += biscuits[b].cells;
            }
            return sum;
        }

        int worthOfCells(Biscuit biscuit) {
            int sum = 0;
            for (int cell = 0; cell < biscuit.cells; cell++) {
                int w = biscuit.wets[cell] / 10;
                if (isWithin(w, 0, WORTHS - 1)) {
                    sum += worths[w];
                }
            }
            return sum;
        }

        int heatAfter(int more) {
            int falls = loss > 0 ? (seconds + more) / loss - seconds / loss : 0;
            return Math.max(0, heat - falls);
        }

        void pass(int more) {
            heat = heatAfter(more);
            seconds += more;
        }

        int dipInTruth(int biscuit, int d, int s, Dunk dunk) {
            if (!hasBiscuit(biscuit)) {
                return 0;
            }
            dunk.begin(biscuits[biscuit], heat);
            dunk.stay(d, s);
            biscuits[biscuit].become(dunk.biscuit);
            tea = Math.max(0, tea - dunk.took);
            sludge += dunk.gone;
            pass(s);
            return dunk.gone;
        }

        int carryInTruth(int biscuit, int c, Dunk dunk) {
            if (!hasBiscuit(biscuit)) {
                return 0;
            }
            dunk.begin(biscuits[biscuit], heat);
            dunk.stay(0, c);
            biscuits[biscuit].become(dunk.biscuit);
            pass(c);
            return dunk.gone;
        }

        int eat(int biscuit) {
            if (!hasBiscuit(biscuit)) {
                return 0;
            }
            int worth = worthOfCells(biscuits[biscuit]);
            pleasure += worth;
            biscuits[biscuit].cells = 0;
            return worth;
        }

        int takeTea(Dunk dunk) {
            int biscuit = draw(count);
            if (!hasBiscuit(biscuit) || biscuits[biscuit].cells == 0) {
                return 0;
            }
            int d = draw(biscuits[biscuit].cells + 1);
            int s = draw(10);
            dipInTruth(biscuit, d, s, dunk);
            carryInTruth(biscuit, draw(6), dunk);
            return eat(biscuit);
        }

        private int draw(int n) {
            seed = seed * 1103515245 + 12345;
            return n > 0 ? (seed >>> 16) % n : 0;
        }
    }

    /** What stands in one place of the shelf: nothing, a row, or a biscuit's number. */
    private static final class Shelf {
        final long[] elements = new long[MOST_ELEMENTS];
        int sort = NONE;
        int length;
        int biscuit = NONE;

        void takeRow(int newSort, int n) {
            biscuit = NONE;
            sort = newSort;
            length = n;
            for (int i = 0; i < MOST_ELEMENTS; i++) {
                elements[i] = 0L;
            }
        }

        void takeBiscuit(int number) {
            biscuit = number;
            sort = NONE;
            length = 0;
        }

        boolean holdsRow() {
            return sort != NONE;
        }

        int tellsWhatItHolds() {
            return holdsRow() ? 100 + sort : biscuit;
        }

        boolean hasElement(int i) {
            return i >= 0 && i < length;
        }

        long elementAt(int i) {
            return hasElement(i) ? elements[i] : 0L;
        }

        void put(int i, long v) {
            if (hasElement(i)) {
                elements[i] = lowestBits(v);
            }
        }

        private long lowestBits(long v) {
            switch (sort) {
                case 0:
                    return (byte) v;
                case 1:
                    return (short) v;
                case 2:
                    return (int) v;
                default:
                    return v;
            }
        }
    }

    /** Reads a table's text from a row and tells it, item by item, to a state. */
    private static final class Reader {
        static final int TO_BISCUIT = 0;
        static final int TO_WET = 1;
        static final int TO_HEAT = 2;
        static final int TO_LOSS = 3;
        static final int TO_TEA = 4;
        static final int TO_WORTH = 5;
        static final int TO_DIP = 6;
        static final int WORDS = 7;
        static final int MOST_NUMBERS = 3;
        static final int MOST_DIGITS = 4;

        final State state;
        final Dunk dunk;
        final int[] text = new int[MOST_ELEMENTS];
        final int[] numbers = new int[MOST_NUMBERS];
        int length;
        int place;
        int fault = NONE;

        Reader(State told, Dunk forDips) {
            state = told;
            dunk = forDips;
        }

        /** How many items; with a fault the number tells nothing, and the state is told a part only. */
        int read(Shelf row) {
            for (int i = 0; i < MOST_ELEMENTS; i++) {
                text[i] = (int) row.elementAt(i);
            }
            length = row.length;
            place = 0;
            fault = NONE;
            int items = 0;
            boolean more = true;
            for (int i = 0; i < MOST_ELEMENTS && more; i++) {
                int word = readWord();
                if (!readNumbers(word)) {
                    return items;
                }
                if (word == TO_DIP) {
                    state.dipInTruth(numbers[0], numbers[1], numbers[2], dunk);
                } else {
                    tell(word);
                }
                items++;
                more = place < length && takes(';');
            }
            return items;
        }

        /** The element at a place; behind the end one that is no letter. */
        private int letter(int at) {
            return at >= 0 && at < length && at < MOST_ELEMENTS ? text[at] : NONE;
        }

        private boolean takes(char wanted) {
            if (letter(place) != wanted) {
                fault = place;
                return false;
            }
            place++;
            return true;
        }

        private int readWord() {
            int farthest = 0;
            for (int word = 0; word < WORDS; word++) {
                String letters = lettersOf(word);
                int same = 0;
                while (same < letters.length() && letter(place + same) == letters.charAt(same)) {
                    same++;
                }
                if (same == letters.length()) {
                    return standsWhole(word, same);
                }
                farthest = Math.max(farthest, same);
            }
            fault = place + farthest;
            return NONE;
        }

        private int standsWhole(int word, int letters) {
            if (word == TO_BISCUIT && !state.hasRoom()) {
                fault = place;
                return NONE;
            }
            place += letters;
            return word;
        }

        private boolean readNumbers(int word) {
            if (word == NONE) {
                return false;
            }
            int many = numbersOf(word);
            for (int i = 0; i < many && i < MOST_NUMBERS; i++) {
                if (!takes(' ') || !readNumber(word, i)) {
                    return false;
                }
            }
            return true;
        }

        private boolean readNumber(int word, int i) {
            int first = place;
            int number = 0;
            int digits = 0;
            while (digits < MOST_DIGITS && isWithin(letter(place), '0', '9')) {
                number = number * 10 + letter(place) - '0';
                digits++;
                place++;
            }
            numbers[i] = number;
            // Without digits the first place is that of the element that should have been one.
            if (digits == 0 || !mayBe(word, i, number)) {
                fault = first;
                return false;
            }
            return true;
        }

        private static String lettersOf(int word) {
            switch (word) {
                case TO_BISCUIT:
                    return "biscuit";
                case TO_WET:
                    return "wet";
                case TO_HEAT:
                    return "heat";
                case TO_LOSS:
                    return "loss";
                case TO_TEA:
                    return "tea";
                case TO_WORTH:
                    return "worth";
                default:
                    return "dip";
            }
        }

        private static int numbersOf(int word) {
            switch (word) {
                case TO_BISCUIT:
                case TO_WET:
                case TO_DIP:
                    return 3;
                case TO_WORTH:
                    return 2;
                default:
                    return 1;
            }
        }

        private boolean mayBe(int word, int i, int number) {
            switch (word) {
                case TO_BISCUIT:
                    return i == 0 ? number < KINDS
                        : i == 1 ? isWithin(number, 1, MOST_CELLS) : number <= MOST_A;
                case TO_WET:
                    return i == 0 ? state.hasBiscuit(number)
                        : i == 1 ? state.hasCellOf(numbers[0], number) : number <= MOST_WET;
                case TO_HEAT:
                    return number <= MOST_HEAT;
                case TO_LOSS:
                    return isWithin(number, 1, MOST_LOSS);
                case TO_TEA:
                    return number <= MOST_TEA;
                case TO_WORTH:
                    return i == 0 ? number < WORTHS : number <= MOST_WORTH;
                default:
                    return i == 0 ? state.hasBiscuit(number) && state.biscuits[number].cells > 0
                        : i == 1 ? number <= MOST_CELLS : number <= MOST_SECONDS;
            }
        }

        private void tell(int word) {
            switch (word) {
                case TO_BISCUIT:
                    state.addBiscuit(numbers[0], numbers[1], numbers[2]);
                    break;
                case TO_WET:
                    if (state.hasCellOf(numbers[0], numbers[1])) {
                        state.biscuits[numbers[0]].wets[numbers[1]] = numbers[2];
                    }
                    break;
                case TO_HEAT:
                    state.heat = numbers[0];
                    break;
                case TO_LOSS:
                    state.loss = numbers[0];
                    break;
                case TO_TEA:
                    state.tea = numbers[0];
                    break;
                default:
                    if (isWithin(numbers[0], 0, WORTHS - 1)) {
                        state.worths[numbers[0]] = numbers[1];
                    }
                    break;
            }
        }
    }

    /** One act of a biscuit, and the bodies that ran in it. */
    private static final class Act {
        static final int SOAKS = 0;
        static final int CREEPS = 1;
        static final int BREAKS = 2;
        static final int ACTS = 3;
        static final int MOST_DEPTH = 40;
        /** The body of each kind for each act, kind by kind; 0 where it has none. */
        static final int[] BODIES = {
            10, 11, 12, 20, 0, 0, 0, 30, 0, 0, 40, 0, 51, 0, 50, 0, 0, 60, 70, 71, 0};

        final int[] kept = new int[KEPT_BODIES];
        int kind;
        int number;
        int a;
        int bodies;

        /** Runs the body of a kind, or of the next above it that has one. */
        private static int run(Act act, int what, int from, int x, int depth) {
            int owner = ownerOf(what, from);
            if (owner == NONE || depth > MOST_DEPTH) {
                return 0;
            }
            int body = BODIES[owner * ACTS + what];
            act.begins(body);
            int above = ABOVE[owner];
            int next = depth + 1;
            switch (body) {
                case 10:
                    return x + act.number;
                case 11:
                    return run(act, SOAKS, act.kind, x, next) * 2;
                case 12:
                    return run(act, CREEPS, act.kind, x, next) ^ run(act, SOAKS, act.kind, x - act.a, next);
                case 20:
                    return run(act, SOAKS, above, x, next) + act.a;
                case 30:
                    return run(act, CREEPS, above, x, next) * 3;
                case 40:
                    return run(act, CREEPS, above, x + 1, next);
                case 50:
                    return -run(act, BREAKS, above, x, next);
                case 51:
                    return run(act, SOAKS, above, x, next) - act.number;
                case 60:
                    return run(act, BREAKS, above, x, next) ^ 5;
                case 70:
                    return run(act, SOAKS, above, x, next) * 2;
                case 71:
                    return run(act, CREEPS, above, x - act.a, next);
                default:
                    return 0;
            }
        }

        private static int ownerOf(int what, int from) {
            int owner = from;
            for (int step = 0; step < KINDS && isWithin(owner, 0, KINDS - 1) && isWithin(what, 0, ACTS - 1); step++) {
                if (BODIES[owner * ACTS + what] != 0) {
                    return owner;
                }
                owner = ABOVE[owner];
            }
            return NONE;
        }

        private void begins(int body) {
            if (bodies < KEPT_BODIES) {
                kept[bodies] = body;
            }
            bodies++;
        }
    }
}
