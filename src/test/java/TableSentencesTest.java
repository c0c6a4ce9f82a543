/**
 * Each sentence of "1. THE TABLE", of the Details on texts, and of promises 1 to 15, that names a boundary case, by a
 * test of its own; what is refused, and in what order, is tested in RefusalsTest.
 */
public final class TableSentencesTest {
    private static int wrong = 0;
    private static String sentence = "";

    private static void due(long got, long want) {
        if (got != want) {
            wrong++;
            System.out.println(sentence + ": " + got + ", due is " + want);
        }
    }

    public static void main(String[] args) {
        sixBiscuitsAtMost();
        numbersFromNoughtOn();
        leastAndMostOfABiscuit();
        dryAtFirst();
        leastAndMostWet();
        theCupAtFirst();
        leastAndMostOfTheCup();
        tenWorths();
        itemsBySemicolons();
        aFullRowOfItems();
        leastAndMostInATable();
        dipsInATable();
        oneBlank();
        oneToFourDigits();
        numbersMayBeginWithNought();
        overWhatThereIs();
        allOrNothing();
        noRoomItsWord();
        roomIsAskedWhenTheWordStandsWhole();
        aDipWithoutCells();
        aWetWithoutCells();
        cellsGoneByADipOfTheText();
        firstPlaceThatCannotStand();
        endsTooEarly();
        wordsAlike();
        firstDigitOfANumber();
        lettersOfAllSorts();
        lowestBitsOfLongs();
        theLatestFault();
        sortsKeepLowestBits();
        rowsOfAllSizes();
        aNewRowIsNought();
        copyAsTheyWereAhead();
        copyToTheVeryEnd();
        elementsThatAreNotThere();
        shelvesHold();
        saysByKinds();
        saysWithoutCells();
        System.out.println(wrong == 0 ? "sentences of tables: as due" : "sentences of tables: " + wrong + " not as due");
        if (wrong != 0) {
            System.exit(1);
        }
    }

    private static DunkedBiscuits with(int... cells) {
        DunkedBiscuits x = new DunkedBiscuits();
        for (int n : cells) {
            x.biscuit(0, n, 0);
        }
        return x;
    }

    private static void put(DunkedBiscuits x, int s, int sort, String text) {
        x.row(s, sort, text.length());
        for (int i = 0; i < text.length(); i++) {
            x.set(s, i, text.charAt(i));
        }
    }

    /** A text without a fault: so many items. */
    private static void items(DunkedBiscuits x, String text, int items) {
        put(x, 7, 0, text);
        due(x.table(7), items);
        due(x.fault(), -1);
    }

    private static void fault(DunkedBiscuits x, String text, int place) {
        put(x, 7, 1, text);
        int refused = x.status(16);
        due(x.table(7), -6);
        if (x.fault() != place) {
            System.out.println("'" + text + "'");
        }
        due(x.fault(), place);
        due(x.status(16), refused + 1);
    }

    // ---- biscuits and the cup

    private static void sixBiscuitsAtMost() {
        sentence = "6 at most";
        DunkedBiscuits x = with(1, 1, 1, 1, 1);
        due(x.biscuit(0, 1, 0), 5);
        due(x.biscuit(0, 1, 0), -7);
        due(x.status(0), 6);
        x.eats(0);
        due(x.biscuit(0, 1, 0), -7);
    }

    private static void numbersFromNoughtOn() {
        sentence = "BISCUITS have numbers, from 0 on";
        DunkedBiscuits x = new DunkedBiscuits();
        for (int b = 0; b < 6; b++) {
            due(x.biscuit(6 - b, 1, 0), b);
            due(x.biscuitOf(b, 0), 6 - b);
        }
    }

    private static void leastAndMostOfABiscuit() {
        sentence = "each of a KIND (0 to 6), a (0 to 9), CELLS (1 to 12)";
        DunkedBiscuits x = new DunkedBiscuits();
        due(x.biscuit(0, 1, 0), 0);
        due(x.biscuit(6, 12, 9), 1);
        due(x.biscuitOf(0, 0), 0);
        due(x.biscuitOf(0, 1), 1);
        due(x.biscuitOf(0, 2), 0);
        due(x.biscuitOf(1, 0), 6);
        due(x.biscuitOf(1, 1), 12);
        due(x.biscuitOf(1, 2), 9);
    }

    private static void dryAtFirst() {
        sentence = "WET (0 at first)";
        DunkedBiscuits x = with(12);
        x.wet(0, 3, 50);
        x.image();
        x.biscuit(0, 12, 0);
        x.wet(1, 11, 70);
        x.restore();
        // the room of a BISCUIT that the IMAGE doesn't have is used again
        x.biscuit(0, 12, 0);
        for (int cell = 0; cell < 12; cell++) {
            due(x.biscuitOf(1, 10 + cell), 0);
        }
        due(x.biscuitOf(1, 3), 0);
    }

    private static void leastAndMostWet() {
        sentence = "each WET (0 to 99)";
        DunkedBiscuits x = with(12);
        due(x.wet(0, 0, 99), 0);
        due(x.wet(0, 11, 99), 0);
        due(x.wet(0, 0, 0), 99);
        due(x.biscuitOf(0, 10), 0);
        due(x.biscuitOf(0, 21), 99);
        due(x.biscuitOf(0, 3), 99);
    }

    private static void theCupAtFirst() {
        sentence = "HEAT 60, LOSS 20, TEA 1000, SLUDGE 0, PLEASURE 0, SEED 1 at first";
        DunkedBiscuits x = new DunkedBiscuits();
        int[] first = {0, 0, 60, 20, 1000, 0, 0, 0, 1, 0};
        for (int what = 0; what < first.length; what++) {
            due(x.status(what), first[what]);
        }
    }

    private static void leastAndMostOfTheCup() {
        sentence = "HEAT (0 to 99), LOSS (1 to 99), TEA (0 to 9999)";
        DunkedBiscuits x = new DunkedBiscuits();
        int[][] bounds = {{0, 0, 99, 60}, {1, 1, 99, 20}, {2, 0, 9999, 1000}};
        for (int[] b : bounds) {
            due(x.ask(b[0], b[1]), b[3]);
            due(x.status(2 + b[0]), b[1]);
            due(x.ask(b[0], b[2]), b[1]);
            due(x.status(2 + b[0]), b[2]);
            due(x.ask(b[0], b[1] - 1), -6);
            due(x.ask(b[0], b[2] + 1), -6);
            due(x.status(2 + b[0]), b[2]);
        }
    }

    private static void tenWorths() {
        sentence = "WORTHS of a CELL that is so WET by 10 (cut, 0 to 9): 0 to 99 each (0 at first)";
        DunkedBiscuits x = with(1);
        for (int w = 0; w < 10; w++) {
            due(x.worthOf(w, 99), 0);
            due(x.worthOf(w, 0), 99);
            due(x.worthOf(w, 10 + w), 0);
        }
        for (int wet = 0; wet < 100; wet++) {
            x.wet(0, 0, wet);
            due(x.worth(0, 0, 0, 0), 10 + wet / 10);
        }
    }

    // ---- texts

    private static void itemsBySemicolons() {
        sentence = "ITEM, then any number of times ; and ITEM";
        DunkedBiscuits x = with(1);
        items(x, "heat 1", 1);
        items(x, "heat 2;heat 3", 2);
        due(x.status(2), 3);
        fault(x, "", 0);
        fault(x, ";", 0);
        fault(x, ";heat 1", 0);
        fault(x, "heat 1;", 7);
        fault(x, "heat 1;;heat 2", 7);
        fault(x, "heat 1,heat 2", 6);
        fault(x, "heat 1 heat 2", 6);
        due(x.status(2), 3);
    }

    private static void aFullRowOfItems() {
        sentence = "a ROW has 160 elements at most";
        DunkedBiscuits x = new DunkedBiscuits();
        // 26 times 6 and 4 more: 160 signs
        full(x, "tea 1;".repeat(26) + "tea ", -6, 160);
        full(x, "tea 1;".repeat(25) + "tea 000004", -6, 158);
        full(x, "tea 1;".repeat(25) + "worth 5 99", 26, -1);
        due(x.worthOf(5, 0), 99);
        due(x.status(4), 1);
    }

    private static void full(DunkedBiscuits x, String text, int answer, int place) {
        due(text.length(), 160);
        put(x, 7, 2, text);
        due(x.table(7), answer);
        due(x.fault(), place);
    }

    private static void leastAndMostInATable() {
        sentence = "biscuit K N A; wet B C N; heat N; loss N; tea N; worth W N (W 0 to 9); dip B D S";
        DunkedBiscuits x = new DunkedBiscuits();
        items(x, "biscuit 0 1 0;biscuit 6 12 9;biscuit 0 1 0;biscuit 0 1 0;biscuit 0 1 0;biscuit 5 2 3", 6);
        items(x, "wet 0 0 0;wet 1 11 99;wet 5 1 1", 3);
        items(x, "heat 0;loss 1;tea 0;worth 0 0;worth 9 99;dip 0 0 0;dip 5 12 0", 7);
        items(x, "heat 99;loss 99;tea 9999;dip 0 0 60;dip 4 12 60", 5);
        // HEAT 99 falls at SECOND 99; SOAK 1 and 9 to 99
        due(x.status(2), 98);
        due(x.status(3), 99);
        due(x.status(4), 9999 - 99);
        due(x.status(7), 120);
        due(x.biscuitOf(1, 0), 6);
        due(x.biscuitOf(1, 1), 12);
        due(x.biscuitOf(1, 2), 9);
        due(x.biscuitOf(1, 21), 99);
        due(x.biscuitOf(4, 10), 99);
        due(x.worthOf(9, 1), 99);
        fault(x, "wet 6 0 0", 4);
        fault(x, "wet 1 12 0", 6);
        fault(x, "wet 0 1 0", 6);
        fault(x, "wet 1 11 100", 9);
        fault(x, "heat 100", 5);
        fault(x, "loss 0", 5);
        fault(x, "loss 100", 5);
        fault(x, "worth 10 0", 6);
        fault(x, "worth 9 100", 8);
        fault(x, "dip 6 0 0", 4);
        fault(x, "dip 1 13 0", 6);
        fault(x, "dip 1 12 61", 9);
        DunkedBiscuits y = new DunkedBiscuits();
        fault(y, "biscuit 7 1 0", 8);
        fault(y, "biscuit 6 0 0", 10);
        fault(y, "biscuit 6 13 0", 10);
        fault(y, "biscuit 6 12 10", 13);
        fault(y, "wet 0 0 0", 4);
        fault(y, "dip 0 0 0", 4);
    }

    private static void dipsInATable() {
        sentence = "dip B D S (in truth, if it may be)";
        DunkedBiscuits x = with(3);
        x.wet(0, 2, 60);
        items(x, "dip 0 2 1", 1);
        due(x.status(5), 2);
        due(x.status(4), 1000 - 14);
        due(x.status(7), 1);
        due(x.biscuitOf(0, 1), 1);
        due(x.biscuitOf(0, 10), 60);
        // by what is told ahead of it in the same text
        DunkedBiscuits y = with(1);
        items(y, "heat 0;loss 2;tea 3;dip 0 1 4;dip 0 1 1", 5);
        due(y.biscuitOf(0, 10), 5);
        due(y.status(4), 0);
        due(y.status(2), 0);
        due(y.status(7), 5);
    }

    private static void oneBlank() {
        sentence = "One blank between words and NUMBERS";
        DunkedBiscuits x = with(2);
        fault(x, "heat1", 4);
        fault(x, "heat  1", 5);
        fault(x, "heat\t1", 4);
        fault(x, "wet 0  1 1", 6);
        fault(x, "wet 0,1 1", 5);
        fault(x, "wet 0 1 1 ", 9);
        fault(x, " heat 1", 0);
        fault(x, "heat 1 ;heat 1", 6);
        fault(x, "heat 1; heat 1", 7);
    }

    private static void oneToFourDigits() {
        sentence = "NUMBERS (1 to 4 digits)";
        DunkedBiscuits x = with(2);
        items(x, "tea 5", 1);
        due(x.status(4), 5);
        items(x, "tea 1234", 1);
        due(x.status(4), 1234);
        fault(x, "tea 12345", 8);
        fault(x, "tea 00001", 8);
        fault(x, "worth 00001 1", 10);
        fault(x, "worth 1 00001", 12);
        fault(x, "tea ", 4);
        fault(x, "tea ;", 4);
        fault(x, "tea -1", 4);
        fault(x, "tea x", 4);
        fault(x, "tea /", 4);
        fault(x, "tea :", 4);
        fault(x, "tea 1:", 5);
        fault(x, "tea 1/", 5);
        due(x.status(4), 1234);
    }

    private static void numbersMayBeginWithNought() {
        sentence = "Numbers of a text may begin with 0";
        DunkedBiscuits x = new DunkedBiscuits();
        items(x, "biscuit 0003 0012 0009;wet 00 011 099;worth 0009 0099;heat 007;loss 01;dip 0000 012 0000", 6);
        due(x.biscuitOf(0, 0), 3);
        due(x.biscuitOf(0, 1), 12);
        due(x.biscuitOf(0, 2), 9);
        due(x.biscuitOf(0, 21), 99);
        due(x.worthOf(9, 0), 99);
        due(x.status(2), 7);
        due(x.status(3), 1);
        items(x, "tea 0000", 1);
        due(x.status(4), 0);
    }

    private static void overWhatThereIs() {
        sentence = "All is told over what there is";
        DunkedBiscuits x = with(2);
        x.wet(0, 0, 11);
        x.worthOf(3, 33);
        x.seed(9);
        items(x, "biscuit 1 3 0;wet 0 1 22;wet 1 2 44;heat 5", 4);
        due(x.status(0), 2);
        due(x.biscuitOf(0, 10), 11);
        due(x.biscuitOf(0, 11), 22);
        due(x.biscuitOf(1, 12), 44);
        due(x.worthOf(3, 0), 33);
        due(x.status(3), 20);
        due(x.status(4), 1000);
        due(x.status(8), 9);
    }

    private static void allOrNothing() {
        sentence = "All is told, or nothing";
        DunkedBiscuits x = with(3);
        x.wet(0, 2, 60);
        fault(x, "heat 1;loss 1;tea 1;worth 1 1;wet 0 0 50;biscuit 0 1 0;dip 0 2 1;dip 1 1 1;heat 1x", 81);
        int[] stays = {1, 3, 60, 20, 1000, 0, 0, 0, 1};
        for (int what = 0; what < stays.length; what++) {
            due(x.status(what), stays[what]);
        }
        due(x.biscuitOf(0, 3), 60);
        due(x.worthOf(1, 0), 0);
        due(x.biscuit(0, 1, 0), 1);
        due(x.biscuitOf(1, 3), 0);
    }

    private static void noRoomItsWord() {
        sentence = "what there is no room for can't stand: its word";
        DunkedBiscuits x = with(1, 1, 1, 1);
        fault(x, "biscuit 0 1 0;biscuit 0 1 0;biscuit 0 1 0", 28);
        due(x.status(0), 4);
        items(x, "biscuit 0 1 0;biscuit 0 1 0", 2);
        fault(x, "biscuit 0 1 0", 0);
        fault(x, "heat 1;biscuit 0 1 0", 7);
        due(x.status(2), 60);
        due(x.status(17), 0);
    }

    private static void roomIsAskedWhenTheWordStandsWhole() {
        sentence = "Whether there is room for a word is asked when its letters stand whole";
        DunkedBiscuits x = with(1, 1, 1, 1, 1, 1);
        fault(x, "b", 1);
        fault(x, "biscui", 6);
        fault(x, "biscuix 0 1 0", 6);
        fault(x, "bx", 1);
        fault(x, "biscuit", 0);
        fault(x, "biscuitx", 0);
        fault(x, "biscuit 9 99 99", 0);
        fault(x, "tea 1;biscuix", 12);
        fault(x, "tea 1;biscuit", 6);
        DunkedBiscuits y = with(1, 1, 1, 1, 1);
        fault(y, "biscuit", 7);
        fault(y, "biscuitx", 7);
    }

    private static void aDipWithoutCells() {
        sentence = "a dip of a BISCUIT without CELLS: B";
        DunkedBiscuits x = with(2, 2);
        x.eats(0);
        fault(x, "dip 0 1 1", 4);
        fault(x, "dip 000 1 1", 4);
        fault(x, "dip 0", 4);
        fault(x, "dip 1 1 1;dip 0 0 0", 14);
        due(x.biscuitOf(1, 3), 0);
        items(x, "dip 1 1 1", 1);
    }

    private static void aWetWithoutCells() {
        sentence = "wet B C N: of a BISCUIT without CELLS no C may be";
        DunkedBiscuits x = with(2, 2);
        x.eats(0);
        fault(x, "wet 0 0 1", 6);
        fault(x, "wet 0 00 1", 6);
        items(x, "wet 1 0 1", 1);
    }

    private static void cellsGoneByADipOfTheText() {
        sentence = "told one ITEM after the other: a CELL gone by a dip of the text may not be wet";
        DunkedBiscuits x = with(3);
        x.wet(0, 2, 60);
        fault(x, "dip 0 2 1;wet 0 1 5", 16);
        due(x.biscuitOf(0, 1), 3);
        items(x, "wet 0 1 5;dip 0 2 1;wet 0 0 7", 3);
        due(x.biscuitOf(0, 1), 1);
        due(x.biscuitOf(0, 10), 7);
        items(x, "biscuit 0 1 0;wet 1 0 5;dip 1 1 1", 3);
        due(x.biscuitOf(1, 10), 12);
    }

    private static void firstPlaceThatCannotStand() {
        sentence = "The FAULT: the first place at which an element can't stand";
        DunkedBiscuits x = with(1);
        fault(x, "x", 0);
        fault(x, "Heat 1", 0);
        fault(x, "hxat 1", 1);
        fault(x, "hext 1", 2);
        fault(x, "heax 1", 3);
        fault(x, "heatx1", 4);
        fault(x, "heat x", 5);
        fault(x, "heat 1x", 6);
        fault(x, "heat 1;x", 7);
        fault(x, "heat 100;x", 5);
        fault(x, "x;heat 100", 0);
        fault(x, "lost 1", 3);
        fault(x, "los 1", 3);
    }

    private static void endsTooEarly() {
        sentence = "the number of elements, if it ends too early";
        String[] texts = {"biscuit 1 1 0", "wet 0 0 1", "heat 1", "loss 1", "tea 1", "worth 1 1", "dip 0 1 1"};
        for (String text : texts) {
            DunkedBiscuits x = with(1);
            // its last NUMBER has one digit
            for (int n = 0; n < text.length(); n++) {
                fault(x, text.substring(0, n), n);
            }
            items(x, text, 1);
        }
        DunkedBiscuits x = with(1);
        fault(x, "heat 1;", 7);
        fault(x, "heat 1;heat", 11);
    }

    private static void wordsAlike() {
        sentence = "wet and worth begin alike";
        DunkedBiscuits x = with(1);
        fault(x, "w", 1);
        fault(x, "wx", 1);
        fault(x, "we", 2);
        fault(x, "wex", 2);
        fault(x, "weth", 3);
        fault(x, "wo", 2);
        fault(x, "wot", 2);
        fault(x, "wort", 4);
        fault(x, "wort 1", 4);
    }

    private static void firstDigitOfANumber() {
        sentence = "of a NUMBER that may not be the place of its first digit";
        DunkedBiscuits x = with(1);
        fault(x, "heat 100", 5);
        fault(x, "heat 0100", 5);
        fault(x, "heat 9999", 5);
        fault(x, "loss 000", 5);
        fault(x, "biscuit 0007 1 1", 8);
        fault(x, "biscuit 0006 0013 1", 13);
        fault(x, "biscuit 0006 0012 0010", 18);
        fault(x, "wet 0001 0 1", 4);
        fault(x, "wet 0000 0001 1", 9);
        fault(x, "wet 0000 0000 0100", 14);
        fault(x, "worth 0010 1", 6);
        fault(x, "worth 0009 0100", 11);
        fault(x, "dip 0001 1 1", 4);
        fault(x, "dip 0000 0013 1", 9);
        fault(x, "dip 0000 0012 0061", 14);
        // ahead of what stands behind it
        fault(x, "heat 100x", 5);
        fault(x, "wet 9", 4);
        fault(x, "loss 0x", 5);
    }

    private static void lettersOfAllSorts() {
        sentence = "A TABLE is read from a ROW of letters, of any SORT";
        for (int sort = 0; sort < 4; sort++) {
            DunkedBiscuits x = new DunkedBiscuits();
            put(x, sort, sort, "heat 77;loss 7");
            due(x.table(sort), 2);
            due(x.status(2), 77);
            x.set(sort, 4, 0);
            due(x.table(sort), -6);
            due(x.fault(), 4);
            x.set(sort, 4, -1);
            due(x.table(sort), -6);
            due(x.fault(), 4);
            x.set(sort, 4, 32 + 256);
            // of bytes that is a blank
            due(x.table(sort), sort == 0 ? 2 : -6);
            due(x.fault(), sort == 0 ? -1 : 4);
            x.set(sort, 4, 32 + 65536);
            due(x.table(sort), sort < 2 ? 2 : -6);
            due(x.fault(), sort < 2 ? -1 : 4);
        }
    }

    private static void lowestBitsOfLongs() {
        sentence = "Elements of a ROW of longs count by their lowest 32 bits wherever a ROW tells something";
        DunkedBiscuits x = with(1);
        put(x, 0, 3, "heat 77");
        for (int i = 0; i < 7; i++) {
            x.set(0, i, x.element(0, i) | (i + 1L) << 32 | Long.MIN_VALUE);
        }
        due(x.table(0), 1);
        due(x.status(2), 77);
        x.set(0, 4, 32L + (1L << 31));
        due(x.table(0), -6);
        due(x.fault(), 4);
        x.ask(0, 60);
        x.row(1, 3, 1);
        x.set(1, 0, 7L | 5L << 32);
        due(x.back(0, 1, 1), 2);
        due(x.heats(0, 1, 1, 1), 60);
        x.set(1, 0, 7L | 1L << 31);
        due(x.back(0, 1, 1), 0);
        due(x.heats(0, 1, 1, 1), -1);
        x.row(1, 2, 1);
        x.set(1, 0, 7L | 5L << 32);
        due(x.back(0, 1, 1), 2);
    }

    private static void theLatestFault() {
        sentence = "The FAULT of the latest table() that came to a ROW; NONE: there was none, or none yet";
        DunkedBiscuits x = with(1);
        due(x.fault(), -1);
        x.show(0, 0);
        x.table(0);
        x.table(1);
        x.table(8);
        due(x.fault(), -1);
        fault(x, "heat 1;", 7);
        fault(x, "", 0);
        fault(x, "heat 10x", 7);
        x.table(0);
        due(x.fault(), 7);
        x.table(1);
        due(x.fault(), 7);
        x.table(-1);
        due(x.fault(), 7);
        items(x, "heat 10", 1);
        due(x.fault(), -1);
    }

    // ---- shelves

    private static void sortsKeepLowestBits() {
        sentence = "what is put in keeps its lowest bits";
        long[] values = {127, 128, 255, 256, -129, 32767, 32768, 65536, -32769, Integer.MAX_VALUE, 1L << 31, 1L << 32,
            Integer.MIN_VALUE - 1L, Long.MAX_VALUE, Long.MIN_VALUE, -1, 0};
        DunkedBiscuits x = new DunkedBiscuits();
        for (int sort = 0; sort < 4; sort++) {
            x.row(sort, sort, 1);
            for (long v : values) {
                long kept = sort == 0 ? (byte) v : sort == 1 ? (short) v : sort == 2 ? (int) v : v;
                due(x.set(sort, 0, v), 1);
                due(x.element(sort, 0), kept);
            }
        }
    }

    private static void rowsOfAllSizes() {
        sentence = "A ROW has 0 to 160 elements";
        DunkedBiscuits x = new DunkedBiscuits();
        due(x.row(0, 3, 0), 1);
        due(x.holds(0), 103);
        due(x.set(0, 0, 1), -5);
        due(x.row(7, 3, 160), 1);
        due(x.set(7, 0, 5), 1);
        due(x.set(7, 159, 6), 1);
        due(x.set(7, 160, 6), -5);
        due(x.element(7, 0), 5);
        due(x.element(7, 159), 6);
        due(x.element(7, 160), 0);
        due(x.row(1, 0, 1), 1);
        due(x.set(1, 0, 5), 1);
        due(x.set(1, 1, 5), -5);
    }

    private static void aNewRowIsNought() {
        sentence = "0 to 160 elements, 0 at first";
        DunkedBiscuits x = with(1);
        x.row(0, 3, 160);
        for (int i = 0; i < 160; i++) {
            x.set(0, i, -1);
        }
        x.row(0, 2, 80);
        x.row(0, 3, 160);
        for (int i = 0; i < 160; i++) {
            due(x.element(0, i), 0);
        }
        x.set(0, 0, 5);
        x.set(0, 159, 5);
        x.show(0, 0);
        due(x.element(0, 0), 0);
        due(x.element(0, 159), 0);
        x.show(0, -1);
        due(x.element(0, 0), 0);
        x.row(0, 3, 160);
        due(x.element(0, 159), 0);
    }

    private static void copyAsTheyWereAhead() {
        sentence = "come to elements j, j + 1, .. of that in q (as they were ahead)";
        int[][] moves = {{0, 1, 4, 1, 1, 2, 3, 4}, {1, 0, 4, 2, 3, 4, 5, 5}, {0, 2, 3, 1, 2, 1, 2, 3},
            {2, 0, 3, 3, 4, 5, 4, 5}, {0, 0, 5, 1, 2, 3, 4, 5}};
        for (int[] m : moves) {
            DunkedBiscuits x = new DunkedBiscuits();
            x.row(0, 0, 5);
            for (int i = 0; i < 5; i++) {
                x.set(0, i, i + 1);
            }
            due(x.copy(0, 0, m[0], m[1], m[2]), 1);
            for (int i = 0; i < 5; i++) {
                due(x.element(0, i), m[3 + i]);
            }
        }
    }

    private static void copyToTheVeryEnd() {
        sentence = "an end that isn't there";
        DunkedBiscuits x = new DunkedBiscuits();
        x.row(0, 3, 160);
        x.row(1, 3, 3);
        x.row(2, 3, 0);
        x.set(0, 159, 9);
        due(x.copy(0, 0, 0, 0, 160), 1);
        due(x.copy(0, 0, 0, 0, 161), -5);
        due(x.copy(0, 1, 157, 0, 3), 1);
        due(x.element(1, 2), 9);
        due(x.copy(0, 1, 158, 0, 3), -5);
        due(x.copy(0, 1, 0, 1, 2), 1);
        due(x.copy(0, 1, 0, 1, 3), -5);
        due(x.copy(0, 1, 160, 3, 0), 1);
        due(x.copy(0, 1, 161, 0, 0), -5);
        due(x.copy(0, 1, 0, 4, 0), -5);
        due(x.copy(2, 2, 0, 0, 0), 1);
        due(x.copy(2, 1, 0, 0, 1), -5);
        due(x.copy(1, 2, 0, 0, 1), -5);
    }

    private static void elementsThatAreNotThere() {
        sentence = "0 if there is none (nothing is refused)";
        DunkedBiscuits x = with(1);
        x.row(0, 3, 2);
        x.set(0, 0, 5);
        x.set(0, 1, 6);
        x.show(1, 0);
        int[][] none = {{0, -1}, {0, 2}, {0, 160}, {0, Integer.MIN_VALUE}, {0, Integer.MAX_VALUE}, {1, 0}, {2, 0},
            {-1, 0}, {8, 0}, {Integer.MIN_VALUE, 0}, {Integer.MAX_VALUE, 0}};
        for (int[] n : none) {
            due(x.element(n[0], n[1]), 0);
        }
        for (int what = 11; what <= 17; what++) {
            due(x.status(what), 0);
        }
    }

    private static void shelvesHold() {
        sentence = "What SHELF s holds: NONE NOTHING, or no such SHELF; a BISCUIT's number; 100 and the SORT";
        DunkedBiscuits x = with(1, 1, 1, 1, 1, 1);
        due(x.show(0, 0), 1);
        due(x.show(7, 5), 1);
        due(x.holds(0), 0);
        due(x.holds(7), 5);
        due(x.holds(1), -1);
        due(x.holds(-1), -1);
        due(x.holds(8), -1);
        due(x.row(1, 0, 0), 1);
        due(x.row(2, 3, 0), 1);
        due(x.holds(1), 100);
        due(x.holds(2), 103);
        due(x.show(1, 4), 1);
        due(x.holds(1), 4);
        due(x.row(0, 1, 1), 1);
        due(x.holds(0), 101);
        due(x.show(0, -1), 0);
        due(x.holds(0), -1);
        due(x.show(0, -1), 0);
    }

    private static void saysByKinds() {
        sentence = "a BISCUIT that isn't of the KIND wanted, or one under it";
        // for each KIND, of which KINDS it is
        int[][] of = {{0}, {0, 1}, {0, 2}, {0, 1, 3}, {0, 4}, {0, 2, 5}, {0, 4, 6}};
        for (int kind = 0; kind < 7; kind++) {
            DunkedBiscuits x = new DunkedBiscuits();
            x.biscuit(kind, 4, 3);
            x.show(0, 0);
            int soak = kind == 1 || kind == 3 ? 5 : kind == 4 || kind == 6 ? 20 : 10;
            int[] said = {4, soak, soak, 3, soak, 100, 53};
            for (int wanted = 0; wanted < 7; wanted++) {
                boolean is = false;
                for (int k : of[kind]) {
                    is = is || k == wanted;
                }
                due(x.says(0, wanted), is ? said[wanted] : -2);
            }
        }
    }

    private static void saysWithoutCells() {
        sentence = "says() tells SOAK of CELL 0 also without CELLS; soak() is -1 then";
        int[] kinds = {1, 4, 2};
        int[] soaks = {3, 14, 14};
        for (int i = 0; i < 3; i++) {
            DunkedBiscuits x = new DunkedBiscuits();
            x.biscuit(kinds[i], 1, 0);
            x.show(0, 0);
            due(x.says(0, kinds[i]), soaks[i]);
            x.eats(0);
            due(x.says(0, kinds[i]), soaks[i]);
            due(x.says(0, 0), 0);
            due(x.soak(0, 0), -1);
        }
    }
}
