/** Promises 9 to 15: biscuits, the cup, the worths, and tables read from texts. */
public final class TableTest {
    private static int wrong = 0;

    private static void due(String call, long got, long want) {
        if (got != want) {
            wrong++;
            System.out.println(call + " answered " + got + ", due is " + want);
        }
    }

    public static void main(String[] args) {
        biscuit();
        biscuitOf();
        wet();
        ask();
        worthOf();
        tableTells();
        tableDips();
        tableSorts();
        tableRefused();
        faultsOfWords();
        faultsOfBlanks();
        faultsOfNumbers();
        faultsOfRoom();
        faultsOfEaten();
        allOrNothing();
        faultStays();
        System.out.println(wrong == 0 ? "table: as due" : "table: " + wrong + " not as due");
        if (wrong != 0) {
            System.exit(1);
        }
    }

    private static int tell(DunkedBiscuits x, int sort, String text) {
        x.row(7, sort, text.length());
        for (int i = 0; i < text.length(); i++) {
            x.set(7, i, text.charAt(i));
        }
        return x.table(7);
    }

    private static void items(DunkedBiscuits x, String text, int items) {
        due("'" + text + "'", tell(x, 0, text), items);
        due("fault of '" + text + "'", x.fault(), -1);
    }

    private static void fault(DunkedBiscuits x, String text, int place) {
        due("'" + text + "'", tell(x, 1, text), -6);
        due("fault of '" + text + "'", x.fault(), place);
    }

    private static void biscuit() {
        DunkedBiscuits x = new DunkedBiscuits();
        due("no kind", x.biscuit(7, 0, 10), -1);
        due("no kind", x.biscuit(-1, 1, 0), -1);
        due("no cells", x.biscuit(0, 0, 0), -6);
        due("too many cells", x.biscuit(0, 13, 0), -6);
        due("a below 0", x.biscuit(0, 1, -1), -6);
        due("a above 9", x.biscuit(0, 1, 10), -6);
        for (int b = 0; b < 6; b++) {
            due("the number", x.biscuit(b + 1, 12 - b, 9 - b), b);
        }
        due("no room", x.biscuit(0, 1, 0), -7);
        due("-6 ahead of -7", x.biscuit(0, 13, 0), -6);
        due("-1 ahead of -7", x.biscuit(7, 1, 0), -1);
        due("how many", x.status(0), 6);
        due("cells of all", x.status(1), 12 + 11 + 10 + 9 + 8 + 7);
    }

    private static void biscuitOf() {
        DunkedBiscuits x = new DunkedBiscuits();
        due("none such", x.biscuitOf(0, 0), -5);
        x.biscuit(5, 3, 7);
        due("kind", x.biscuitOf(0, 0), 5);
        due("cells", x.biscuitOf(0, 1), 3);
        due("a", x.biscuitOf(0, 2), 7);
        due("dry at first", x.biscuitOf(0, 3), 0);
        x.wet(0, 0, 99);
        x.wet(0, 2, 1);
        due("all together", x.biscuitOf(0, 3), 100);
        due("cell 0", x.biscuitOf(0, 10), 99);
        due("cell 1", x.biscuitOf(0, 11), 0);
        due("cell 2", x.biscuitOf(0, 12), 1);
        due("no cell 3", x.biscuitOf(0, 13), -5);
        due("another what", x.biscuitOf(0, 4), -5);
        due("another what", x.biscuitOf(0, 9), -5);
        due("another what", x.biscuitOf(0, -1), -5);
        due("another what", x.biscuitOf(0, Integer.MIN_VALUE), -5);
        due("no such", x.biscuitOf(1, 0), -5);
        due("no such", x.biscuitOf(-1, 0), -5);
        x.eats(0);
        due("eaten: kind", x.biscuitOf(0, 0), 5);
        due("eaten: cells", x.biscuitOf(0, 1), 0);
        due("eaten: a", x.biscuitOf(0, 2), 7);
        due("eaten: wet", x.biscuitOf(0, 3), 0);
        due("eaten: no cell", x.biscuitOf(0, 10), -5);
        due("counted", x.status(15), 9);
    }

    private static void wet() {
        DunkedBiscuits x = new DunkedBiscuits();
        x.biscuit(0, 2, 0);
        due("was dry", x.wet(0, 1, 99), 0);
        due("was wet", x.wet(0, 1, 0), 99);
        due("no cell", x.wet(0, 2, 100), -1);
        due("no cell", x.wet(0, -1, 1), -1);
        due("no biscuit", x.wet(1, 0, 1), -1);
        due("too wet", x.wet(0, 0, 100), -6);
        due("below", x.wet(0, 0, -1), -6);
        due("stays", x.biscuitOf(0, 10), 0);
        x.eats(0);
        due("eaten", x.wet(0, 0, 1), -1);
    }

    private static void ask() {
        DunkedBiscuits x = new DunkedBiscuits();
        due("heat", x.ask(0, 99), 60);
        due("heat", x.ask(0, 0), 99);
        due("loss", x.ask(1, 99), 20);
        due("loss", x.ask(1, 1), 99);
        due("tea", x.ask(2, 9999), 1000);
        due("tea", x.ask(2, 0), 9999);
        int[][] wrongs = {{0, -1}, {0, 100}, {1, 0}, {1, 100}, {2, -1}, {2, 10000}, {3, 1}, {-1, 1}};
        for (int[] w : wrongs) {
            due("ask " + w[0] + " " + w[1], x.ask(w[0], w[1]), -6);
        }
        due("heat stays", x.status(2), 0);
        due("loss stays", x.status(3), 1);
        due("tea stays", x.status(4), 0);
        due("counted", x.status(16), 8);
    }

    private static void worthOf() {
        DunkedBiscuits x = new DunkedBiscuits();
        for (int w = 0; w < 10; w++) {
            due("at first", x.worthOf(w, 99 - w), 0);
            due("then", x.worthOf(w, w), 99 - w);
        }
        due("w", x.worthOf(10, 1), -6);
        due("w", x.worthOf(-1, 1), -6);
        due("v", x.worthOf(0, 100), -6);
        due("v", x.worthOf(0, -1), -6);
        due("stays", x.worthOf(0, 5), 0);
    }

    private static void tableTells() {
        DunkedBiscuits x = new DunkedBiscuits();
        items(x, "heat 0", 1);
        due("heat", x.status(2), 0);
        items(x, "loss 0099;tea 9999;heat 99", 3);
        due("heat", x.status(2), 99);
        due("loss", x.status(3), 99);
        due("tea", x.status(4), 9999);
        items(x, "biscuit 6 12 9;wet 0 11 99;wet 0 00 1;worth 9 98;worth 0000 1", 5);
        due("kind", x.biscuitOf(0, 0), 6);
        due("cells", x.biscuitOf(0, 1), 12);
        due("a", x.biscuitOf(0, 2), 9);
        due("wet", x.biscuitOf(0, 21), 99);
        due("wet", x.biscuitOf(0, 10), 1);
        due("worth", x.worthOf(9, 0), 98);
        due("worth", x.worthOf(0, 0), 1);
        items(x, "biscuit 0 1 0;biscuit 0 1 0;biscuit 0 1 0;biscuit 0 1 0;biscuit 0 1 0", 5);
        due("how many", x.status(0), 6);
        items(x, "worth 1 99", 1);
        due("worth", x.worthOf(1, 0), 99);
        due("160 elements", tell(x, 2, "heat 1;".repeat(22) + "heat 2"), 23);
        due("the last one", x.status(2), 2);
    }

    private static void tableDips() {
        DunkedBiscuits x = new DunkedBiscuits();
        // 3 SECONDS by SOAK 7 in 2 CELLS: 42; LOSS 2: HEAT 59 behind the second SECOND
        items(x, "loss 2;biscuit 0 2 0;dip 0 12 3", 3);
        due("tea", x.status(4), 958);
        due("heat", x.status(2), 59);
        due("seconds", x.status(7), 3);
        due("wet", x.biscuitOf(0, 3), 42);
        items(x, "dip 0 0 0;dip 0 12 0;heat 50;dip 0 1 1", 4);
        due("by the heat told ahead", x.biscuitOf(0, 10), 27);
        due("seconds", x.status(7), 4);
        due("heat", x.status(2), 49);
        // HEAT falls at SECONDS 6 and 8
        items(x, "dip 0 1 0004", 1);
        due("wet", x.biscuitOf(0, 10), 47);
        due("heat", x.status(2), 47);
        x.ask(0, 40);
        // SOAK 5 all the way, by HEAT 40 as it is at the beginning
        items(x, "dip 0 1 0002", 1);
        due("by heat at its beginning", x.biscuitOf(0, 10), 57);
        due("heat", x.status(2), 39);
    }

    private static void tableSorts() {
        for (int sort = 0; sort < 4; sort++) {
            DunkedBiscuits x = new DunkedBiscuits();
            due("sort " + sort, tell(x, sort, "heat 77"), 1);
            due("heat", x.status(2), 77);
            due("fault", tell(x, sort, "heat 7x"), -6);
            due("place", x.fault(), 6);
        }
        DunkedBiscuits x = new DunkedBiscuits();
        String text = "heat 7";
        x.row(0, 3, 6);
        for (int i = 0; i < 6; i++) {
            x.set(0, i, (i + 1L << 32) + text.charAt(i));
        }
        due("longs by their lowest 32 bits", x.table(0), 1);
        due("heat", x.status(2), 7);
        x.row(1, 2, 6);
        for (int i = 0; i < 6; i++) {
            x.set(1, i, text.charAt(i) + (i == 3 ? 256 : 0));
        }
        due("ints by all bits", x.table(1), -6);
        due("place", x.fault(), 3);
    }

    private static void tableRefused() {
        DunkedBiscuits x = new DunkedBiscuits();
        x.biscuit(0, 1, 0);
        x.show(0, 0);
        due("no shelf", x.table(8), -1);
        due("no shelf", x.table(-1), -1);
        due("a biscuit", x.table(0), -2);
        due("nothing", x.table(1), -3);
        due("no fault yet", x.fault(), -1);
        fault(x, "", 0);
        due("counted", x.status(16), 1);
    }

    private static void faultsOfWords() {
        DunkedBiscuits x = new DunkedBiscuits();
        fault(x, "x", 0);
        fault(x, " heat 1", 0);
        fault(x, ";heat 1", 0);
        fault(x, "Heat 1", 0);
        fault(x, "w", 1);
        fault(x, "wx", 1);
        fault(x, "we", 2);
        fault(x, "weat 1", 2);
        fault(x, "wo", 2);
        fault(x, "wot 1", 2);
        fault(x, "heap 1", 3);
        fault(x, "hea", 3);
        fault(x, "heat", 4);
        fault(x, "biscui", 6);
        fault(x, "biscuits 1", 7);
        fault(x, "tea 1;", 6);
        fault(x, "tea 1;;tea 1", 6);
        fault(x, "tea 1; tea 1", 6);
        fault(x, "tea 1;d", 7);
        fault(x, "tea 1;dup", 7);
        fault(x, "\u0080eat 1", 0);
    }

    private static void faultsOfBlanks() {
        DunkedBiscuits x = new DunkedBiscuits();
        x.biscuit(0, 12, 0);
        fault(x, "heat  1", 5);
        fault(x, "heat1", 4);
        fault(x, "heat ", 5);
        fault(x, "heat ;", 5);
        fault(x, "heat 1 ", 6);
        fault(x, "heat 1 ;", 6);
        fault(x, "heat 1 2", 6);
        fault(x, "wet 0;1", 5);
        fault(x, "wet 0", 5);
        fault(x, "wet 0 ", 6);
        fault(x, "wet 0 1", 7);
        fault(x, "wet 0 1 ", 8);
        fault(x, "wet 0 1 2 3", 9);
        fault(x, "worth 1 2,", 9);
        fault(x, "heat -1", 5);
        fault(x, "dip 0 1 1x", 9);
    }

    private static void faultsOfNumbers() {
        DunkedBiscuits x = new DunkedBiscuits();
        x.biscuit(0, 3, 0);
        fault(x, "heat 100", 5);
        fault(x, "heat 0100", 5);
        fault(x, "heat 100x", 5);
        fault(x, "heat 100;x", 5);
        fault(x, "heat 00001", 9);
        fault(x, "heat 12345", 5);
        fault(x, "tea 12345", 8);
        fault(x, "loss 0", 5);
        fault(x, "loss 0x", 5);
        fault(x, "loss 0000", 5);
        fault(x, "loss 100", 5);
        fault(x, "worth 10 1", 6);
        fault(x, "worth 9 100", 8);
        fault(x, "biscuit 7 1 0", 8);
        fault(x, "biscuit 6 0 0", 10);
        fault(x, "biscuit 6 13 0", 10);
        fault(x, "biscuit 6 12 10", 13);
        fault(x, "wet 1 0 0", 4);
        fault(x, "wet 1", 4);
        fault(x, "wet 0 3 0", 6);
        fault(x, "wet 0 2 100", 8);
        fault(x, "dip 1 0 0", 4);
        fault(x, "dip 0 13 0", 6);
        fault(x, "dip 0 12 61", 9);
        fault(x, "heat 1;wet 0 0003 1", 13);
    }

    private static void faultsOfRoom() {
        DunkedBiscuits x = new DunkedBiscuits();
        for (int b = 0; b < 5; b++) {
            x.biscuit(0, 1, 0);
        }
        fault(x, "biscuit 0 1 0;biscuit 0 1 0", 14);
        due("none of them", x.status(0), 5);
        items(x, "biscuit 0 1 0", 1);
        fault(x, "biscuit 9 9 9", 0);
        fault(x, "biscuit", 0);
        fault(x, "biscuitx", 0);
        fault(x, "biscui", 6);
        fault(x, "biscux", 5);
        fault(x, "heat 1;biscuit", 7);
        due("refused by a fault, not by room", x.status(17), 0);
    }

    private static void faultsOfEaten() {
        DunkedBiscuits x = new DunkedBiscuits();
        x.biscuit(0, 2, 0);
        x.biscuit(0, 2, 0);
        x.eats(0);
        fault(x, "dip 0 1 1", 4);
        fault(x, "heat 5;dip 000 1 1", 11);
        fault(x, "wet 0 0 1", 6);
        items(x, "dip 1 1 1", 1);
    }

    private static void allOrNothing() {
        DunkedBiscuits x = new DunkedBiscuits();
        x.biscuit(0, 2, 0);
        x.image();
        fault(x, "heat 1;loss 1;tea 1;worth 1 1;wet 0 0 50;biscuit 0 1 0;dip 0 2 60;heat 100", 71);
        due("heat", x.status(2), 60);
        due("loss", x.status(3), 20);
        due("tea", x.status(4), 1000);
        due("seconds", x.status(7), 0);
        due("biscuits", x.status(0), 1);
        due("wet", x.biscuitOf(0, 3), 0);
        due("sludge", x.status(5), 0);
        due("worth", x.worthOf(1, 0), 0);
    }

    private static void faultStays() {
        DunkedBiscuits x = new DunkedBiscuits();
        fault(x, "heat 1;", 7);
        due("no row", x.table(0), -3);
        due("the fault stays", x.fault(), 7);
        due("no shelf", x.table(9), -1);
        due("the fault stays", x.fault(), 7);
        items(x, "heat 1", 1);
        due("none", x.fault(), -1);
    }
}
