/** Promises 16 to 27: what there is. */
public final class ViewPromisesTest {
    private static final int UNKNOWN = ClosExchange.UNKNOWN;
    private static final int OUT_OF_RANGE = ClosExchange.OUT_OF_RANGE;
    private static final int NONE = ClosExchange.NONE;
    private static final int[] NOWHERE = {-1, -2, -6, Integer.MIN_VALUE, Integer.MAX_VALUE};

    public static void main(String[] args) {
        promises16And17();
        promises18To20();
        promises21And22();
        promise23();
        promises24And25();
        promise26();
        promise27();
        Due.end("ViewPromisesTest");
    }

    private static void promises16And17() {
        ClosExchange x = Due.network(3, 5, 4);
        x.connect(14, 0);
        x.connect(0, 14);
        x.connect(7, 6);
        int[] ofInlet = {1, NONE, NONE, NONE, NONE, NONE, NONE, 2, NONE, NONE, NONE, NONE, NONE, NONE, 0, UNKNOWN};
        int[] ofOutlet = {0, NONE, NONE, NONE, NONE, NONE, 2, NONE, NONE, NONE, NONE, NONE, NONE, NONE, 1, UNKNOWN};
        for (int line = 0; line < 16; line++) {
            Due.due("16: callOfInlet(" + line + ")", x.callOfInlet(line), ofInlet[line]);
            Due.due("17: callOfOutlet(" + line + ")", x.callOfOutlet(line), ofOutlet[line]);
        }
        for (int line : NOWHERE) {
            Due.due("16: callOfInlet(" + line + ")", x.callOfInlet(line), UNKNOWN);
            Due.due("17: callOfOutlet(" + line + ")", x.callOfOutlet(line), UNKNOWN);
        }
        Due.due("16: callOfInlet(47)", x.callOfInlet(47), UNKNOWN);
        Due.due("17: callOfOutlet(47)", x.callOfOutlet(47), UNKNOWN);
    }

    private static void promises18To20() {
        ClosExchange x = Due.network(3, 5, 4);
        x.connect(14, 0);
        x.connect(0, 14);
        x.connect(1, 1);
        x.disconnect(0);
        int[] inlets = {14, UNKNOWN, 1, UNKNOWN};
        int[] outlets = {0, UNKNOWN, 1, UNKNOWN};
        int[] middles = {0, UNKNOWN, 1, UNKNOWN};
        for (int call = 0; call < inlets.length; call++) {
            Due.due("18: inletOf(" + call + ")", x.inletOf(call), inlets[call]);
            Due.due("19: outletOf(" + call + ")", x.outletOf(call), outlets[call]);
            Due.due("20: middleOf(" + call + ")", x.middleOf(call), middles[call]);
        }
        for (int call : NOWHERE) {
            Due.due("18: inletOf(" + call + ")", x.inletOf(call), UNKNOWN);
            Due.due("19: outletOf(" + call + ")", x.outletOf(call), UNKNOWN);
            Due.due("20: middleOf(" + call + ")", x.middleOf(call), UNKNOWN);
        }
        for (int k = 0; k < 100; k++) {
            x.connect(5, 5);
            x.disconnect(5);
        }
        x.connect(5, 5);
        Due.due("18: inletOf(103)", x.inletOf(103), 5);
        Due.due("19: outletOf(103)", x.outletOf(103), 5);
        Due.due("20: middleOf(103)", x.middleOf(103), 0);
        Due.due("18: inletOf(102)", x.inletOf(102), UNKNOWN);
        Due.due("18: inletOf(104)", x.inletOf(104), UNKNOWN);
    }

    private static void promises21And22() {
        ClosExchange x = Due.network(3, 5, 4);
        x.connect(14, 0);
        x.connect(13, 5);
        x.connect(3, 6);
        // Call 0 goes 2, 0, 0; call 1 goes 2, 1, 1; call 2 goes 0, 0, 1.
        for (int board = 0; board < 3; board++) {
            for (int middle = 0; middle < 4; middle++) {
                int first = board == 2 && middle == 0 ? 0 : board == 2 && middle == 1 ? 1 : board == 0 && middle == 0 ? 2 : NONE;
                int last = board == 0 && middle == 0 ? 0 : board == 1 && middle == 1 ? 1 : board == 1 && middle == 0 ? 2 : NONE;
                Due.due("21: onFirstLink(" + board + ", " + middle + ")", x.onFirstLink(board, middle), first);
                Due.due("22: onLastLink(" + middle + ", " + board + ")", x.onLastLink(middle, board), last);
            }
        }
        for (int nowhere : new int[] {-1, 4, 5, 8, 32, Integer.MIN_VALUE, Integer.MAX_VALUE}) {
            Due.due("21: onFirstLink(" + nowhere + ", 0)", x.onFirstLink(nowhere, 0), UNKNOWN);
            Due.due("21: onFirstLink(0, " + nowhere + ")", x.onFirstLink(0, nowhere), UNKNOWN);
            Due.due("22: onLastLink(" + nowhere + ", 0)", x.onLastLink(nowhere, 0), UNKNOWN);
            Due.due("22: onLastLink(0, " + nowhere + ")", x.onLastLink(0, nowhere), UNKNOWN);
        }
        Due.due("21: onFirstLink(3, 3)", x.onFirstLink(3, 3), UNKNOWN);
        Due.due("22: onLastLink(3, 3)", x.onLastLink(3, 3), UNKNOWN);
        x.takeOut(3);
        Due.due("21: a middle board out of service is one", x.onFirstLink(2, 3), NONE);
        Due.due("22: a middle board out of service is one", x.onLastLink(3, 2), NONE);
    }

    private static void promise23() {
        ClosExchange x = new ClosExchange();
        int[] loads = {4, 2, 0};
        x.connect(0, 0);
        x.connect(3, 3);
        x.connect(6, 6);
        x.connect(9, 9);
        x.connect(1, 4);
        x.connect(10, 1);
        for (int middle = 0; middle < 3; middle++) {
            Due.due("23: load(" + middle + ")", x.load(middle), loads[middle]);
        }
        for (int middle : NOWHERE) {
            Due.due("23: load(" + middle + ")", x.load(middle), UNKNOWN);
        }
        Due.due("23: load(3)", x.load(3), UNKNOWN);
        x.takeOut(1);
        Due.due("23: load(1)", x.load(1), 0);
        Due.due("23: load(2)", x.load(2), 2);
    }

    private static void promises24And25() {
        ClosExchange x = Due.network(3, 2, 8);
        x.connect(0, 4);
        x.connect(1, 5);
        x.takeOut(7);
        x.takeOut(3);
        int out = 128 + 8;
        int[] first = {255 - out - 3, 255 - out, 255 - out};
        int[] last = {255 - out, 255 - out, 255 - out - 3};
        for (int board = 0; board < 3; board++) {
            Due.due("24: freeForFirst(" + board + ")", x.freeForFirst(board), first[board]);
            Due.due("25: freeForLast(" + board + ")", x.freeForLast(board), last[board]);
        }
        for (int board : new int[] {-1, 3, 7, 8, Integer.MIN_VALUE, Integer.MAX_VALUE}) {
            Due.due("24: freeForFirst(" + board + ")", x.freeForFirst(board), UNKNOWN);
            Due.due("25: freeForLast(" + board + ")", x.freeForLast(board), UNKNOWN);
        }
    }

    private static void promise26() {
        ClosExchange x = new ClosExchange();
        for (int middles = 1; middles <= 8; middles++) {
            x.setUp(2, 1, middles);
            Due.due("26: inService() of " + middles, x.inService(), (1 << middles) - 1);
            x.takeOut(middles - 1);
            Due.due("26: inService() of " + middles + " less one", x.inService(), (1 << middles - 1) - 1);
        }
        x.putBack(7);
        x.takeOut(0);
        Due.due("26: inService()", x.inService(), 254);
    }

    private static void promise27() {
        ClosExchange x = Due.network(2, 2, 2);
        x.setPairRule(1);
        x.setChoiceRule(2);
        x.connect(0, 0);
        x.connect(1, 2);
        x.connect(2, 1);
        x.takeOut(0);
        x.disconnect(2);
        x.putBack(0);
        x.setChoiceRule(0);
        x.connect(2, 0);
        x.pack();
        Due.type(x, "xyz");
        int[] totals = {2, 2, 2, 0, 1, 2, 4, 1, 1, 1, 4, 3};
        Due.due("27: middleOf(1)", x.middleOf(1), 0);
        Due.due("27: middleOf(3)", x.middleOf(3), 0);
        for (int what = 0; what < totals.length; what++) {
            Due.due("27: total(" + what + ")", x.total(what), totals[what]);
        }
        x.setUp(3, 4, 5);
        int[] after = {3, 4, 5, 0, 1, 0, 4, 3, 1, 1, 4, 3};
        for (int what = 0; what < after.length; what++) {
            Due.due("27: after setUp, total(" + what + ")", x.total(what), after[what]);
        }
        Due.due("27: total(12)", x.total(12), OUT_OF_RANGE);
        for (int what : NOWHERE) {
            Due.due("27: total(" + what + ")", x.total(what), OUT_OF_RANGE);
        }
    }
}
