/** The sentences of "CALLS". */
final class CallsSentences {
    private static final int UNKNOWN = ClosExchange.UNKNOWN;
    private static final int BUSY = ClosExchange.BUSY;
    private static final int BLOCKED = ClosExchange.BLOCKED;
    private static final int NONE = ClosExchange.NONE;
    private static final String SECTION = "CALLS";

    private CallsSentences() {
    }

    static void all() {
        oneMiddleBoard();
        twoLinks();
        busy();
        numberedInOrder();
        noNumberIsUsedAgain();
        numbersBeyondAllTables();
        load();
    }

    private static void oneMiddleBoard() {
        Doc.says(SECTION, "A call connects an inlet and an outlet through one middle board:");
        ClosExchange x = new ClosExchange();
        int via = x.connect(5, 10);
        Due.due("inletOf(0)", x.inletOf(0), 5);
        Due.due("outletOf(0)", x.outletOf(0), 10);
        Due.due("middleOf(0)", x.middleOf(0), via);
        Due.due("all loads", x.load(0) + x.load(1) + x.load(2), 1);
    }

    private static void twoLinks() {
        Doc.says(SECTION, "it is carried by the link from the inlet's first board to the middle board, and by the link from there to the outlet's last board.");
        ClosExchange x = Due.built(3, 2, 3, new int[][] {{3, 5, 2}, {0, 4, 1}, {1, 0, 0}});
        int[][] ways = {{1, 2, 2}, {0, 1, 2}, {0, 0, 0}};
        for (int board = 0; board < 3; board++) {
            for (int middle = 0; middle < 3; middle++) {
                int first = NONE;
                int last = NONE;
                for (int call = 0; call < 3; call++) {
                    first = ways[call][0] == board && ways[call][1] == middle ? call : first;
                    last = ways[call][2] == board && ways[call][1] == middle ? call : last;
                }
                Due.due("onFirstLink(" + board + ", " + middle + ")", x.onFirstLink(board, middle), first);
                Due.due("onLastLink(" + middle + ", " + board + ")", x.onLastLink(middle, board), last);
            }
        }
    }

    private static void busy() {
        Doc.says(SECTION, "An inlet or outlet is busy if it belongs to a call.");
        ClosExchange x = Due.network(2, 2, 2);
        Due.due("disconnect(1), not busy", x.disconnect(1), BUSY);
        x.connect(1, 2);
        Due.due("connect(1, 3), the inlet is busy", x.connect(1, 3), BUSY);
        Due.due("connect(3, 2), the outlet is busy", x.connect(3, 2), BUSY);
        Due.due("connect(2, 1), neither is", x.connect(2, 1), 0);
        x.disconnect(1);
        Due.due("connect(1, 2) after the call has ended", x.connect(1, 2), 0);
        x.takeOut(0);
        x.takeOut(1);
        Due.due("total(5)", x.total(5), 0);
        x.putBack(0);
        Due.due("connect(1, 2) after the call was dropped", x.connect(1, 2), 0);
        x.setUp(2, 2, 2);
        Due.due("connect(1, 2) in another network", x.connect(1, 2), 0);
        x.undo();
        Due.due("connect(1, 2) after undo()", x.connect(1, 2), 0);
    }

    private static void numberedInOrder() {
        Doc.says(SECTION, "Calls are numbered from 0 in the order in which they are connected;");
        ClosExchange x = new ClosExchange();
        for (int call = 0; call < 12; call++) {
            x.connect(11 - call, call * 5 % 12);
            Due.due("callOfInlet(" + (11 - call) + ")", x.callOfInlet(11 - call), call);
            Due.due("callOfOutlet(" + call * 5 % 12 + ")", x.callOfOutlet(call * 5 % 12), call);
        }
        x = new ClosExchange();
        Due.due("perform()", Due.perform(x, "c7-0;c3-1;c5-2"), 3);
        Due.due("callOfInlet(7)", x.callOfInlet(7), 0);
        Due.due("callOfInlet(3)", x.callOfInlet(3), 1);
        Due.due("callOfInlet(5)", x.callOfInlet(5), 2);
    }

    private static void noNumberIsUsedAgain() {
        Doc.says(SECTION, "no number is used again.");
        ClosExchange x = Due.network(2, 2, 2);
        x.connect(0, 0);
        x.disconnect(0);
        x.connect(0, 0);
        Due.due("callOfInlet(0) after disconnect()", x.callOfInlet(0), 1);
        Due.due("inletOf(0)", x.inletOf(0), UNKNOWN);
        x.takeOut(0);
        x.takeOut(1);
        Due.due("connect(0, 0)", x.connect(0, 0), BLOCKED);
        x.putBack(0);
        x.connect(0, 0);
        Due.due("callOfInlet(0) after a call was dropped", x.callOfInlet(0), 2);
        x.setUp(2, 2, 2);
        x.connect(0, 0);
        Due.due("callOfInlet(0) after setUp()", x.callOfInlet(0), 3);
        Due.due("connect(0, 1)", x.connect(0, 1), BUSY);
        Due.due("perform() that fails", Due.perform(x, "c1-1;c1-2"), BUSY);
        x.connect(3, 3);
        Due.due("callOfInlet(3) after errors", x.callOfInlet(3), 4);
        x.takeOut(0);
        x.putBack(0);
        x.pack();
        Due.due("callOfInlet(0), routed anew", x.callOfInlet(0), 3);
        Due.due("callOfInlet(3), routed anew", x.callOfInlet(3), 4);
        x.connect(2, 1);
        Due.due("callOfInlet(2) after that", x.callOfInlet(2), 5);
    }

    /** A text connects 7 calls at a time, so that numbers grow far beyond 512. */
    private static void numbersBeyondAllTables() {
        Doc.says(SECTION, "no number is used again.");
        ClosExchange x = new ClosExchange();
        Due.type(x, "d0;c0-0;d0;c0-0;d0;c0-0;d0;c0-0;d0;c0-0;d0;c0-0;d0;c0-0");
        x.connect(0, 0);
        for (int k = 1; k <= 400; k++) {
            Due.due("perform()", x.perform(), 14);
            Due.due("callOfInlet(0)", k % 50 == 0 ? x.callOfInlet(0) : 7 * k, 7 * k);
        }
        Due.due("inletOf(2800)", x.inletOf(2800), 0);
        Due.due("inletOf(2799)", x.inletOf(2799), UNKNOWN);
        Due.due("middleOf(2800)", x.middleOf(2800), 0);
        Due.due("total(6)", x.total(6), 2801);
        Due.due("total(7)", x.total(7), 2800);
    }

    private static void load() {
        Doc.says(SECTION, "The load of a middle board is the number of calls through it.");
        ClosExchange x = Due.network(8, 1, 2);
        for (int board = 0; board < 8; board++) {
            Due.due("load(0)", x.load(0), board);
            x.connect(board, 7 - board);
        }
        Due.due("load(0)", x.load(0), 8);
        Due.due("load(1)", x.load(1), 0);
        x.disconnect(3);
        Due.due("load(0) without one", x.load(0), 7);
        x.takeOut(0);
        Due.due("load(0) out of service", x.load(0), 0);
        Due.due("load(1)", x.load(1), 7);
    }
}
