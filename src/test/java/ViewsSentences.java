/** The sentences of the promises 16 to 27. */
final class ViewsSentences {
    private static final int UNKNOWN = ClosExchange.UNKNOWN;
    private static final int OUT_OF_RANGE = ClosExchange.OUT_OF_RANGE;
    private static final int NONE = ClosExchange.NONE;
    private static final int[] FAR = {-7, -6, -2, -1, 64, 99, 1 << 20, Integer.MIN_VALUE, Integer.MAX_VALUE};

    private ViewsSentences() {
    }

    static void all() {
        promise16();
        promise17();
        promise18();
        promise19();
        promise20();
        promises18To20CallsThatThereAreNow();
        promise21();
        promise22();
        promise23();
        promise24();
        promise25();
        promise26();
        promise27Size();
        promise27Rules();
        promise27Calls();
        promise27Moved();
        promise27HistoryAndText();
        promise27OutOfRange();
    }

    /** The calls go 23, 0 and 0, 23 and 5, 17 and 12, 12; call 4 has ended. */
    private static ClosExchange fourCalls() {
        ClosExchange x = Due.network(6, 4, 5);
        x.connect(23, 0);
        x.connect(0, 23);
        x.connect(5, 17);
        x.connect(12, 12);
        x.connect(13, 11);
        x.disconnect(13);
        return x;
    }

    private static void promise16() {
        Doc.says("Promise 16", "Returns the call of an inlet.");
        Doc.says("Promise 16", "Returns the number of the call;");
        ClosExchange x = fourCalls();
        int[] inlets = {23, 0, 5, 12};
        for (int call = 0; call < 4; call++) {
            Due.due("callOfInlet(" + inlets[call] + ")", x.callOfInlet(inlets[call]), call);
        }
        Doc.says("Promise 16", "an inlet");
        Doc.says("Promise 16", "UNKNOWN;");
        Due.due("callOfInlet(24)", x.callOfInlet(24), UNKNOWN);
        for (int far : FAR) {
            Due.due("callOfInlet(" + far + ")", x.callOfInlet(far), UNKNOWN);
        }
        Doc.says("Promise 16", "NONE if the inlet is not busy.");
        for (int inlet = 0; inlet < 24; inlet++) {
            if (inlet != 23 && inlet != 0 && inlet != 5 && inlet != 12) {
                Due.due("callOfInlet(" + inlet + ")", x.callOfInlet(inlet), NONE);
            }
        }
    }

    private static void promise17() {
        Doc.says("Promise 17", "Returns the call of an outlet.");
        Doc.says("Promise 17", "Returns the number of the call;");
        ClosExchange x = fourCalls();
        int[] outlets = {0, 23, 17, 12};
        for (int call = 0; call < 4; call++) {
            Due.due("callOfOutlet(" + outlets[call] + ")", x.callOfOutlet(outlets[call]), call);
        }
        Doc.says("Promise 17", "an outlet");
        Doc.says("Promise 17", "UNKNOWN;");
        Due.due("callOfOutlet(24)", x.callOfOutlet(24), UNKNOWN);
        for (int far : FAR) {
            Due.due("callOfOutlet(" + far + ")", x.callOfOutlet(far), UNKNOWN);
        }
        Doc.says("Promise 17", "NONE if the outlet is not busy.");
        for (int outlet = 0; outlet < 24; outlet++) {
            if (outlet != 0 && outlet != 23 && outlet != 17 && outlet != 12) {
                Due.due("callOfOutlet(" + outlet + ")", x.callOfOutlet(outlet), NONE);
            }
        }
    }

    private static void promise18() {
        Doc.says("Promise 18", "Returns the inlet of a call.");
        Doc.says("Promise 18", "Returns the inlet;");
        ClosExchange x = fourCalls();
        int[] inlets = {23, 0, 5, 12};
        for (int call = 0; call < 4; call++) {
            Due.due("inletOf(" + call + ")", x.inletOf(call), inlets[call]);
        }
        Doc.says("Promise 18", "UNKNOWN.");
        Due.due("inletOf(4), ended", x.inletOf(4), UNKNOWN);
        Due.due("inletOf(5), not yet", x.inletOf(5), UNKNOWN);
        for (int far : FAR) {
            Due.due("inletOf(" + far + ")", x.inletOf(far), UNKNOWN);
        }
    }

    private static void promise19() {
        Doc.says("Promise 19", "Returns the outlet of a call.");
        Doc.says("Promise 19", "Returns the outlet;");
        ClosExchange x = fourCalls();
        int[] outlets = {0, 23, 17, 12};
        for (int call = 0; call < 4; call++) {
            Due.due("outletOf(" + call + ")", x.outletOf(call), outlets[call]);
        }
        Doc.says("Promise 19", "UNKNOWN.");
        Due.due("outletOf(4), ended", x.outletOf(4), UNKNOWN);
        Due.due("outletOf(5), not yet", x.outletOf(5), UNKNOWN);
        for (int far : FAR) {
            Due.due("outletOf(" + far + ")", x.outletOf(far), UNKNOWN);
        }
    }

    private static void promise20() {
        Doc.says("Promise 20", "Returns the middle board of a call.");
        Doc.says("Promise 20", "Returns the middle board;");
        ClosExchange x = Due.built(4, 4, 4, new int[][] {{0, 0, 3}, {5, 9, 2}, {1, 1, 2}, {6, 2, 1}, {15, 15, 0}});
        int[] middles = {3, 2, 2, 1, 0};
        for (int call = 0; call < 5; call++) {
            Due.due("middleOf(" + call + ")", x.middleOf(call), middles[call]);
        }
        Doc.says("Promise 20", "UNKNOWN.");
        x.disconnect(5);
        Due.due("middleOf(1), ended", x.middleOf(1), UNKNOWN);
        Due.due("middleOf(5), not yet", x.middleOf(5), UNKNOWN);
        for (int far : FAR) {
            Due.due("middleOf(" + far + ")", x.middleOf(far), UNKNOWN);
        }
    }

    private static void promises18To20CallsThatThereAreNow() {
        for (String promise : new String[] {"Promise 18", "Promise 19", "Promise 20"}) {
            Doc.says(promise, "the number of a call that there is now");
            ClosExchange x = Due.network(2, 2, 2);
            for (int call = 0; call < 7; call++) {
                x.connect(1, 1);
                Due.due("inletOf(" + call + ")", x.inletOf(call), 1);
                Due.due("outletOf(" + call + ")", x.outletOf(call), 1);
                Due.due("middleOf(" + call + ")", x.middleOf(call), 0);
                if (call % 3 == 0) {
                    x.disconnect(1);
                } else if (call % 3 == 1) {
                    x.setUp(2, 2, 2);
                } else {
                    Due.perform(x, "o0;o1;i0;i1");
                }
                Due.due("inletOf(" + call + "), over", x.inletOf(call), UNKNOWN);
                Due.due("outletOf(" + call + "), over", x.outletOf(call), UNKNOWN);
                Due.due("middleOf(" + call + "), over", x.middleOf(call), UNKNOWN);
            }
        }
    }

    /** The calls go 2, 3, 0 and 2, 1, 1 and 1, 1, 0 and 0, 0, 1. */
    private static ClosExchange onLinks() {
        return Due.built(3, 3, 4, new int[][] {{8, 0, 3}, {6, 5, 1}, {3, 1, 1}, {0, 3, 0}});
    }

    private static void promise21() {
        Doc.says("Promise 21", "Returns the call on the link between a first board and a middle board.");
        Doc.says("Promise 21", "Returns the number of the call;");
        Doc.says("Promise 21", "NONE if the link carries no call.");
        ClosExchange x = onLinks();
        int[][] calls = {{3, NONE, NONE, NONE}, {NONE, 2, NONE, NONE}, {NONE, 1, NONE, 0}};
        for (int board = 0; board < 3; board++) {
            for (int middle = 0; middle < 4; middle++) {
                Due.due("onFirstLink(" + board + ", " + middle + ")", x.onFirstLink(board, middle), calls[board][middle]);
            }
        }
        x.takeOut(2);
        Due.due("onFirstLink(0, 2), out of service", x.onFirstLink(0, 2), NONE);
        Doc.says("Promise 21", "UNKNOWN;");
        Doc.says("Promise 21", "a first board");
        Due.due("onFirstLink(3, 0)", x.onFirstLink(3, 0), UNKNOWN);
        Doc.says("Promise 21", "a middle board");
        Due.due("onFirstLink(0, 4)", x.onFirstLink(0, 4), UNKNOWN);
        for (int far : FAR) {
            Due.due("onFirstLink(" + far + ", 0)", x.onFirstLink(far, 0), UNKNOWN);
            Due.due("onFirstLink(0, " + far + ")", x.onFirstLink(0, far), UNKNOWN);
        }
    }

    private static void promise22() {
        Doc.says("Promise 22", "Returns the call on the link between a middle board and a last board.");
        Doc.says("Promise 22", "Returns the number of the call;");
        Doc.says("Promise 22", "NONE if the link carries no call.");
        ClosExchange x = onLinks();
        int[][] calls = {{NONE, 3, NONE}, {2, 1, NONE}, {NONE, NONE, NONE}, {0, NONE, NONE}};
        for (int middle = 0; middle < 4; middle++) {
            for (int board = 0; board < 3; board++) {
                Due.due("onLastLink(" + middle + ", " + board + ")", x.onLastLink(middle, board), calls[middle][board]);
            }
        }
        x.takeOut(2);
        Due.due("onLastLink(2, 0), out of service", x.onLastLink(2, 0), NONE);
        Doc.says("Promise 22", "UNKNOWN;");
        Doc.says("Promise 22", "a middle board");
        Due.due("onLastLink(4, 0)", x.onLastLink(4, 0), UNKNOWN);
        Doc.says("Promise 22", "a last board");
        Due.due("onLastLink(0, 3)", x.onLastLink(0, 3), UNKNOWN);
        for (int far : FAR) {
            Due.due("onLastLink(" + far + ", 0)", x.onLastLink(far, 0), UNKNOWN);
            Due.due("onLastLink(0, " + far + ")", x.onLastLink(0, far), UNKNOWN);
        }
    }

    private static void promise23() {
        Doc.says("Promise 23", "Returns the load of a middle board.");
        Doc.says("Promise 23", "Returns the load;");
        ClosExchange x = onLinks();
        int[] loads = {1, 2, 0, 1};
        for (int middle = 0; middle < 4; middle++) {
            Due.due("load(" + middle + ")", x.load(middle), loads[middle]);
        }
        x.takeOut(0);
        Due.due("load(0), out of service", x.load(0), 0);
        Doc.says("Promise 23", "a middle board");
        Due.due("load(7) of 8", Due.network(2, 1, 8).load(7), 0);
        Doc.says("Promise 23", "UNKNOWN.");
        Due.due("load(4)", x.load(4), UNKNOWN);
        Due.due("load(8) of 8", Due.network(2, 1, 8).load(8), UNKNOWN);
        for (int far : FAR) {
            Due.due("load(" + far + ")", x.load(far), UNKNOWN);
        }
    }

    private static void promise24() {
        Doc.says("Promise 24", "Returns the middle boards that are free for a first board.");
        Doc.says("Promise 24", "Returns the set as bits (bit k for the middle board k);");
        ClosExchange x = onLinks();
        int[] free = {14, 13, 5};
        for (int board = 0; board < 3; board++) {
            Due.due("freeForFirst(" + board + ")", x.freeForFirst(board), free[board]);
        }
        x.takeOut(2);
        for (int board = 0; board < 3; board++) {
            Due.due("freeForFirst(" + board + ") without 2", x.freeForFirst(board), free[board] - 4);
        }
        Due.due("freeForFirst(7), all of 8", Due.network(8, 6, 8).freeForFirst(7), 255);
        Doc.says("Promise 24", "UNKNOWN.");
        Doc.says("Promise 24", "a first board");
        Due.due("freeForFirst(3)", x.freeForFirst(3), UNKNOWN);
        Due.due("freeForFirst(8) of 8", Due.network(8, 6, 8).freeForFirst(8), UNKNOWN);
        for (int far : FAR) {
            Due.due("freeForFirst(" + far + ")", x.freeForFirst(far), UNKNOWN);
        }
    }

    private static void promise25() {
        Doc.says("Promise 25", "Returns the middle boards that are free for a last board.");
        Doc.says("Promise 25", "Returns the set as bits;");
        ClosExchange x = onLinks();
        int[] free = {5, 12, 15};
        for (int board = 0; board < 3; board++) {
            Due.due("freeForLast(" + board + ")", x.freeForLast(board), free[board]);
        }
        x.takeOut(2);
        for (int board = 0; board < 3; board++) {
            Due.due("freeForLast(" + board + ") without 2", x.freeForLast(board), free[board] - 4);
        }
        Due.due("freeForLast(7), all of 8", Due.network(8, 6, 8).freeForLast(7), 255);
        Doc.says("Promise 25", "UNKNOWN.");
        Doc.says("Promise 25", "a last board");
        Due.due("freeForLast(3)", x.freeForLast(3), UNKNOWN);
        Due.due("freeForLast(8) of 8", Due.network(8, 6, 8).freeForLast(8), UNKNOWN);
        for (int far : FAR) {
            Due.due("freeForLast(" + far + ")", x.freeForLast(far), UNKNOWN);
        }
    }

    private static void promise26() {
        Doc.says("Promise 26", "Returns the middle boards in service.");
        Doc.says("Promise 26", "Returns the set as bits.");
        ClosExchange x = Due.network(2, 1, 8);
        int service = 255;
        for (int middle : new int[] {3, 0, 7, 5, 1, 2, 6, 4}) {
            x.takeOut(middle);
            service -= 1 << middle;
            Due.due("inService() without " + middle, x.inService(), service);
        }
        for (int middle : new int[] {6, 7, 1, 0, 2, 4, 3, 5}) {
            x.putBack(middle);
            service += 1 << middle;
            Due.due("inService() with " + middle, x.inService(), service);
        }
    }

    private static void total(ClosExchange x, int what, int number) {
        Due.due("total(" + what + ")", x.total(what), number);
    }

    private static void promise27Size() {
        Doc.says("Promise 27", "Returns a number of the whole network.");
        Doc.says("Promise 27", "Returns the number;");
        Doc.says("Promise 27", "0 for the first boards, 1 for the lines on each, 2 for the middle boards,");
        ClosExchange x = Due.network(7, 5, 6);
        total(x, 0, 7);
        total(x, 1, 5);
        total(x, 2, 6);
        x.takeOut(5);
        total(x, 2, 6);
    }

    private static void promise27Rules() {
        Doc.says("Promise 27", "3 for the choice rule, 4 for the pair rule,");
        ClosExchange x = new ClosExchange();
        x.setChoiceRule(2);
        total(x, 3, 2);
        total(x, 4, 0);
        x.setPairRule(1);
        x.setChoiceRule(0);
        total(x, 3, 0);
        total(x, 4, 1);
    }

    private static void promise27Calls() {
        Doc.says("Promise 27", "5 for calls now, 6 for calls connected so far, 7 for calls ended so far by disconnect() and setUp(), 8 for calls dropped so far,");
        ClosExchange x = Due.network(2, 2, 2);
        int[][] due = {{0, 0, 0, 0}, {1, 1, 0, 0}, {2, 2, 0, 0}, {1, 2, 1, 0}, {1, 2, 1, 0}, {1, 2, 1, 0}, {2, 3, 1, 0},
            {1, 3, 1, 1}, {0, 3, 1, 2}, {0, 3, 1, 2}, {1, 4, 1, 2}, {0, 4, 2, 2}, {0, 4, 2, 2}};
        Look.Step[] steps = {y -> 0, y -> y.connect(0, 0), y -> y.connect(1, 2), y -> y.disconnect(0), y -> y.takeOut(0),
            y -> y.pack() + y.putBack(0), y -> y.connect(0, 0), y -> y.takeOut(0), y -> y.takeOut(1),
            y -> y.connect(3, 3), y -> y.putBack(0) + y.connect(3, 3), y -> y.setUp(2, 2, 2), y -> y.disconnect(3)};
        for (int k = 0; k < steps.length; k++) {
            steps[k].on(x);
            for (int what = 0; what < 4; what++) {
                Due.due("total(" + (5 + what) + ") after step " + k, x.total(5 + what), due[k][what]);
            }
        }
    }

    private static void promise27Moved() {
        Doc.says("Promise 27", "9 for calls moved so far,");
        ClosExchange x = Due.twoPairs();
        total(x, 9, 0);
        Doc.says("Promise 27", "(A call counts as moved each time that it is moved in a chain,");
        x.connect(1, 2);
        total(x, 9, 2);
        x.disconnect(1);
        x.undo();
        total(x, 9, 2);
        Doc.says("Promise 27", "and each time that it is routed anew by takeOut() and not dropped;");
        x = Due.network(3, 2, 3);
        x.connect(0, 0);
        x.connect(1, 2);
        x.takeOut(2);
        x.connect(4, 4);
        Due.due("takeOut(0)", x.takeOut(0), 1);
        total(x, 9, 1);
        x.putBack(2);
        Due.due("takeOut(1)", x.takeOut(1), 0);
        total(x, 9, 3);
        x.putBack(0);
        x.putBack(1);
        total(x, 9, 3);
        Doc.says("Promise 27", "pack() counts those that it returns.)");
        Due.due("pack()", x.pack(), 2);
        total(x, 9, 5);
        Due.due("pack()", x.pack(), 0);
        total(x, 9, 5);
    }

    private static void promise27HistoryAndText() {
        Doc.says("Promise 27", "10 for the states in the history, 11 for the length of the text.");
        ClosExchange x = new ClosExchange();
        int[] states = {0, 1, 2, 3, 4, 4, 4};
        for (int k = 0; k < states.length; k++) {
            total(x, 10, states[k]);
            total(x, 11, k);
            x.connect(k, k);
            x.type('p');
        }
        x.undo();
        total(x, 10, 3);
        total(x, 11, 7);
        x.clearText();
        total(x, 10, 3);
        total(x, 11, 0);
    }

    private static void promise27OutOfRange() {
        Doc.says("Promise 27", "OUT_OF_RANGE.");
        ClosExchange x = new ClosExchange();
        Due.due("total(12)", x.total(12), OUT_OF_RANGE);
        for (int far : FAR) {
            Due.due("total(" + far + ")", x.total(far), OUT_OF_RANGE);
        }
    }
}
