/** Promises 1 to 4: a new object, setUp, setChoiceRule, setPairRule. */
public final class NetworkPromisesTest {
    private static final int UNKNOWN = ClosExchange.UNKNOWN;
    private static final int OUT_OF_RANGE = ClosExchange.OUT_OF_RANGE;
    private static final int NONE = ClosExchange.NONE;

    public static void main(String[] args) {
        promise1();
        promise2Answers();
        promise2OneLine();
        promise2WrongInputs();
        promise2WhatGoesOn();
        promise3();
        promise4();
        Due.end("NetworkPromisesTest");
    }

    private static void promise1() {
        ClosExchange x = new ClosExchange();
        int[] totals = {4, 3, 3, 0, 0, 0, 0, 0, 0, 0, 0, 0};
        for (int what = 0; what < totals.length; what++) {
            Due.due("1: total(" + what + ")", x.total(what), totals[what]);
        }
        Due.due("1: inService()", x.inService(), 7);
        for (int line = 0; line < 12; line++) {
            Due.due("1: callOfInlet(" + line + ")", x.callOfInlet(line), NONE);
            Due.due("1: callOfOutlet(" + line + ")", x.callOfOutlet(line), NONE);
        }
        Due.due("1: callOfInlet(12)", x.callOfInlet(12), UNKNOWN);
        Due.due("1: callOfOutlet(12)", x.callOfOutlet(12), UNKNOWN);
        for (int board = 0; board < 4; board++) {
            Due.due("1: freeForFirst(" + board + ")", x.freeForFirst(board), 7);
            Due.due("1: freeForLast(" + board + ")", x.freeForLast(board), 7);
        }
        Due.due("1: undo()", x.undo(), NONE);
        Due.due("1: restore()", x.restore(), NONE);
        Due.due("1: pack()", x.pack(), NONE);
        Due.due("1: perform()", x.perform(), -100);
    }

    private static void promise2Answers() {
        ClosExchange x = new ClosExchange();
        Due.due("2: setUp(2, 1, 1)", x.setUp(2, 1, 1), 0);
        Due.due("2: total(0)", x.total(0), 2);
        Due.due("2: total(1)", x.total(1), 1);
        Due.due("2: total(2)", x.total(2), 1);
        Due.due("2: connect(1, 1)", x.connect(1, 1), 0);
        Due.due("2: connect(2, 0)", x.connect(2, 0), UNKNOWN);
        Due.due("2: setUp(8, 6, 8)", x.setUp(8, 6, 8), 1);
        Due.due("2: total(0)", x.total(0), 8);
        Due.due("2: total(1)", x.total(1), 6);
        Due.due("2: total(2)", x.total(2), 8);
        Due.due("2: inService()", x.inService(), 255);
        Due.due("2: connect(47, 47)", x.connect(47, 47), 0);
        Due.due("2: connect(0, 0)", x.connect(0, 0), 0);
        Due.due("2: connect(6, 6)", x.connect(6, 6), 0);
        Due.due("2: setUp(8, 6, 8)", x.setUp(8, 6, 8), 3);
        Due.due("2: setUp(8, 6, 8)", x.setUp(8, 6, 8), 0);
        Due.due("2: callOfInlet(47)", x.callOfInlet(47), NONE);
        Due.due("2: callOfOutlet(47)", x.callOfOutlet(47), NONE);
        Due.due("2: onFirstLink(7, 0)", x.onFirstLink(7, 0), NONE);
        Due.due("2: onLastLink(0, 7)", x.onLastLink(0, 7), NONE);
        Due.due("2: inletOf(1)", x.inletOf(1), UNKNOWN);
        Due.due("2: load(0)", x.load(0), 0);
        x.connect(13, 13);
        x.connect(14, 14);
        x.setUp(8, 6, 8);
        x.connect(3, 3);
        Due.due("2: no call of before is left to be packed", x.pack(), 0);
        x.disconnect(3);
        Due.due("2: no call of before is left to be routed", x.takeOut(0), 0);
        Due.due("2: total(8)", x.total(8), 0);
        Due.due("2: total(9)", x.total(9), 0);
        Due.due("2: connect(3, 3)", x.connect(3, 3), 1);
        Due.due("2: pack()", x.pack(), 0);
    }

    private static void promise2OneLine() {
        ClosExchange x = Due.network(8, 1, 2);
        Due.due("2: connect(7, 5)", x.connect(7, 5), 0);
        for (int board = 0; board < 8; board++) {
            Due.due("2: freeForFirst(" + board + ")", x.freeForFirst(board), board == 7 ? 2 : 3);
            Due.due("2: freeForLast(" + board + ")", x.freeForLast(board), board == 5 ? 2 : 3);
        }
        Due.due("2: connect(8, 0)", x.connect(8, 0), UNKNOWN);
    }

    private static void promise2WrongInputs() {
        int[][] wrong = {{1, 1, 1}, {9, 1, 1}, {2, 0, 1}, {2, 7, 1}, {2, 1, 0}, {2, 1, 9}, {-1, -1, -1},
            {Integer.MAX_VALUE, 1, 1}, {2, Integer.MIN_VALUE, 1}, {2, 1, Integer.MAX_VALUE}};
        ClosExchange x = new ClosExchange();
        x.connect(5, 5);
        for (int[] w : wrong) {
            String call = "2: setUp(" + w[0] + ", " + w[1] + ", " + w[2] + ")";
            Due.due(call, x.setUp(w[0], w[1], w[2]), OUT_OF_RANGE);
            Due.due(call + " and total(5)", x.total(5), 1);
            Due.due(call + " and total(10)", x.total(10), 1);
        }
        Due.due("2: total(0)", x.total(0), 4);
        Due.due("2: total(1)", x.total(1), 3);
        Due.due("2: total(2)", x.total(2), 3);
    }

    private static void promise2WhatGoesOn() {
        ClosExchange x = new ClosExchange();
        x.setChoiceRule(2);
        x.setPairRule(1);
        x.connect(0, 0);
        x.connect(11, 11);
        x.takeOut(1);
        Due.type(x, "p");
        Due.due("2: setUp(3, 2, 4)", x.setUp(3, 2, 4), 2);
        int[] totals = {3, 2, 4, 2, 1, 0, 2, 2, 0, 1, 4, 1};
        for (int what = 0; what < totals.length; what++) {
            Due.due("2: then total(" + what + ")", x.total(what), totals[what]);
        }
        Due.due("2: inService()", x.inService(), 15);
        x.connect(5, 5);
        Due.due("2: callOfInlet(5)", x.callOfInlet(5), 2);
        x.undo();
        Due.due("2: undo()", x.undo(), 2);
        Due.due("2: total(0)", x.total(0), 4);
        Due.due("2: total(7)", x.total(7), 0);
        Due.due("2: callOfOutlet(11)", x.callOfOutlet(11), 1);
        Due.due("2: inService()", x.inService(), 5);
    }

    private static void promise3() {
        ClosExchange x = new ClosExchange();
        Due.due("3: setChoiceRule(-1)", x.setChoiceRule(-1), OUT_OF_RANGE);
        Due.due("3: setChoiceRule(3)", x.setChoiceRule(3), OUT_OF_RANGE);
        Due.due("3: setChoiceRule(0)", x.setChoiceRule(0), NONE);
        Due.due("3: total(10)", x.total(10), 0);
        Due.due("3: setChoiceRule(2)", x.setChoiceRule(2), 0);
        Due.due("3: setChoiceRule(2)", x.setChoiceRule(2), NONE);
        Due.due("3: setChoiceRule(1)", x.setChoiceRule(1), 2);
        Due.due("3: setChoiceRule(0)", x.setChoiceRule(0), 1);
        Due.due("3: total(10)", x.total(10), 3);
        Due.due("3: undo()", x.undo(), 2);
        Due.due("3: total(3)", x.total(3), 1);
        Due.due("3: undo()", x.undo(), 1);
        Due.due("3: total(3)", x.total(3), 2);
        Due.due("3: total(4)", x.total(4), 0);
    }

    private static void promise4() {
        ClosExchange x = new ClosExchange();
        Due.due("4: setPairRule(-1)", x.setPairRule(-1), OUT_OF_RANGE);
        Due.due("4: setPairRule(2)", x.setPairRule(2), OUT_OF_RANGE);
        Due.due("4: setPairRule(0)", x.setPairRule(0), NONE);
        Due.due("4: total(10)", x.total(10), 0);
        Due.due("4: setPairRule(1)", x.setPairRule(1), 0);
        Due.due("4: total(4)", x.total(4), 1);
        Due.due("4: setPairRule(1)", x.setPairRule(1), NONE);
        Due.due("4: setPairRule(0)", x.setPairRule(0), 1);
        Due.due("4: total(10)", x.total(10), 2);
        Due.due("4: undo()", x.undo(), 1);
        Due.due("4: total(4)", x.total(4), 1);
        Due.due("4: total(3)", x.total(3), 0);
    }
}
