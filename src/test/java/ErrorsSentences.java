/** The sentences of "ERRORS". */
final class ErrorsSentences {
    private static final int UNKNOWN = ClosExchange.UNKNOWN;
    private static final int OUT_OF_RANGE = ClosExchange.OUT_OF_RANGE;
    private static final int BUSY = ClosExchange.BUSY;
    private static final int BLOCKED = ClosExchange.BLOCKED;
    private static final int FULL = ClosExchange.FULL;
    private static final int NONE = ClosExchange.NONE;
    private static final String SECTION = "ERRORS";
    private static final Look.Step SMALL = HistorySentences::small;

    private ErrorsSentences() {
    }

    static void all() {
        constants();
        theFirstOfSeveral();
        theFirstOfSeveralInATextsOrders();
        noneIsNoError();
        noneOnlyIfNoErrorApplies();
        errorsChangeNothing();
        errorsOfPerformChangeNothing();
        noneChangesNothing();
        unknown();
        outOfRange();
        busy();
        blocked();
        full();
        none();
    }

    private static void constants() {
        Doc.says(SECTION, "Errors are reported by the constants below.");
        String[] sentences = {"`UNKNOWN = -1`:", "`OUT_OF_RANGE = -2`:", "`BUSY = -3`:", "`BLOCKED = -4`:", "`FULL = -5`:", "`NONE = -6`:"};
        int[] constants = {UNKNOWN, OUT_OF_RANGE, BUSY, BLOCKED, FULL, NONE};
        for (int k = 0; k < 6; k++) {
            Doc.says(SECTION, sentences[k]);
            Due.due("the constant", constants[k], -1 - k);
        }
    }

    private static void theFirstOfSeveral() {
        Doc.says(SECTION, "If several errors apply, the one that stands first in the @return line is returned.");
        ClosExchange x = new ClosExchange();
        HistorySentences.small(x);
        Due.due("connect(0, 4), UNKNOWN and BUSY", x.connect(0, 4), UNKNOWN);
        Due.due("connect(4, 0), UNKNOWN and BUSY", x.connect(4, 0), UNKNOWN);
        Due.due("connect(1, -1), UNKNOWN and none is free", x.connect(1, -1), UNKNOWN);
        Due.due("connect(0, 1), BUSY and BLOCKED", x.connect(0, 1), BUSY);
        Due.due("connect(1, 0), BUSY and BLOCKED", x.connect(1, 0), BUSY);
        Due.due("wouldMove(0, 4), UNKNOWN and BUSY", x.wouldMove(0, 4), UNKNOWN);
        Due.due("wouldMove(4, 0), UNKNOWN and BUSY", x.wouldMove(4, 0), UNKNOWN);
        Due.due("wouldMove(0, 1), BUSY and BLOCKED", x.wouldMove(0, 1), BUSY);
        Due.due("wouldMove(1, 0), BUSY and BLOCKED", x.wouldMove(1, 0), BUSY);
        Due.due("chainCall(0, 4, -1), UNKNOWN, BUSY and OUT_OF_RANGE", x.chainCall(0, 4, -1), UNKNOWN);
        Due.due("chainCall(4, 0, -1), UNKNOWN, BUSY and OUT_OF_RANGE", x.chainCall(4, 0, -1), UNKNOWN);
        Due.due("chainCall(0, 1, -1), BUSY, BLOCKED and OUT_OF_RANGE", x.chainCall(0, 1, -1), BUSY);
        Due.due("chainCall(1, 1, -1), BLOCKED and OUT_OF_RANGE", x.chainCall(1, 1, -1), BLOCKED);
        Due.due("perform(), a fault and an order of a busy inlet", Due.perform(x, "c0-1;x"), -105);
        Due.due("perform(), a fault and an order of no inlet", Due.perform(x, "d9;"), -103);
    }

    private static void theFirstOfSeveralInATextsOrders() {
        Doc.says(SECTION, "If several errors apply, the one that stands first in the @return line is returned.");
        String[] texts = {"c0-4", "c4-0", "c0-1", "c1-1", "c3-0", "d4", "o2", "i2", "c1-1;c4-0", "c0-1;d4", "d1;c1-1"};
        int[] errors = {UNKNOWN, UNKNOWN, BUSY, BLOCKED, BUSY, UNKNOWN, UNKNOWN, UNKNOWN, BLOCKED, BUSY, BUSY};
        for (int k = 0; k < texts.length; k++) {
            ClosExchange x = new ClosExchange();
            HistorySentences.small(x);
            Due.due("perform() of " + texts[k], Due.perform(x, texts[k]), errors[k]);
        }
    }

    private static void noneIsNoError() {
        Doc.says(SECTION, "NONE is not an error;");
        ClosExchange x = new ClosExchange();
        Due.due("perform() of orders that return NONE", Due.perform(x, "p;i0;o1;o1;i1;i1;p;c0-0"), 8);
        Due.due("total(5)", x.total(5), 1);
    }

    private static void noneOnlyIfNoErrorApplies() {
        Doc.says(SECTION, "it is returned only if no error applies.");
        ClosExchange x = new ClosExchange();
        HistorySentences.small(x);
        Due.due("takeOut(2)", x.takeOut(2), UNKNOWN);
        Due.due("putBack(2)", x.putBack(2), UNKNOWN);
        Due.due("wouldDrop(2)", x.wouldDrop(2), UNKNOWN);
        Due.due("setChoiceRule(3)", x.setChoiceRule(3), OUT_OF_RANGE);
        Due.due("setPairRule(2)", x.setPairRule(2), OUT_OF_RANGE);
        Due.due("callOfInlet(4)", x.callOfInlet(4), UNKNOWN);
        Due.due("callOfOutlet(4)", x.callOfOutlet(4), UNKNOWN);
        Due.due("onFirstLink(2, 1)", x.onFirstLink(2, 1), UNKNOWN);
        Due.due("onFirstLink(0, 2)", x.onFirstLink(0, 2), UNKNOWN);
        Due.due("onLastLink(2, 0)", x.onLastLink(2, 0), UNKNOWN);
        Due.due("onLastLink(1, 2)", x.onLastLink(1, 2), UNKNOWN);
        Due.due("chainCall(1, 1, 9)", x.chainCall(1, 1, 9), BLOCKED);
        Due.due("chainCall(0, 0, 9)", x.chainCall(0, 0, 9), BUSY);
        Due.due("chainCall(9, 9, 9)", x.chainCall(9, 9, 9), UNKNOWN);
        x.putBack(1);
        Due.due("chainCall(1, 1, -9)", x.chainCall(1, 1, -9), OUT_OF_RANGE);
        Due.due("chainCall(1, 1, 9)", x.chainCall(1, 1, 9), NONE);
    }

    private static void errorsChangeNothing() {
        Doc.says(SECTION, "A method that returns an error or NONE changes nothing.");
        Look.changesNothing("setUp(1, 1, 1)", SMALL, x -> x.setUp(1, 1, 1), OUT_OF_RANGE);
        Look.changesNothing("setUp(2, 7, 1)", SMALL, x -> x.setUp(2, 7, 1), OUT_OF_RANGE);
        Look.changesNothing("setUp(3, 3, 9)", SMALL, x -> x.setUp(3, 3, 9), OUT_OF_RANGE);
        Look.changesNothing("setChoiceRule(3)", SMALL, x -> x.setChoiceRule(3), OUT_OF_RANGE);
        Look.changesNothing("setPairRule(2)", SMALL, x -> x.setPairRule(2), OUT_OF_RANGE);
        Look.changesNothing("connect(1, 4)", SMALL, x -> x.connect(1, 4), UNKNOWN);
        Look.changesNothing("connect(4, 1)", SMALL, x -> x.connect(4, 1), UNKNOWN);
        Look.changesNothing("connect(0, 3)", SMALL, x -> x.connect(0, 3), BUSY);
        Look.changesNothing("connect(1, 2)", SMALL, x -> x.connect(1, 2), BUSY);
        Look.changesNothing("connect(1, 1)", SMALL, x -> x.connect(1, 1), BLOCKED);
        Look.changesNothing("disconnect(4)", SMALL, x -> x.disconnect(4), UNKNOWN);
        Look.changesNothing("disconnect(1)", SMALL, x -> x.disconnect(1), BUSY);
        Look.changesNothing("takeOut(2)", SMALL, x -> x.takeOut(2), UNKNOWN);
        Look.changesNothing("putBack(2)", SMALL, x -> x.putBack(2), UNKNOWN);
        Look.changesNothing("type('p') in a full text", x -> filled(x), x -> x.type('p'), FULL);
    }

    private static int filled(ClosExchange x) {
        x.setUp(2, 1, 1);
        Due.type(x, "p;".repeat(29) + "d1");
        return x.total(11);
    }

    private static void errorsOfPerformChangeNothing() {
        Doc.says(SECTION, "A method that returns an error or NONE changes nothing.");
        String[] texts = {"", "x", "c1-1;d0;", "c1-3;d0;c48-0", "d0;d2;d2", "d0;o0;c1-1", "i1;c1-1;c1-3", "i1;c1-1;o0;p;d5", "p;o2",
            "d0;d2;p;i2", "i1;o0;c1-1;c1-4"};
        int[] answers = {-100, -100, -108, -110, BUSY, BLOCKED, BUSY, UNKNOWN, UNKNOWN, UNKNOWN, BLOCKED};
        for (int k = 0; k < texts.length; k++) {
            String text = texts[k];
            Look.changesNothing("perform() of " + text, x -> smallWith(x, text), x -> x.perform(), answers[k]);
        }
    }

    private static int smallWith(ClosExchange x, String text) {
        HistorySentences.small(x);
        x.clearText();
        Due.type(x, text);
        return x.total(11);
    }

    private static void noneChangesNothing() {
        Doc.says(SECTION, "A method that returns an error or NONE changes nothing.");
        Look.changesNothing("setChoiceRule(0)", SMALL, x -> x.setChoiceRule(0), NONE);
        Look.changesNothing("setPairRule(0)", SMALL, x -> x.setPairRule(0), NONE);
        Look.changesNothing("takeOut(1)", SMALL, x -> x.takeOut(1), NONE);
        Look.changesNothing("putBack(0)", SMALL, x -> x.putBack(0), NONE);
        Look.changesNothing("pack()", x -> filled(x), x -> x.pack(), NONE);
        Look.changesNothing("restore()", x -> filled(x), x -> x.restore(), NONE);
        Look.changesNothing("undo()", x -> x.keep(), x -> x.undo(), NONE);
        Look.changesNothing("wouldDrop(1)", SMALL, x -> x.wouldDrop(1), NONE);
        Look.changesNothing("callOfInlet(1)", SMALL, x -> x.callOfInlet(1), NONE);
    }

    private static void unknown() {
        Doc.says(SECTION, "There is no such board, inlet, outlet or call.");
        ClosExchange x = new ClosExchange();
        for (int none : new int[] {-1, 12, 13, 48, 64, Integer.MIN_VALUE, Integer.MAX_VALUE}) {
            Due.due("freeForFirst(" + none + "), a board", x.freeForFirst(none), UNKNOWN);
            Due.due("freeForLast(" + none + "), a board", x.freeForLast(none), UNKNOWN);
            Due.due("load(" + none + "), a board", x.load(none), UNKNOWN);
            Due.due("takeOut(" + none + "), a board", x.takeOut(none), UNKNOWN);
            Due.due("putBack(" + none + "), a board", x.putBack(none), UNKNOWN);
            Due.due("wouldDrop(" + none + "), a board", x.wouldDrop(none), UNKNOWN);
            Due.due("callOfInlet(" + none + "), an inlet", x.callOfInlet(none), UNKNOWN);
            Due.due("disconnect(" + none + "), an inlet", x.disconnect(none), UNKNOWN);
            Due.due("reachable(" + none + "), an inlet", x.reachable(none), UNKNOWN);
            Due.due("connect(" + none + ", 0), an inlet", x.connect(none, 0), UNKNOWN);
            Due.due("connect(0, " + none + "), an outlet", x.connect(0, none), UNKNOWN);
            Due.due("callOfOutlet(" + none + "), an outlet", x.callOfOutlet(none), UNKNOWN);
            Due.due("inletOf(" + none + "), a call", x.inletOf(none), UNKNOWN);
            Due.due("outletOf(" + none + "), a call", x.outletOf(none), UNKNOWN);
            Due.due("middleOf(" + none + "), a call", x.middleOf(none), UNKNOWN);
        }
    }

    private static void outOfRange() {
        Doc.says(SECTION, "Another argument is out of its range.");
        ClosExchange x = new ClosExchange();
        for (int far : new int[] {-1, 12, 99, Integer.MIN_VALUE, Integer.MAX_VALUE}) {
            Due.due("setUp(" + far + ", 3, 3)", x.setUp(far, 3, 3), OUT_OF_RANGE);
            Due.due("setUp(4, " + far + ", 3)", x.setUp(4, far, 3), OUT_OF_RANGE);
            Due.due("setUp(4, 3, " + far + ")", x.setUp(4, 3, far), OUT_OF_RANGE);
            Due.due("setChoiceRule(" + far + ")", x.setChoiceRule(far), OUT_OF_RANGE);
            Due.due("setPairRule(" + far + ")", x.setPairRule(far), OUT_OF_RANGE);
            Due.due("total(" + far + ")", x.total(far), OUT_OF_RANGE);
        }
        Due.due("chainCall(0, 0, -1)", x.chainCall(0, 0, -1), OUT_OF_RANGE);
    }

    private static void busy() {
        Doc.says(SECTION, "The inlet or the outlet is busy, or an inlet is not busy that should be.");
        ClosExchange x = new ClosExchange();
        Due.due("disconnect(5), not busy", x.disconnect(5), BUSY);
        x.connect(5, 7);
        Due.due("connect(5, 8), the inlet is", x.connect(5, 8), BUSY);
        Due.due("connect(6, 7), the outlet is", x.connect(6, 7), BUSY);
        Due.due("connect(5, 7), both are", x.connect(5, 7), BUSY);
        Due.due("reachable(5), the inlet is", x.reachable(5), BUSY);
        Due.due("disconnect(7), an outlet's number", x.disconnect(7), BUSY);
    }

    private static void blocked() {
        Doc.says(SECTION, "The call is blocked.");
        ClosExchange x = Due.network(2, 2, 1);
        x.connect(0, 0);
        Due.due("connect(1, 2)", x.connect(1, 2), BLOCKED);
        Due.due("wouldMove(1, 2)", x.wouldMove(1, 2), BLOCKED);
        Due.due("chainCall(1, 2, 0)", x.chainCall(1, 2, 0), BLOCKED);
        Due.due("perform() of c1-2", Due.perform(x, "c1-2"), BLOCKED);
    }

    private static void full() {
        Doc.says(SECTION, "There is no more room in the text.");
        ClosExchange x = new ClosExchange();
        Due.type(x, "p;".repeat(30));
        Due.due("type('p')", x.type('p'), FULL);
        x.undo();
        Due.due("type('p')", x.type('p'), FULL);
    }

    private static void none() {
        Doc.says(SECTION, "There is no such thing; this is not an error.");
        ClosExchange x = new ClosExchange();
        Due.due("callOfInlet(0)", x.callOfInlet(0), NONE);
        Due.due("callOfOutlet(0)", x.callOfOutlet(0), NONE);
        Due.due("onFirstLink(0, 0)", x.onFirstLink(0, 0), NONE);
        Due.due("onLastLink(0, 0)", x.onLastLink(0, 0), NONE);
        Due.due("pack()", x.pack(), NONE);
        Due.due("undo()", x.undo(), NONE);
        Due.due("restore()", x.restore(), NONE);
        Due.due("chainCall(0, 0, 0)", x.chainCall(0, 0, 0), NONE);
        Due.due("setChoiceRule(0)", x.setChoiceRule(0), NONE);
        Due.due("setPairRule(0)", x.setPairRule(0), NONE);
        Due.due("putBack(0)", x.putBack(0), NONE);
        x.takeOut(0);
        Due.due("takeOut(0)", x.takeOut(0), NONE);
        Due.due("wouldDrop(0)", x.wouldDrop(0), NONE);
    }
}
