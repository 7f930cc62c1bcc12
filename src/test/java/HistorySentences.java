/** The sentences of "HISTORY". */
final class HistorySentences {
    private static final int NONE = ClosExchange.NONE;
    private static final int BUSY = ClosExchange.BUSY;
    private static final String SECTION = "HISTORY";

    private HistorySentences() {
    }

    static void all() {
        atMost4States();
        changesRecord();
        changesThatChangeNothingRecord();
        errorsAndNoneDontRecord();
        othersDontRecord();
        theOldestIsDropped();
        oneSnapshotEmptyAtFirst();
        stateIsEverything();
        exceptTheText();
        exceptTheHistory();
        exceptTheSnapshot();
    }

    private static void atMost4States() {
        Doc.says(SECTION, "A history of at most 4 states is kept.");
        ClosExchange x = new ClosExchange();
        Due.due("undo() at first", x.undo(), NONE);
        for (int changes = 1; changes <= 12; changes++) {
            x.connect(changes - 1, changes - 1);
            Due.due("total(10) after " + changes + " changes", x.total(10), Math.min(changes, 4));
        }
        for (int left = 3; left >= 0; left--) {
            Due.due("undo()", x.undo(), left);
            Due.due("total(5)", x.total(5), 8 + left);
        }
        Due.due("undo()", x.undo(), NONE);
        Due.due("total(5)", x.total(5), 8);
    }

    /** Two states, a text, a snapshot, calls from 0 to 0 and from 2 to 2 through 0, and 1 out of service. */
    static int small(ClosExchange x) {
        x.setUp(2, 2, 2);
        x.keep();
        return Due.perform(x, "c0-0;c2-2;o1");
    }

    /** As Due.twoPairs(), but of one change. */
    static int pairs(ClosExchange x) {
        return Due.perform(x, "o0;o1;c0-3;c4-6;i0;i1;c3-0;c6-1");
    }

    private static void changesRecord() {
        Doc.says(SECTION, "Each call of a method that is described as a change, and that returns neither an error nor NONE, records the state before it;");
        Look.isChange("setUp(3, 1, 4)", HistorySentences::small, x -> x.setUp(3, 1, 4), 2);
        Look.isChange("setChoiceRule(2)", HistorySentences::small, x -> x.setChoiceRule(2), 0);
        Look.isChange("setPairRule(1)", HistorySentences::small, x -> x.setPairRule(1), 0);
        Look.isChange("disconnect(2)", HistorySentences::small, x -> x.disconnect(2), 1);
        Look.isChange("takeOut(0)", HistorySentences::small, x -> x.takeOut(0), 2);
        Look.isChange("putBack(1)", HistorySentences::small, x -> x.putBack(1), 2);
        Look.isChange("restore()", HistorySentences::small, x -> x.restore(), 0);
        Look.isChange("connect(1, 2)", HistorySentences::pairs, x -> x.connect(1, 2), 0);
        Look.isChange("pack()", x -> Due.perform(x, "c0-0;c1-4;d0"), x -> x.pack(), 1);
        Look.isChange("perform()", x -> x.connect(0, 0) + x.connect(1, 4) + typed(x, "d0;p;o0"), x -> x.perform(), 3);
    }

    private static int typed(ClosExchange x, String text) {
        Due.type(x, text);
        return text.length();
    }

    private static void changesThatChangeNothingRecord() {
        Doc.says(SECTION, "Each call of a method that is described as a change, and that returns neither an error nor NONE, records the state before it;");
        Look.isChange("setUp(2, 2, 2) without calls", x -> x.setUp(2, 2, 2), x -> x.setUp(2, 2, 2), 0);
        Look.isChange("pack() that moves none", HistorySentences::small, x -> x.pack(), 0);
        Look.isChange("perform() of orders that return NONE", x -> typed(x, "i0;p"), x -> x.perform(), 2);
        Look.isChange("restore() of the same state", x -> x.connect(0, 0) + x.keep(), x -> x.restore(), 1);
        Look.isChange("takeOut(2) without calls through it", x -> x.connect(0, 0), x -> x.takeOut(2), 0);
    }

    private static void errorsAndNoneDontRecord() {
        Doc.says(SECTION, "Each call of a method that is described as a change, and that returns neither an error nor NONE, records the state before it;");
        Look.Step[] steps = {x -> x.setUp(1, 1, 1), x -> x.setUp(2, 7, 1), x -> x.setUp(2, 1, 0), x -> x.setChoiceRule(0),
            x -> x.setChoiceRule(3), x -> x.setPairRule(0), x -> x.setPairRule(-1), x -> x.connect(0, 1), x -> x.connect(1, 0),
            x -> x.connect(4, 0), x -> x.connect(1, 1), x -> x.disconnect(1), x -> x.disconnect(-1), x -> x.takeOut(1),
            x -> x.takeOut(2), x -> x.putBack(0), x -> x.putBack(2), x -> x.perform()};
        for (int k = 0; k < steps.length; k++) {
            ClosExchange x = new ClosExchange();
            small(x);
            int states = x.total(10);
            Due.due("step " + k + " returns an error or NONE", steps[k].on(x) < 0 ? 1 : 0, 1);
            Due.due("total(10) after step " + k, x.total(10), states);
            Due.due("undo() after step " + k, x.undo(), states - 1);
            Due.due("total(5) after step " + k + " and undo()", x.total(5), 0);
        }
        ClosExchange x = new ClosExchange();
        Due.due("pack()", x.pack(), NONE);
        Due.due("restore()", x.restore(), NONE);
        Due.due("undo()", x.undo(), NONE);
        Due.due("total(10)", x.total(10), 0);
    }

    private static void othersDontRecord() {
        Doc.says(SECTION, "Each call of a method that is described as a change, and that returns neither an error nor NONE, records the state before it;");
        Look.Step small = HistorySentences::small;
        Look.isNoChange("type('p')", small, x -> x.type('p'), 13);
        Look.isNoChange("clearText()", small, x -> x.clearText(), 12);
        Look.isNoChange("keep()", small, x -> x.keep(), 2);
        Look.isNoChange("wouldMove(3, 1)", small, x -> x.wouldMove(3, 1), ClosExchange.BLOCKED);
        Look.isNoChange("chainCall(3, 1, 0)", small, x -> x.chainCall(3, 1, 0), ClosExchange.BLOCKED);
        Look.isNoChange("reason(1, 1)", small, x -> x.reason(1, 1), 4);
        Look.isNoChange("leastMiddles()", small, x -> x.leastMiddles(), 1);
        Look.isNoChange("wouldDrop(0)", small, x -> x.wouldDrop(0), 2);
        Look.isNoChange("reachable(1)", small, x -> x.reachable(1), 0);
        Look.isNoChange("Look.at(x)", small, x -> Look.at(x).isEmpty() ? 1 : 0, 0);
        ClosExchange x = new ClosExchange();
        x.connect(0, 0);
        x.connect(1, 1);
        Due.due("undo()", x.undo(), 1);
        Due.due("undo() is no change", x.undo(), 0);
        Due.due("undo()", x.undo(), NONE);
    }

    private static void theOldestIsDropped() {
        Doc.says(SECTION, "if there are 4 already, the oldest one is dropped.");
        for (int changes = 4; changes <= 11; changes++) {
            ClosExchange x = new ClosExchange();
            for (int change = 1; change <= changes; change++) {
                Due.due("setUp", x.setUp(2 + change % 7, 1 + change % 6, 1 + change % 8), 0);
            }
            for (int change = changes - 1; change >= changes - 4; change--) {
                Due.due("undo() of " + changes + " changes", x.undo(), change - changes + 4);
                Due.due("total(0)", x.total(0), change == 0 ? 4 : 2 + change % 7);
                Due.due("total(1)", x.total(1), change == 0 ? 3 : 1 + change % 6);
                Due.due("total(2)", x.total(2), change == 0 ? 3 : 1 + change % 8);
            }
            Due.due("undo() of none", x.undo(), NONE);
            x.setUp(8, 1, 1);
            Due.due("undo() of a change behind them", x.undo(), 0);
            Due.due("total(0)", x.total(0), changes == 4 ? 4 : 2 + (changes - 4) % 7);
        }
    }

    private static void oneSnapshotEmptyAtFirst() {
        Doc.says(SECTION, "There is one snapshot, empty at first.");
        ClosExchange x = new ClosExchange();
        Due.due("restore() at first", x.restore(), NONE);
        x.connect(0, 0);
        Due.due("restore() without keep()", x.restore(), NONE);
        Due.due("keep()", x.keep(), 1);
        x.connect(4, 4);
        Due.due("keep()", x.keep(), 2);
        x.disconnect(0);
        x.disconnect(4);
        for (int k = 0; k < 3; k++) {
            Due.due("restore(), there is one alone", x.restore(), 2);
        }
        Due.due("restore() of a new object", new ClosExchange().restore(), NONE);
    }

    /** All that an object shows, but the text and the history, is as it was. */
    private static void stateIsEverything() {
        Doc.says(SECTION, "The state is everything except");
        ClosExchange x = new ClosExchange();
        Due.perform(x, "c0-0;c1-3;c2-6;c3-1;c4-4;c5-7;c6-2;o2;d3;i2");
        x.setChoiceRule(1);
        x.setPairRule(1);
        String before = Look.stateOf(x);
        int next = x.total(6);
        Due.due("total(8), some were dropped", Math.min(x.total(8), 1), 1);
        Due.due("total(9), some were moved", Math.min(x.total(9), 1), 1);
        x.setUp(8, 6, 8);
        Due.due("undo()", x.undo(), 3);
        Due.same("all that is seen after undo()", Look.stateOf(x), before);
        x.keep();
        x.setChoiceRule(2);
        Due.perform(x, "p;o0;o1;c11-11;o2;i1");
        x.restore();
        Due.same("all that is seen after restore()", Look.stateOf(x), before);
        Due.due("connect(11, 11)", Math.min(x.connect(11, 11), 0), 0);
        Due.due("callOfInlet(11), the next number is part of the state", x.callOfInlet(11), next);
    }

    private static void exceptTheText() {
        Doc.says(SECTION, "the text,");
        ClosExchange x = new ClosExchange();
        x.connect(0, 0);
        x.keep();
        Due.type(x, "d0;p");
        x.undo();
        Due.due("total(11) after undo()", x.total(11), 4);
        x.restore();
        Due.due("total(11) after restore()", x.total(11), 4);
        Due.due("perform() after restore()", x.perform(), 2);
        x.clearText();
        x.undo();
        Due.due("total(11) after clearText() and undo()", x.total(11), 0);
        x.restore();
        Due.due("total(11) after clearText() and restore()", x.total(11), 0);
    }

    private static void exceptTheHistory() {
        Doc.says(SECTION, "the history and");
        ClosExchange x = new ClosExchange();
        x.keep();
        x.connect(0, 0);
        x.connect(3, 3);
        x.connect(6, 6);
        x.restore();
        Due.due("total(10) after restore()", x.total(10), 4);
        for (int left = 3; left >= 0; left--) {
            Due.due("undo()", x.undo(), left);
            Due.due("total(10) after undo()", x.total(10), left);
            Due.due("total(5) after undo()", x.total(5), left);
        }
    }

    private static void exceptTheSnapshot() {
        Doc.says(SECTION, "the snapshot.");
        ClosExchange x = new ClosExchange();
        x.connect(0, 0);
        x.keep();
        Due.due("undo() of what was ahead of keep()", x.undo(), 0);
        Due.due("restore()", x.restore(), 1);
        x.setUp(2, 2, 2);
        x.connect(1, 1);
        Due.due("keep()", x.keep(), 1);
        x.undo();
        x.undo();
        Due.due("restore(), the later snapshot", x.restore(), 1);
        Due.due("callOfInlet(1)", x.callOfInlet(1), 1);
        Due.due("perform() that fails", Due.perform(x, "d1;d1"), BUSY);
        Due.due("restore()", x.restore(), 1);
        Due.due("total(0)", x.total(0), 2);
    }
}
