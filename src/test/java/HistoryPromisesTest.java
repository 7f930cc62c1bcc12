/** Promises 13 to 15: undo, keep, restore. */
public final class HistoryPromisesTest {
    private static final int NONE = ClosExchange.NONE;
    private static final int BUSY = ClosExchange.BUSY;

    public static void main(String[] args) {
        promise13FourStates();
        promise13WhatIsState();
        promise13NoChanges();
        promise14();
        promise15();
        promise15WhatIsState();
        Due.end("HistoryPromisesTest");
    }

    private static void promise13FourStates() {
        ClosExchange x = new ClosExchange();
        Due.due("13: undo()", x.undo(), NONE);
        for (int k = 0; k < 7; k++) {
            x.connect(k, k);
            Due.due("13: total(10)", x.total(10), Math.min(k + 1, 4));
        }
        for (int left = 3; left >= 0; left--) {
            Due.due("13: undo()", x.undo(), left);
            Due.due("13: total(5)", x.total(5), 3 + left);
            Due.due("13: total(10)", x.total(10), left);
        }
        Due.due("13: undo()", x.undo(), NONE);
        Due.due("13: total(5)", x.total(5), 3);
        x.connect(9, 9);
        x.connect(10, 10);
        Due.due("13: undo()", x.undo(), 1);
        x.connect(11, 11);
        Due.due("13: total(10)", x.total(10), 2);
        Due.due("13: undo()", x.undo(), 1);
        Due.due("13: callOfInlet(9)", x.callOfInlet(9), 3);
        Due.due("13: callOfInlet(10)", x.callOfInlet(10), NONE);
        Due.due("13: callOfInlet(11)", x.callOfInlet(11), NONE);
    }

    private static void promise13WhatIsState() {
        ClosExchange x = Due.twoPairs();
        x.setChoiceRule(1);
        x.setPairRule(1);
        x.connect(1, 2);
        x.keep();
        x.setUp(2, 1, 8);
        x.undo();
        int[] totals = {4, 3, 3, 1, 1, 5, 5, 0, 0, 1, 3, 0};
        for (int what = 0; what < totals.length; what++) {
            Due.due("13: total(" + what + ")", x.total(what), totals[what]);
        }
        Due.due("13: undo()", x.undo(), 2);
        Due.due("13: total(9)", x.total(9), 0);
        Due.due("13: total(6)", x.total(6), 4);
        Due.due("13: callOfOutlet(2)", x.callOfOutlet(2), NONE);
        Due.due("13: onLastLink(1, 0)", x.onLastLink(1, 0), 3);
        Due.due("13: the snapshot is no part of it", x.restore(), 5);
        Due.type(x, "p;p");
        Due.due("13: undo()", x.undo(), 2);
        Due.due("13: the text is no part of it", x.total(11), 3);
        Due.due("13: the rule is as it was", x.connect(9, 9), 2);
        Due.due("13: numbers are as they were", x.callOfInlet(9), 4);
    }

    private static void promise13NoChanges() {
        ClosExchange x = new ClosExchange();
        x.connect(0, 0);
        x.connect(0, 0);
        x.connect(99, 0);
        x.disconnect(1);
        x.takeOut(9);
        x.putBack(0);
        x.setUp(0, 0, 0);
        x.setChoiceRule(0);
        x.setChoiceRule(9);
        x.setPairRule(0);
        x.setPairRule(9);
        x.keep();
        x.type('d');
        x.perform();
        x.type('5');
        Due.due("13: perform()", x.perform(), BUSY);
        x.clearText();
        x.wouldDrop(0);
        x.wouldMove(1, 1);
        x.chainCall(1, 1, 0);
        x.reachable(1);
        Due.due("13: total(10)", x.total(10), 1);
        Due.due("13: undo()", x.undo(), 0);
        Due.due("13: total(5)", x.total(5), 0);
        Due.due("13: pack()", x.pack(), NONE);
        Due.due("13: undo()", x.undo(), NONE);
    }

    private static void promise14() {
        ClosExchange x = new ClosExchange();
        Due.due("14: keep()", x.keep(), 0);
        x.connect(0, 0);
        x.connect(4, 4);
        Due.due("14: keep()", x.keep(), 2);
        Due.due("14: total(10)", x.total(10), 2);
        x.disconnect(0);
        Due.due("14: in place of the earlier one", x.restore(), 2);
        x.disconnect(0);
        Due.due("14: keep()", x.keep(), 1);
        x.disconnect(4);
        Due.due("14: restore()", x.restore(), 1);
        Due.due("14: callOfInlet(4)", x.callOfInlet(4), 1);
    }

    private static void promise15() {
        ClosExchange x = new ClosExchange();
        Due.due("15: restore()", x.restore(), NONE);
        Due.due("15: total(10)", x.total(10), 0);
        x.connect(0, 0);
        x.keep();
        x.connect(1, 3);
        x.connect(2, 6);
        Due.due("15: restore()", x.restore(), 1);
        Due.due("15: total(10)", x.total(10), 4);
        Due.due("15: callOfInlet(1)", x.callOfInlet(1), NONE);
        Due.due("15: undo()", x.undo(), 3);
        Due.due("15: total(5)", x.total(5), 3);
        x.setUp(2, 2, 2);
        Due.due("15: the snapshot stays", x.restore(), 1);
        Due.due("15: total(0)", x.total(0), 4);
        Due.due("15: restore()", x.restore(), 1);
        Due.due("15: undo()", x.undo(), 3);
        Due.due("15: undo()", x.undo(), 2);
        Due.due("15: total(0)", x.total(0), 2);
    }

    private static void promise15WhatIsState() {
        ClosExchange x = Due.twoPairs();
        x.connect(1, 2);
        x.disconnect(6);
        x.keep();
        Due.type(x, "p");
        x.setChoiceRule(2);
        x.setPairRule(1);
        x.takeOut(0);
        x.connect(11, 11);
        x.setUp(8, 6, 8);
        x.restore();
        int[] totals = {4, 3, 3, 0, 0, 4, 5, 1, 0, 2, 4, 1};
        for (int what = 0; what < totals.length; what++) {
            Due.due("15: total(" + what + ")", x.total(what), totals[what]);
        }
        Due.due("15: inService()", x.inService(), 7);
        Due.due("15: middleOf(1)", x.middleOf(1), 0);
        x.connect(11, 11);
        Due.due("15: numbers are as they were", x.callOfInlet(11), 5);
    }
}
