/** Promises 28 to 33: what would be. */
public final class OutlookPromisesTest {
    private static final int UNKNOWN = ClosExchange.UNKNOWN;
    private static final int OUT_OF_RANGE = ClosExchange.OUT_OF_RANGE;
    private static final int BUSY = ClosExchange.BUSY;
    private static final int BLOCKED = ClosExchange.BLOCKED;
    private static final int NONE = ClosExchange.NONE;
    private static final int[] NO_LINES = {-1, 12, 48, Integer.MIN_VALUE, Integer.MAX_VALUE};

    public static void main(String[] args) {
        promise28();
        promise29();
        promises28And29Errors();
        promise30();
        promise31();
        promise32();
        promise33();
        Due.end("OutlookPromisesTest");
    }

    private static void promise28() {
        ClosExchange x = Due.twoPairs();
        Due.due("28: wouldMove(1, 2)", x.wouldMove(1, 2), 2);
        Due.due("28: wouldMove(9, 9)", x.wouldMove(9, 9), 0);
        x.setPairRule(1);
        Due.due("28: wouldMove(1, 2)", x.wouldMove(1, 2), 1);
        Due.due("28: nothing changes, total(9)", x.total(9), 0);
        Due.due("28: total(5)", x.total(5), 4);
        Due.due("28: middleOf(3)", x.middleOf(3), 1);
        Due.due("28: total(10)", x.total(10), 4);
    }

    private static void promise29() {
        ClosExchange x = Due.twoPairs();
        int[] chain = {2, 1, NONE, NONE};
        for (int index = 0; index < chain.length; index++) {
            Due.due("29: chainCall(1, 2, " + index + ")", x.chainCall(1, 2, index), chain[index]);
        }
        x.setPairRule(1);
        Due.due("29: chainCall(1, 2, 0)", x.chainCall(1, 2, 0), 3);
        Due.due("29: chainCall(1, 2, 1)", x.chainCall(1, 2, 1), NONE);
        Due.due("29: chainCall(9, 9, 0)", x.chainCall(9, 9, 0), NONE);
        Due.due("29: great index", x.chainCall(1, 2, Integer.MAX_VALUE), NONE);
        Due.due("29: negative index", x.chainCall(1, 2, -1), OUT_OF_RANGE);
        Due.due("29: negative index", x.chainCall(9, 9, Integer.MIN_VALUE), OUT_OF_RANGE);
        Due.due("29: nothing changes", x.middleOf(3), 1);
        Due.due("29: total(10)", x.total(10), 4);
    }

    private static void promises28And29Errors() {
        ClosExchange x = new ClosExchange();
        x.takeOut(1);
        x.takeOut(2);
        x.connect(0, 0);
        for (int line : NO_LINES) {
            Due.due("28: wouldMove(" + line + ", 0)", x.wouldMove(line, 0), UNKNOWN);
            Due.due("28: wouldMove(0, " + line + ")", x.wouldMove(0, line), UNKNOWN);
            Due.due("29: chainCall(" + line + ", 0, -1)", x.chainCall(line, 0, -1), UNKNOWN);
            Due.due("29: chainCall(0, " + line + ", 0)", x.chainCall(0, line, 0), UNKNOWN);
        }
        Due.due("28: wouldMove(0, 1)", x.wouldMove(0, 1), BUSY);
        Due.due("28: wouldMove(1, 0)", x.wouldMove(1, 0), BUSY);
        Due.due("29: chainCall(0, 1, -1)", x.chainCall(0, 1, -1), BUSY);
        Due.due("29: chainCall(1, 0, 0)", x.chainCall(1, 0, 0), BUSY);
        Due.due("28: wouldMove(1, 3)", x.wouldMove(1, 3), BLOCKED);
        Due.due("28: wouldMove(3, 1)", x.wouldMove(3, 1), BLOCKED);
        Due.due("29: chainCall(1, 3, -1)", x.chainCall(1, 3, -1), BLOCKED);
        Due.due("29: chainCall(3, 1, 0)", x.chainCall(3, 1, 0), BLOCKED);
        Due.due("29: chainCall(3, 3, -1)", x.chainCall(3, 3, -1), OUT_OF_RANGE);
        Due.due("29: chainCall(3, 3, 0)", x.chainCall(3, 3, 0), NONE);
    }

    private static void promise30() {
        ClosExchange x = Due.twoPairs();
        Due.due("30: could without moving", x.reason(9, 9), 0);
        Due.due("30: could by moving", x.reason(1, 2), 1);
        Due.due("30: the inlet is busy", x.reason(0, 9), 2);
        Due.due("30: both are busy", x.reason(0, 0), 2);
        Due.due("30: the outlet is busy", x.reason(9, 0), 3);
        for (int line : NO_LINES) {
            Due.due("30: reason(" + line + ", 0)", x.reason(line, 0), UNKNOWN);
            Due.due("30: reason(0, " + line + ")", x.reason(0, line), UNKNOWN);
        }
        Due.due("30: nothing changes", x.total(10), 4);
        x = Due.network(3, 2, 1);
        x.connect(0, 0);
        Due.due("30: none is free for the first board", x.reason(1, 2), 4);
        Due.due("30: none is free for either", x.reason(1, 1), 4);
        Due.due("30: none is free for the last board", x.reason(2, 1), 5);
        Due.due("30: reason(2, 2)", x.reason(2, 2), 0);
        Due.due("30: busy ahead of blocked", x.reason(1, 0), 3);
        x.takeOut(0);
        Due.due("30: none in service", x.reason(2, 2), 4);
    }

    private static void promise31() {
        ClosExchange x = Due.network(4, 4, 8);
        Due.due("31: leastMiddles()", x.leastMiddles(), 0);
        int[][] calls = {{0, 0}, {5, 5}, {1, 9}, {6, 8}, {12, 10}, {7, 13}, {4, 3}, {8, 11}, {13, 6}};
        int[] least = {1, 1, 2, 2, 3, 3, 4, 4, 4};
        for (int k = 0; k < calls.length; k++) {
            x.connect(calls[k][0], calls[k][1]);
            Due.due("31: leastMiddles() of " + (k + 1) + " calls", x.leastMiddles(), least[k]);
        }
        x.disconnect(8);
        Due.due("31: leastMiddles()", x.leastMiddles(), 4);
        x.disconnect(4);
        Due.due("31: leastMiddles()", x.leastMiddles(), 3);
        x.setUp(4, 4, 8);
        Due.due("31: leastMiddles()", x.leastMiddles(), 0);
        for (int k = 0; k < 4; k++) {
            x.connect(4 * k, 12 + k);
        }
        Due.due("31: on a last board", x.leastMiddles(), 4);
    }

    private static void promise32() {
        ClosExchange x = Due.network(2, 2, 3);
        x.connect(0, 0);
        x.connect(1, 2);
        x.connect(2, 1);
        for (int middle : new int[] {-1, 3, 8, 32, Integer.MIN_VALUE, Integer.MAX_VALUE}) {
            Due.due("32: wouldDrop(" + middle + ")", x.wouldDrop(middle), UNKNOWN);
        }
        Due.due("32: wouldDrop(0)", x.wouldDrop(0), 0);
        x.takeOut(2);
        Due.due("32: wouldDrop(2)", x.wouldDrop(2), NONE);
        Due.due("32: wouldDrop(0)", x.wouldDrop(0), 1);
        Due.due("32: wouldDrop(1)", x.wouldDrop(1), 2);
        Due.due("32: wouldDrop(0) again", x.wouldDrop(0), 1);
        Due.due("32: nothing changes, inService()", x.inService(), 3);
        Due.due("32: total(5)", x.total(5), 3);
        Due.due("32: total(8)", x.total(8), 0);
        Due.due("32: total(9)", x.total(9), 0);
        Due.due("32: total(10)", x.total(10), 4);
        Due.due("32: middleOf(0)", x.middleOf(0), 0);
        Due.due("32: takeOut(0)", x.takeOut(0), 1);
    }

    private static void promise33() {
        ClosExchange x = Due.network(3, 2, 2);
        for (int line : new int[] {-1, 6, 12, 48, Integer.MIN_VALUE, Integer.MAX_VALUE}) {
            Due.due("33: reachable(" + line + ")", x.reachable(line), UNKNOWN);
        }
        Due.due("33: reachable(5)", x.reachable(5), 6);
        x.connect(0, 0);
        Due.due("33: reachable(0)", x.reachable(0), BUSY);
        Due.due("33: busy outlets don't count", x.reachable(1), 5);
        x.connect(2, 2);
        x.connect(4, 3);
        // Through 1 alone: outlets 1, 4 and 5 from inlet 1, since 1 leads to the last board 1 already.
        Due.due("33: reachable(1)", x.reachable(1), 3);
        Due.due("33: reachable(5)", x.reachable(5), 2);
        Due.due("33: nothing changes", x.total(10), 4);
        x.takeOut(0);
        Due.due("33: none is free for the first board", x.reachable(1), 0);
    }
}
