/** Promises 5 to 9: connect, disconnect, takeOut, putBack, pack. */
public final class CallPromisesTest {
    private static final int UNKNOWN = ClosExchange.UNKNOWN;
    private static final int BUSY = ClosExchange.BUSY;
    private static final int BLOCKED = ClosExchange.BLOCKED;
    private static final int NONE = ClosExchange.NONE;

    public static void main(String[] args) {
        promise5Choice();
        promise5Pairs();
        promise5PairsOfOneLength();
        promise5LongChain();
        promise5Errors();
        promise6();
        promise7Rerouting();
        promise7Dropping();
        promise7Chain();
        promise7Errors();
        promise8();
        promise9FewMiddles();
        promise9Counts();
        promise9Order();
        promises5To9FullNetwork();
        promises5To9EachUndone();
        Due.end("CallPromisesTest");
    }

    /** Middle board 0 has no call, 1 has one, 2 has two, and all are free for a call from 9 to 9. */
    private static void promise5Choice() {
        int[] chosen = {0, 2, 0};
        for (int rule = 0; rule <= 2; rule++) {
            ClosExchange x = new ClosExchange();
            x.takeOut(0);
            x.takeOut(1);
            x.connect(0, 0);
            x.connect(3, 3);
            x.putBack(1);
            x.connect(1, 1);
            x.putBack(0);
            x.setChoiceRule(rule);
            Due.due("5: load(1)", x.load(1), 1);
            Due.due("5: load(2)", x.load(2), 2);
            Due.due("5: connect(9, 9), rule " + rule, x.connect(9, 9), chosen[rule]);
        }
        ClosExchange x = new ClosExchange();
        x.setChoiceRule(1);
        Due.due("5: of several loads the first", x.connect(0, 0), 0);
        Due.due("5: the only one that is free", x.connect(1, 3), 1);
        Due.due("5: one call on each of 0 and 1", x.connect(9, 9), 0);
        x.setChoiceRule(2);
        Due.due("5: least load", x.connect(6, 6), 2);
        Due.due("5: one call on each of 1 and 2", x.connect(3, 10), 1);
    }

    private static void promise5Pairs() {
        ClosExchange x = Due.twoPairs();
        Due.due("5: connect(1, 2)", x.connect(1, 2), 0);
        int[] vias = {2, 0, 2, 1, 0};
        for (int call = 0; call < vias.length; call++) {
            Due.due("5: pair rule 0, middleOf(" + call + ")", x.middleOf(call), vias[call]);
        }
        Due.due("5: total(9)", x.total(9), 2);
        Due.due("5: onLastLink(2, 0)", x.onLastLink(2, 0), 2);
        Due.due("5: onFirstLink(1, 0)", x.onFirstLink(1, 0), 1);
        Due.due("5: onFirstLink(0, 0)", x.onFirstLink(0, 0), 4);

        x = Due.twoPairs();
        x.setPairRule(1);
        Due.due("5: connect(1, 2)", x.connect(1, 2), 1);
        int[] others = {2, 2, 0, 2, 1};
        for (int call = 0; call < others.length; call++) {
            Due.due("5: pair rule 1, middleOf(" + call + ")", x.middleOf(call), others[call]);
        }
        Due.due("5: total(9)", x.total(9), 1);
        Due.due("5: the call has left its link", x.onFirstLink(2, 1), NONE);
        Due.due("5: onFirstLink(2, 2)", x.onFirstLink(2, 2), 3);
        Due.due("5: undo()", x.undo(), 3);
        Due.due("5: middleOf(3)", x.middleOf(3), 1);
        Due.due("5: total(9)", x.total(9), 0);
    }

    private static void promise5PairsOfOneLength() {
        for (int rule = 0; rule <= 1; rule++) {
            ClosExchange x = Due.network(4, 3, 4);
            x.takeOut(0);
            x.takeOut(1);
            x.connect(0, 3);
            x.connect(1, 4);
            x.putBack(0);
            x.putBack(1);
            x.connect(3, 0);
            x.connect(6, 1);
            x.setPairRule(rule);
            Due.due("5: freeForFirst(0)", x.freeForFirst(0), 3);
            Due.due("5: freeForLast(0)", x.freeForLast(0), 12);
            Due.due("5: the least p", x.connect(2, 2), 0);
            Due.due("5: the least q", x.middleOf(2), 2);
            Due.due("5: the other call stays", x.middleOf(3), 1);
        }
    }

    /** The longest chain: through 0 and 1 in turn, from the last board 0 to the first board 7. */
    private static void promise5LongChain() {
        ClosExchange x = Due.network(8, 2, 2);
        x.takeOut(1);
        for (int board = 1; board < 8; board++) {
            Due.due("5: through 0", x.connect(2 * board, 2 * board - 2), 0);
        }
        x.putBack(1);
        x.setChoiceRule(2);
        for (int board = 1; board < 7; board++) {
            Due.due("5: through 1", x.connect(2 * board + 1, 2 * board + 1), 1);
        }
        Due.due("5: connect(0, 15)", x.connect(0, 15), 1);
        Due.due("5: wouldMove(1, 1)", x.wouldMove(1, 1), 13);
        int[] chain = {0, 7, 1, 8, 2, 9, 3, 10, 4, 11, 5, 12, 6, NONE};
        for (int index = 0; index < chain.length; index++) {
            Due.due("5: chainCall(1, 1, " + index + ")", x.chainCall(1, 1, index), chain[index]);
        }
        Due.due("5: connect(1, 1)", x.connect(1, 1), 0);
        int[] vias = {1, 1, 1, 1, 1, 1, 1, 0, 0, 0, 0, 0, 0, 1, 0};
        for (int call = 0; call < vias.length; call++) {
            Due.due("5: long chain, middleOf(" + call + ")", x.middleOf(call), vias[call]);
        }
        Due.due("5: total(9)", x.total(9), 13);
        Due.due("5: freeForFirst(0)", x.freeForFirst(0), 0);
        Due.due("5: freeForFirst(7)", x.freeForFirst(7), 1);
        Due.due("5: freeForLast(7)", x.freeForLast(7), 1);
    }

    /** All 48 inlets have calls: every middle board is needed, and one more that goes out drops 8. */
    private static void promises5To9FullNetwork() {
        for (int rule = 0; rule < 6; rule++) {
            ClosExchange x = Due.network(8, 6, 6);
            x.setChoiceRule(rule % 3);
            x.setPairRule(rule / 3);
            for (int inlet = 0; inlet < 48; inlet++) {
                int via = x.connect(inlet, inlet * 29 % 48);
                Due.due("5: connect(" + inlet + ", ..), blocked", via < 0 || via > 5 ? 1 : 0, 0);
            }
            Due.due("5: total(5)", x.total(5), 48);
            Due.due("9: leastMiddles()", x.leastMiddles(), 6);
            Due.due("9: pack() drops", x.pack() < 0 ? 1 : 0, 0);
            Due.due("9: total(5)", x.total(5), 48);
            for (int middle = 0; middle < 6; middle++) {
                Due.due("9: load(" + middle + ")", x.load(middle), 8);
            }
            for (int call = 0; call < 48; call++) {
                int via = x.middleOf(call);
                Due.due("9: onFirstLink", x.onFirstLink(call / 6, via), call);
                Due.due("9: onLastLink", x.onLastLink(via, call * 29 % 48 / 6), call);
            }
            Due.due("7: takeOut(3)", x.takeOut(3), 8);
            Due.due("7: total(5)", x.total(5), 40);
            Due.due("7: undo()", x.undo(), 3);
            Due.due("7: total(5)", x.total(5), 48);
            Due.due("7: load(3)", x.load(3), 8);
            x.setUp(8, 6, 8);
            Due.due("7: total(7)", x.total(7), 48);
        }
    }

    private static void promises5To9EachUndone() {
        ClosExchange x = new ClosExchange();
        x.setChoiceRule(2);
        x.connect(4, 0);
        x.connect(7, 5);
        x.connect(8, 9);
        x.disconnect(7);
        x.undo();
        checkUndone("6", x);
        x.takeOut(1);
        x.undo();
        checkUndone("7", x);
        x.pack();
        x.undo();
        checkUndone("9", x);
        x.connect(0, 1);
        x.undo();
        checkUndone("5", x);
        x.takeOut(1);
        x.putBack(1);
        x.undo();
        Due.due("8: inService()", x.inService(), 5);
        x = new ClosExchange();
        x.connect(0, 0);
        x.takeOut(0);
        Due.due("7: undo()", x.undo(), 1);
        Due.due("7: callOfInlet(0)", x.callOfInlet(0), 0);
    }

    /** Calls 0, 1 and 2 go 1, 0, 0 and 2, 1, 1 and 2, 2, 3. */
    private static void checkUndone(String promise, ClosExchange x) {
        Due.due(promise + ", undone: total(5)", x.total(5), 3);
        Due.due(promise + ", undone: inService()", x.inService(), 7);
        for (int middle = 0; middle < 3; middle++) {
            for (int board = 0; board < 4; board++) {
                int first = board == 1 && middle == 0 ? 0 : board == 2 && middle > 0 ? middle : NONE;
                int last = board == 0 && middle == 0 ? 0 : board == 1 && middle == 1 ? 1 : board == 3 && middle == 2 ? 2 : NONE;
                Due.due(promise + ", undone: onFirstLink(" + board + ", " + middle + ")", x.onFirstLink(board, middle), first);
                Due.due(promise + ", undone: onLastLink(" + middle + ", " + board + ")", x.onLastLink(middle, board), last);
            }
        }
    }

    private static void promise5Errors() {
        ClosExchange x = Due.network(2, 2, 1);
        int[] wrong = {-1, 4, 48, Integer.MIN_VALUE, Integer.MAX_VALUE};
        Due.due("5: connect(3, 3)", x.connect(3, 3), 0);
        for (int line : wrong) {
            Due.due("5: connect(" + line + ", 0)", x.connect(line, 0), UNKNOWN);
            Due.due("5: connect(0, " + line + ")", x.connect(0, line), UNKNOWN);
            Due.due("5: connect(3, " + line + ")", x.connect(3, line), UNKNOWN);
            Due.due("5: connect(" + line + ", 3)", x.connect(line, 3), UNKNOWN);
        }
        Due.due("5: connect(3, 0)", x.connect(3, 0), BUSY);
        Due.due("5: connect(0, 3)", x.connect(0, 3), BUSY);
        Due.due("5: connect(3, 3)", x.connect(3, 3), BUSY);
        Due.due("5: connect(2, 0)", x.connect(2, 0), BLOCKED);
        Due.due("5: connect(0, 2)", x.connect(0, 2), BLOCKED);
        Due.due("5: BUSY ahead of BLOCKED", x.connect(2, 3), BUSY);
        Due.due("5: total(5)", x.total(5), 1);
        Due.due("5: total(6)", x.total(6), 1);
        Due.due("5: total(10)", x.total(10), 2);
        Due.due("5: connect(0, 0)", x.connect(0, 0), 0);
        Due.due("5: callOfInlet(0)", x.callOfInlet(0), 1);
    }

    private static void promise6() {
        ClosExchange x = new ClosExchange();
        x.connect(4, 7);
        x.connect(5, 8);
        x.connect(0, 6);
        int[] wrong = {-1, 12, Integer.MIN_VALUE, Integer.MAX_VALUE};
        for (int inlet : wrong) {
            Due.due("6: disconnect(" + inlet + ")", x.disconnect(inlet), UNKNOWN);
        }
        Due.due("6: disconnect(7)", x.disconnect(7), BUSY);
        Due.due("6: total(10)", x.total(10), 3);
        Due.due("6: disconnect(5)", x.disconnect(5), 1);
        Due.due("6: disconnect(5)", x.disconnect(5), BUSY);
        Due.due("6: total(10)", x.total(10), 4);
        Due.due("6: total(5)", x.total(5), 2);
        Due.due("6: total(7)", x.total(7), 1);
        Due.due("6: callOfInlet(5)", x.callOfInlet(5), NONE);
        Due.due("6: callOfOutlet(8)", x.callOfOutlet(8), NONE);
        Due.due("6: freeForFirst(1)", x.freeForFirst(1), 6);
        Due.due("6: freeForLast(2)", x.freeForLast(2), 2);
        Due.due("6: no number is used again", x.connect(5, 8), 1);
        Due.due("6: callOfInlet(5)", x.callOfInlet(5), 3);
        Due.due("6: undo()", x.undo(), 3);
        Due.due("6: undo()", x.undo(), 2);
        Due.due("6: callOfInlet(5)", x.callOfInlet(5), 1);
        Due.due("6: total(7)", x.total(7), 0);
    }

    private static void promise7Rerouting() {
        ClosExchange x = new ClosExchange();
        Due.due("7: connect(3, 3)", x.connect(3, 3), 0);
        Due.due("7: connect(0, 0)", x.connect(0, 0), 0);
        Due.due("7: connect(4, 4)", x.connect(4, 4), 1);
        x.disconnect(4);
        x.setChoiceRule(2);
        Due.due("7: takeOut(0)", x.takeOut(0), 0);
        Due.due("7: by their numbers, middleOf(0)", x.middleOf(0), 1);
        Due.due("7: by their numbers, middleOf(1)", x.middleOf(1), 2);
        Due.due("7: total(9)", x.total(9), 2);
        Due.due("7: total(8)", x.total(8), 0);
        Due.due("7: load(0)", x.load(0), 0);
        Due.due("7: inService()", x.inService(), 6);
        Due.due("7: undo()", x.undo(), 3);
        Due.due("7: inService()", x.inService(), 7);
        Due.due("7: middleOf(1)", x.middleOf(1), 0);
        Due.due("7: total(9)", x.total(9), 0);
    }

    private static void promise7Dropping() {
        ClosExchange x = Due.network(2, 2, 2);
        x.connect(0, 0);
        x.connect(1, 2);
        x.connect(2, 1);
        Due.due("7: middleOf(2)", x.middleOf(2), 1);
        Due.due("7: takeOut(0)", x.takeOut(0), 1);
        Due.due("7: inletOf(0)", x.inletOf(0), UNKNOWN);
        Due.due("7: callOfInlet(0)", x.callOfInlet(0), NONE);
        Due.due("7: callOfOutlet(0)", x.callOfOutlet(0), NONE);
        Due.due("7: total(5)", x.total(5), 2);
        Due.due("7: total(7)", x.total(7), 0);
        Due.due("7: total(8)", x.total(8), 1);
        Due.due("7: total(9)", x.total(9), 0);
        Due.due("7: the last one", x.takeOut(1), 2);
        Due.due("7: total(5)", x.total(5), 0);
        Due.due("7: total(8)", x.total(8), 3);
        Due.due("7: inService()", x.inService(), 0);
        Due.due("7: connect(0, 0)", x.connect(0, 0), BLOCKED);
    }

    /** Call 0 goes anew through 1 after call 2 was moved from there to 2: both count as moved. */
    private static void promise7Chain() {
        ClosExchange x = Due.network(4, 3, 4);
        x.takeOut(0);
        x.takeOut(1);
        x.takeOut(2);
        Due.due("7: connect(1, 2)", x.connect(1, 2), 3);
        x.putBack(2);
        Due.due("7: connect(0, 3)", x.connect(0, 3), 2);
        x.putBack(1);
        Due.due("7: connect(6, 1)", x.connect(6, 1), 1);
        Due.due("7: takeOut(3)", x.takeOut(3), 0);
        Due.due("7: middleOf(0)", x.middleOf(0), 1);
        Due.due("7: middleOf(1)", x.middleOf(1), 2);
        Due.due("7: middleOf(2)", x.middleOf(2), 2);
        Due.due("7: total(9)", x.total(9), 2);
    }

    private static void promise7Errors() {
        ClosExchange x = new ClosExchange();
        int[] wrong = {-1, 3, 31, 32, Integer.MIN_VALUE, Integer.MAX_VALUE};
        for (int middle : wrong) {
            Due.due("7: takeOut(" + middle + ")", x.takeOut(middle), UNKNOWN);
            Due.due("8: putBack(" + middle + ")", x.putBack(middle), UNKNOWN);
        }
        Due.due("7: takeOut(2)", x.takeOut(2), 0);
        Due.due("7: takeOut(2)", x.takeOut(2), NONE);
        Due.due("7: total(10)", x.total(10), 1);
    }

    private static void promise8() {
        ClosExchange x = new ClosExchange();
        Due.due("8: putBack(0)", x.putBack(0), NONE);
        Due.due("8: total(10)", x.total(10), 0);
        x.connect(0, 0);
        x.takeOut(0);
        x.takeOut(2);
        Due.due("8: putBack(0)", x.putBack(0), 2);
        Due.due("8: no call is moved", x.middleOf(0), 1);
        Due.due("8: total(9)", x.total(9), 1);
        Due.due("8: inService()", x.inService(), 3);
        Due.due("8: total(10)", x.total(10), 4);
        Due.due("8: putBack(2)", x.putBack(2), 3);
        Due.due("8: undo()", x.undo(), 3);
        Due.due("8: inService()", x.inService(), 3);
        Due.due("8: undo()", x.undo(), 2);
        Due.due("8: inService()", x.inService(), 2);
    }

    private static void promise9FewMiddles() {
        ClosExchange x = new ClosExchange();
        Due.due("9: pack()", x.pack(), NONE);
        Due.due("9: total(10)", x.total(10), 0);
        x.setChoiceRule(2);
        x.connect(0, 0);
        x.connect(3, 3);
        x.connect(6, 6);
        Due.due("9: middleOf(2)", x.middleOf(2), 2);
        Due.due("9: pack()", x.pack(), 2);
        Due.due("9: load(0)", x.load(0), 3);
        Due.due("9: inService()", x.inService(), 7);
        Due.due("9: total(9)", x.total(9), 2);
        Due.due("9: pack() again", x.pack(), 0);
        Due.due("9: that is a change too", x.undo(), 3);
        Due.due("9: undo()", x.undo(), 2);
        Due.due("9: load(0)", x.load(0), 1);
        Due.due("9: total(9)", x.total(9), 0);
        x.takeOut(0);
        Due.due("9: the lowest in service", x.pack(), 1);
        Due.due("9: load(1)", x.load(1), 3);
        Due.due("9: inService()", x.inService(), 6);
    }

    /** The calls are routed as they were at first, with two moves in a chain that pack() doesn't count. */
    private static void promise9Counts() {
        ClosExchange x = new ClosExchange();
        int[][] calls = {{0, 0}, {1, 3}, {2, 6}, {3, 1}, {4, 4}, {5, 7}, {6, 2}};
        for (int[] call : calls) {
            x.connect(call[0], call[1]);
        }
        Due.due("9: total(9)", x.total(9), 2);
        Due.due("9: pack()", x.pack(), 0);
        Due.due("9: total(9)", x.total(9), 2);
        Due.due("9: middleOf(0)", x.middleOf(0), 2);
        Due.due("9: middleOf(2)", x.middleOf(2), 0);
        Due.due("9: total(6)", x.total(6), 7);
        Due.due("9: total(8)", x.total(8), 0);
    }

    private static void promise9Order() {
        ClosExchange x = new ClosExchange();
        x.takeOut(0);
        Due.due("9: connect(2, 0)", x.connect(2, 0), 1);
        Due.due("9: connect(0, 3)", x.connect(0, 3), 2);
        x.putBack(0);
        Due.due("9: pack()", x.pack(), 2);
        Due.due("9: by their numbers, middleOf(0)", x.middleOf(0), 0);
        Due.due("9: by their numbers, middleOf(1)", x.middleOf(1), 1);
    }
}
