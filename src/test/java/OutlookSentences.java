import java.util.Random;

/** The sentences of the promises 28 to 33. */
final class OutlookSentences {
    private static final int UNKNOWN = ClosExchange.UNKNOWN;
    private static final int OUT_OF_RANGE = ClosExchange.OUT_OF_RANGE;
    private static final int BUSY = ClosExchange.BUSY;
    private static final int BLOCKED = ClosExchange.BLOCKED;
    private static final int NONE = ClosExchange.NONE;
    private static final int[] FAR = {-6, -2, -1, 12, 48, 99, 1 << 20, Integer.MIN_VALUE, Integer.MAX_VALUE};

    private OutlookSentences() {
    }

    static void all() {
        promise28TellsHowMany();
        promise28Returns();
        promise29TellsACall();
        promise29Returns();
        promise30TellsWhether();
        promise30Returns();
        promise31TellsHowMany();
        promise31Returns();
        promise32TellsHowMany();
        promise32Returns();
        promise33TellsTheOutlets();
        promise33Returns();
        nothingChanges();
    }

    /** A crowded network from a fixed seed, in which calls are moved and blocked. */
    private static ClosExchange crowded(int seed) {
        Random random = new Random(seed);
        int lines = 2 + seed % 5;
        ClosExchange x = Due.network(3 + seed % 4, lines, lines);
        x.setChoiceRule(seed % 3);
        x.setPairRule(seed % 2);
        int all = x.total(0) * lines;
        for (int k = 0; k < 3 * all; k++) {
            x.connect(random.nextInt(all), random.nextInt(all));
        }
        if (seed % 3 == 0) {
            x.takeOut(seed % lines);
        }
        for (int k = 0; k < all / 3; k++) {
            x.disconnect(random.nextInt(all));
        }
        return x;
    }

    /** Tells each pair of lines in some crowded networks that would be moved for, and what connect() then does. */
    private static void promise28TellsHowMany() {
        Doc.says("Promise 28", "Tells how many calls connect() would move.");
        int moving = 0;
        for (int seed = 0; seed < 40; seed++) {
            ClosExchange x = crowded(seed);
            int all = x.total(0) * x.total(1);
            for (int k = 0; k < 60; k++) {
                int inlet = k * 7 % all;
                int outlet = (k * 11 + 5) % all;
                int moved = x.total(9);
                int would = x.wouldMove(inlet, outlet);
                int via = x.connect(inlet, outlet);
                Due.due("wouldMove(" + inlet + ", " + outlet + ")", would, via < 0 ? via : x.total(9) - moved);
                moving += would > 0 ? 1 : 0;
            }
        }
        Due.due("some calls would be moved", Math.min(moving, 20), 20);
    }

    private static void promise28Returns() {
        Doc.says("Promise 28", "an inlet");
        Doc.says("Promise 28", "an outlet");
        Doc.says("Promise 28", "Returns how many;");
        ClosExchange x = Due.twoPairs();
        Due.due("wouldMove(11, 11)", x.wouldMove(11, 11), 0);
        Due.due("wouldMove(1, 2)", x.wouldMove(1, 2), 2);
        Doc.says("Promise 28", "the errors of connect().");
        for (int far : FAR) {
            Due.due("wouldMove(" + far + ", 2)", x.wouldMove(far, 2), UNKNOWN);
            Due.due("wouldMove(1, " + far + ")", x.wouldMove(1, far), UNKNOWN);
        }
        Due.due("wouldMove(0, 2)", x.wouldMove(0, 2), BUSY);
        Due.due("wouldMove(1, 3)", x.wouldMove(1, 3), BUSY);
        x.takeOut(0);
        x.takeOut(1);
        Due.due("wouldMove(1, 2)", x.wouldMove(1, 2), BLOCKED);
    }

    /** The calls of the chain are those that go through another middle board after connect(). */
    private static void promise29TellsACall() {
        Doc.says("Promise 29", "Tells a call of the chain that connect() would move.");
        for (int seed = 0; seed < 40; seed++) {
            ClosExchange x = crowded(seed);
            int all = x.total(0) * x.total(1);
            for (int k = 0; k < 60; k++) {
                int inlet = k * 7 % all;
                int outlet = (k * 11 + 5) % all;
                int count = x.wouldMove(inlet, outlet);
                if (count <= 0) {
                    continue;
                }
                int[] chain = new int[count];
                int[] vias = new int[count];
                for (int index = 0; index < count; index++) {
                    chain[index] = x.chainCall(inlet, outlet, index);
                    vias[index] = x.middleOf(chain[index]);
                }
                Due.due("chainCall(.., " + count + ")", x.chainCall(inlet, outlet, count), NONE);
                int p = x.connect(inlet, outlet);
                for (int index = 0; index < count; index++) {
                    Due.due("the way of call " + index + " ahead", vias[index] == p ? 1 : 0, 1 - index % 2);
                    Due.due("the way of call " + index + " behind", x.middleOf(chain[index]) == p ? 1 : 0, index % 2);
                }
                break;
            }
        }
    }

    private static void promise29Returns() {
        Doc.says("Promise 29", "an inlet");
        Doc.says("Promise 29", "an outlet");
        Doc.says("Promise 29", "its place in the chain, from 0");
        Doc.says("Promise 29", "Returns the number of the call;");
        ClosExchange x = Due.twoPairs();
        Due.due("chainCall(1, 2, 0)", x.chainCall(1, 2, 0), 2);
        Due.due("chainCall(1, 2, 1)", x.chainCall(1, 2, 1), 1);
        Doc.says("Promise 29", "the errors of connect();");
        for (int far : FAR) {
            Due.due("chainCall(" + far + ", 2, 0)", x.chainCall(far, 2, 0), UNKNOWN);
            Due.due("chainCall(1, " + far + ", 0)", x.chainCall(1, far, 0), UNKNOWN);
        }
        Due.due("chainCall(0, 2, 0)", x.chainCall(0, 2, 0), BUSY);
        Due.due("chainCall(1, 3, 0)", x.chainCall(1, 3, 0), BUSY);
        Doc.says("Promise 29", "OUT_OF_RANGE if index is negative;");
        for (int index : new int[] {-1, -2, -6, Integer.MIN_VALUE}) {
            Due.due("chainCall(1, 2, " + index + ")", x.chainCall(1, 2, index), OUT_OF_RANGE);
            Due.due("chainCall(11, 11, " + index + ")", x.chainCall(11, 11, index), OUT_OF_RANGE);
        }
        Doc.says("Promise 29", "NONE if the chain has not so many.");
        for (int index : new int[] {2, 3, 15, 16, 17, 99, Integer.MAX_VALUE}) {
            Due.due("chainCall(1, 2, " + index + ")", x.chainCall(1, 2, index), NONE);
        }
        Due.due("chainCall(11, 11, 0), none is moved", x.chainCall(11, 11, 0), NONE);
        x.setPairRule(1);
        Due.due("chainCall(1, 2, 0), by the pair rule 1", x.chainCall(1, 2, 0), 3);
        Due.due("chainCall(1, 2, 1), by the pair rule 1", x.chainCall(1, 2, 1), NONE);
        x.takeOut(0);
        x.takeOut(1);
        Due.due("chainCall(1, 2, 0), an error of connect()", x.chainCall(1, 2, 0), BLOCKED);
    }

    private static void promise30TellsWhether() {
        Doc.says("Promise 30", "Tells whether and why not a call could be connected.");
        for (int seed = 0; seed < 30; seed++) {
            ClosExchange x = crowded(seed);
            int all = x.total(0) * x.total(1);
            for (int k = 0; k < 30; k++) {
                int inlet = k * 5 % all;
                int outlet = (k * 13 + 2) % all;
                int busy = x.callOfInlet(inlet) >= 0 ? 2 : 3;
                int blocked = x.freeForFirst(inlet / x.total(1)) == 0 ? 4 : 5;
                int moved = x.total(9);
                int reason = x.reason(inlet, outlet);
                int via = x.connect(inlet, outlet);
                int moving = x.total(9) == moved ? 0 : 1;
                Due.due("reason(" + inlet + ", " + outlet + ")", reason, via == BUSY ? busy : via == BLOCKED ? blocked : moving);
            }
        }
    }

    private static void promise30Returns() {
        Doc.says("Promise 30", "an inlet");
        Doc.says("Promise 30", "an outlet");
        ClosExchange x = Due.twoPairs();
        Doc.says("Promise 30", "Returns 0 if it could without moving others,");
        Due.due("reason(11, 11)", x.reason(11, 11), 0);
        Doc.says("Promise 30", "1 if it could by moving others,");
        Due.due("reason(1, 2)", x.reason(1, 2), 1);
        Doc.says("Promise 30", "2 if the inlet is busy,");
        Due.due("reason(0, 11)", x.reason(0, 11), 2);
        Due.due("reason(0, 3), the outlet too", x.reason(0, 3), 2);
        Doc.says("Promise 30", "3 if the outlet is busy (and the inlet is not),");
        Due.due("reason(11, 3)", x.reason(11, 3), 3);
        Doc.says("Promise 30", "UNKNOWN.");
        for (int far : FAR) {
            Due.due("reason(" + far + ", 2)", x.reason(far, 2), UNKNOWN);
            Due.due("reason(1, " + far + ")", x.reason(1, far), UNKNOWN);
            Due.due("reason(0, " + far + "), the inlet is busy", x.reason(0, far), UNKNOWN);
            Due.due("reason(" + far + ", 3), the outlet is busy", x.reason(far, 3), UNKNOWN);
        }
        Doc.says("Promise 30", "4 if no middle board is free for the first board,");
        x = Due.network(3, 3, 2);
        x.connect(0, 0);
        x.connect(1, 3);
        Due.due("reason(2, 6)", x.reason(2, 6), 4);
        x.connect(3, 1);
        Due.due("reason(2, 2), none for the last board either", x.reason(2, 2), 4);
        Due.due("reason(0, 2), but the inlet is busy", x.reason(0, 2), 2);
        Due.due("reason(2, 0), but the outlet is busy", x.reason(2, 0), 3);
        Doc.says("Promise 30", "5 if none is free for the last board (and one is for the first board);");
        Due.due("reason(6, 2)", x.reason(6, 2), 5);
        Due.due("reason(4, 2)", x.reason(4, 2), 5);
        x.takeOut(0);
        x.takeOut(1);
        Due.due("reason(8, 8), none in service", x.reason(8, 8), 4);
    }

    private static void promise31TellsHowMany() {
        Doc.says("Promise 31", "Tells how many middle boards are enough for the calls that there are: the greatest number of calls on one first board or on one last board.");
        ClosExchange x = Due.network(3, 6, 8);
        for (int calls = 1; calls <= 6; calls++) {
            x.connect(12 + calls - 1, 6 * (calls % 3) + calls - 1);
            Due.due("leastMiddles(), on the last of the first boards", x.leastMiddles(), calls);
        }
        x = Due.network(3, 6, 8);
        for (int calls = 1; calls <= 6; calls++) {
            x.connect(6 * (calls % 3) + calls - 1, 12 + calls - 1);
            Due.due("leastMiddles(), on the last of the last boards", x.leastMiddles(), calls);
        }
        x.takeOut(7);
        Due.due("leastMiddles(), of all calls", x.leastMiddles(), 6);
        for (int calls = 5; calls >= 0; calls--) {
            x.disconnect(6 * ((calls + 1) % 3) + calls);
            Due.due("leastMiddles() of " + calls + " calls", x.leastMiddles(), calls);
        }
    }

    private static void promise31Returns() {
        Doc.says("Promise 31", "Returns how many, 0 without calls.");
        ClosExchange x = new ClosExchange();
        Due.due("leastMiddles()", x.leastMiddles(), 0);
        x.connect(0, 0);
        x.connect(3, 3);
        x.connect(6, 6);
        Due.due("leastMiddles() of a call on each board", x.leastMiddles(), 1);
        x.connect(1, 9);
        Due.due("leastMiddles()", x.leastMiddles(), 2);
        x.setUp(4, 3, 3);
        Due.due("leastMiddles()", x.leastMiddles(), 0);
    }

    private static void promise32TellsHowMany() {
        Doc.says("Promise 32", "Tells how many calls would be dropped if a middle board was taken out of service.");
        int dropping = 0;
        for (int seed = 0; seed < 60; seed++) {
            ClosExchange x = crowded(seed);
            int middle = (seed + 1) % x.total(2);
            int would = x.wouldDrop(middle);
            Due.due("wouldDrop(" + middle + ")", would, x.takeOut(middle));
            dropping += would > 0 ? 1 : 0;
        }
        Due.due("some calls would be dropped", Math.min(dropping, 10), 10);
    }

    private static void promise32Returns() {
        Doc.says("Promise 32", "a middle board");
        Doc.says("Promise 32", "Returns how many;");
        ClosExchange x = Due.network(8, 2, 8);
        Due.due("wouldDrop(7)", x.wouldDrop(7), 0);
        for (int middle = 1; middle < 8; middle++) {
            x.takeOut(middle);
        }
        for (int board = 0; board < 8; board++) {
            Due.due("wouldDrop(0)", x.wouldDrop(0), board);
            x.connect(2 * board, 2 * board + 1);
        }
        Due.due("wouldDrop(0)", x.wouldDrop(0), 8);
        Doc.says("Promise 32", "the errors and NONE of takeOut().");
        Due.due("wouldDrop(1)", x.wouldDrop(1), NONE);
        Due.due("wouldDrop(7)", x.wouldDrop(7), NONE);
        Due.due("wouldDrop(8)", x.wouldDrop(8), UNKNOWN);
        Due.due("wouldDrop(-1)", x.wouldDrop(-1), UNKNOWN);
        Due.due("wouldDrop(3) of 3", new ClosExchange().wouldDrop(3), UNKNOWN);
        for (int far : FAR) {
            Due.due("wouldDrop(" + far + ")", x.wouldDrop(far), UNKNOWN);
        }
    }

    private static void promise33TellsTheOutlets() {
        Doc.says("Promise 33", "Tells the outlets to which an inlet could be connected without moving other calls.");
        for (int seed = 0; seed < 30; seed++) {
            ClosExchange x = crowded(seed);
            int all = x.total(0) * x.total(1);
            for (int inlet = 0; inlet < all; inlet += 4) {
                int count = 0;
                for (int outlet = 0; outlet < all; outlet++) {
                    count += x.wouldMove(inlet, outlet) == 0 ? 1 : 0;
                }
                Due.due("reachable(" + inlet + ")", x.reachable(inlet), x.callOfInlet(inlet) < 0 ? count : BUSY);
            }
        }
    }

    private static void promise33Returns() {
        Doc.says("Promise 33", "an inlet");
        Doc.says("Promise 33", "Returns how many;");
        ClosExchange x = Due.network(8, 6, 1);
        Due.due("reachable(47), all", x.reachable(47), 48);
        x.connect(0, 47);
        Due.due("reachable(47), but those on the last board 7", x.reachable(47), 42);
        Due.due("reachable(1), none", x.reachable(1), 0);
        x = Due.network(8, 6, 2);
        x.connect(0, 47);
        Due.due("reachable(47), but the busy one", x.reachable(47), 47);
        Due.due("reachable(1), but those on the last board 7", x.reachable(1), 47);
        x.takeOut(1);
        Due.due("reachable(1), none", x.reachable(1), 0);
        Doc.says("Promise 33", "UNKNOWN;");
        Due.due("reachable(48)", x.reachable(48), UNKNOWN);
        Due.due("reachable(-1)", x.reachable(-1), UNKNOWN);
        for (int far : FAR) {
            Due.due("reachable(" + far + ")", x.reachable(far), far == 12 ? 42 : UNKNOWN);
        }
        Doc.says("Promise 33", "BUSY if the inlet is busy.");
        Due.due("reachable(0)", x.reachable(0), BUSY);
    }

    private static void nothingChanges() {
        Doc.says("ERRORS", "---- what would be; nothing changes.");
        Look.Step[] steps = {x -> x.wouldMove(1, 2), x -> x.wouldMove(11, 11), x -> x.chainCall(1, 2, 1), x -> x.reason(1, 2),
            x -> x.leastMiddles(), x -> x.wouldDrop(0), x -> x.wouldDrop(2), x -> x.reachable(1)};
        ClosExchange y = new ClosExchange();
        HistorySentences.pairs(y);
        String before = Look.at(y);
        for (int k = 0; k < steps.length; k++) {
            ClosExchange x = new ClosExchange();
            HistorySentences.pairs(x);
            steps[k].on(x);
            Due.same("all that is seen after step " + k, Look.at(x), before);
            Due.due("connect(1, 2) after step " + k, x.connect(1, 2), 0);
            Due.due("middleOf(2) after step " + k, x.middleOf(2), 2);
            Due.due("middleOf(1) after step " + k, x.middleOf(1), 0);
            Due.due("callOfInlet(1) after step " + k, x.callOfInlet(1), 4);
        }
    }
}
