import java.util.ArrayList;
import java.util.List;
import java.util.Random;

/** The sentences of the promises 1 to 9. */
final class ChangesSentences {
    private static final int UNKNOWN = ClosExchange.UNKNOWN;
    private static final int OUT_OF_RANGE = ClosExchange.OUT_OF_RANGE;
    private static final int BUSY = ClosExchange.BUSY;
    private static final int BLOCKED = ClosExchange.BLOCKED;
    private static final int NONE = ClosExchange.NONE;
    private static final Look.Step SMALL = HistorySentences::small;
    private static final int[] FAR = {-2, 99, 1 << 20, Integer.MIN_VALUE, Integer.MAX_VALUE};

    private ChangesSentences() {
    }

    static void all() {
        promise1NewObject();
        promise2AnotherNetwork();
        promise2AllCallsEnd();
        promise2AllMiddleBoardsInService();
        promise2WhatGoesOn();
        promise2IsAChange();
        promise2Arguments();
        promise2Returns();
        promises3And4Set();
        promises3And4AreChanges();
        promises3And4Arguments();
        promises3And4Return();
        promise5Connects();
        promise5IsAChange();
        promise5Returns();
        promise6EndsTheCall();
        promise6IsAChange();
        promise6Returns();
        promise7TakesOut();
        promise7AllCallsOffTheirLinks();
        promise7ByTheirNumbers();
        promise7BlockedAreDropped();
        promise7IsAChange();
        promise7Returns();
        promise8PutsBack();
        promise8NoCallIsMoved();
        promise8IsAChange();
        promise8Returns();
        promise9FewMiddleBoards();
        promise9AllCallsAnew();
        promise9LowestInService();
        promise9NoCallIsBlocked();
        promise9IsAChange();
        promise9Returns();
    }

    private static void promise1NewObject() {
        Doc.says("Promise 1", "Creates a network of 4 first, 3 middle and 4 last boards with 3 lines on each first and last board, without calls.");
        ClosExchange x = new ClosExchange();
        int[] totals = {4, 3, 3, 0, 0, 0, 0, 0, 0, 0, 0, 0};
        for (int what = 0; what < totals.length; what++) {
            Due.due("total(" + what + ")", x.total(what), totals[what]);
        }
        for (int line = -1; line <= 12; line++) {
            boolean one = line >= 0 && line < 12;
            Due.due("callOfInlet(" + line + ")", x.callOfInlet(line), one ? NONE : UNKNOWN);
            Due.due("callOfOutlet(" + line + ")", x.callOfOutlet(line), one ? NONE : UNKNOWN);
        }
        for (int board = -1; board <= 4; board++) {
            boolean one = board >= 0 && board < 4;
            Due.due("freeForFirst(" + board + ")", x.freeForFirst(board), one ? 7 : UNKNOWN);
            Due.due("freeForLast(" + board + ")", x.freeForLast(board), one ? 7 : UNKNOWN);
        }
        ClosExchange other = new ClosExchange();
        other.connect(0, 0);
        Due.due("total(5), objects share nothing", x.total(5), 0);
        Due.due("callOfInlet(0), objects share nothing", new ClosExchange().callOfInlet(0), NONE);
    }

    private static void promise2AnotherNetwork() {
        Doc.says("Promise 2", "Builds another network, in place of the one that there is.");
        for (int boards = 2; boards <= 8; boards++) {
            for (int lines = 1; lines <= 6; lines++) {
                for (int middles = 1; middles <= 8; middles++) {
                    ClosExchange x = new ClosExchange();
                    Due.due("setUp()", x.setUp(boards, lines, middles), 0);
                    Due.due("total(0)", x.total(0), boards);
                    Due.due("total(1)", x.total(1), lines);
                    Due.due("total(2)", x.total(2), middles);
                    int last = boards * lines - 1;
                    Due.due("connect(" + last + ", " + last + ")", x.connect(last, last), 0);
                    Due.due("callOfInlet(" + last + " + 1)", x.callOfInlet(last + 1), UNKNOWN);
                    Due.due("load(" + middles + ")", x.load(middles), UNKNOWN);
                }
            }
        }
    }

    private static void promise2AllCallsEnd() {
        Doc.says("Promise 2", "All calls end.");
        ClosExchange x = new ClosExchange();
        for (int inlet = 0; inlet < 12; inlet++) {
            x.connect(inlet, 11 - inlet);
        }
        int calls = x.total(5);
        Due.due("setUp(4, 3, 3)", x.setUp(4, 3, 3), calls);
        Due.due("total(5)", x.total(5), 0);
        Due.due("total(7)", x.total(7), calls);
        for (int call = 0; call < 12; call++) {
            Due.due("inletOf(" + call + ")", x.inletOf(call), UNKNOWN);
            Due.due("callOfInlet(" + call + ")", x.callOfInlet(call), NONE);
            Due.due("callOfOutlet(" + call + ")", x.callOfOutlet(call), NONE);
            Due.due("onFirstLink", x.onFirstLink(call / 3, call % 3), NONE);
            Due.due("onLastLink", x.onLastLink(call % 3, call / 3), NONE);
        }
        Due.due("leastMiddles()", x.leastMiddles(), 0);
        Due.due("pack()", x.pack(), NONE);
        Due.due("takeOut(0)", x.takeOut(0), 0);
        Due.due("total(8)", x.total(8), 0);
    }

    private static void promise2AllMiddleBoardsInService() {
        Doc.says("Promise 2", "All middle boards are in service.");
        for (int middles = 1; middles <= 8; middles++) {
            ClosExchange x = Due.network(2, 1, 8);
            x.takeOut(0);
            x.takeOut(middles - 1);
            x.setUp(2, 1, middles);
            Due.due("inService()", x.inService(), (1 << middles) - 1);
            Due.due("freeForFirst(1)", x.freeForFirst(1), (1 << middles) - 1);
            Due.due("freeForLast(1)", x.freeForLast(1), (1 << middles) - 1);
        }
    }

    private static void promise2WhatGoesOn() {
        Doc.says("Promise 2", "The rules, the counts and the numbers of calls go on.");
        ClosExchange x = new ClosExchange();
        x.setChoiceRule(1);
        x.setPairRule(1);
        x.connect(0, 0);
        x.connect(1, 1);
        x.connect(2, 2);
        x.takeOut(2);
        x.takeOut(0);
        x.disconnect(1);
        x.putBack(0);
        x.connect(0, 0);
        x.takeOut(0);
        int[] totals = {5, 2, 4, 1, 1, 0, 4, 2, 2, 1};
        Due.due("total(5)", x.total(5), 1);
        Due.due("setUp(5, 2, 4)", x.setUp(5, 2, 4), 1);
        for (int what = 0; what < totals.length; what++) {
            Due.due("total(" + what + ")", x.total(what), totals[what]);
        }
        x.connect(9, 9);
        Due.due("callOfInlet(9)", x.callOfInlet(9), 4);
    }

    private static void promise2IsAChange() {
        Doc.says("Promise 2", "This is a change.");
        Look.isChange("setUp(8, 6, 8)", SMALL, x -> x.setUp(8, 6, 8), 2);
        Look.isChange("setUp(2, 1, 1)", SMALL, x -> x.setUp(2, 1, 1), 2);
        Look.isChange("setUp(2, 2, 2), the same size", SMALL, x -> x.setUp(2, 2, 2), 2);
    }

    private static void promise2Arguments() {
        String[] sentences = {"2 to 8: first boards, and as many last boards", "1 to 6: lines on each of them", "1 to 8: middle boards"};
        int[][] ends = {{2, 8}, {1, 6}, {1, 8}};
        for (int argument = 0; argument < 3; argument++) {
            Doc.says("Promise 2", sentences[argument]);
            for (int value = -3; value <= 12; value++) {
                int[] given = {3, 3, 3};
                given[argument] = value;
                boolean allowed = value >= ends[argument][0] && value <= ends[argument][1];
                ClosExchange x = new ClosExchange();
                Due.due("setUp() of " + value, x.setUp(given[0], given[1], given[2]), allowed ? 0 : OUT_OF_RANGE);
                Due.due("total(" + argument + ")", x.total(argument), allowed ? value : argument == 0 ? 4 : 3);
            }
            for (int far : FAR) {
                int[] given = {3, 3, 3};
                given[argument] = far;
                Due.due("setUp() of " + far, new ClosExchange().setUp(given[0], given[1], given[2]), OUT_OF_RANGE);
            }
        }
    }

    private static void promise2Returns() {
        Doc.says("Promise 2", "Returns how many calls end;");
        for (int calls = 0; calls <= 48; calls += calls == 0 ? 1 : 47) {
            ClosExchange x = Due.network(8, 6, 6);
            for (int call = 0; call < calls; call++) {
                x.connect(call, (call * 7 + 5) % 48);
            }
            Due.due("setUp(2, 1, 1)", x.setUp(2, 1, 1), calls);
            Due.due("setUp(2, 1, 1) again", x.setUp(2, 1, 1), 0);
        }
        Doc.says("Promise 2", "OUT_OF_RANGE.");
        ClosExchange x = new ClosExchange();
        x.connect(0, 0);
        Due.due("setUp(1, 0, 0)", x.setUp(1, 0, 0), OUT_OF_RANGE);
        Due.due("setUp(8, 6, 9)", x.setUp(8, 6, 9), OUT_OF_RANGE);
        Due.due("total(5)", x.total(5), 1);
    }

    private static void promises3And4Set() {
        Doc.says("Promise 3", "Sets the choice rule.");
        ClosExchange x = new ClosExchange();
        for (int rule : new int[] {1, 2, 0, 2, 1, 0}) {
            x.setChoiceRule(rule);
            Due.due("total(3)", x.total(3), rule);
            Due.due("total(4)", x.total(4), 0);
        }
        Doc.says("Promise 4", "Sets the pair rule.");
        for (int rule : new int[] {1, 0, 1, 0}) {
            x.setPairRule(rule);
            Due.due("total(4)", x.total(4), rule);
            Due.due("total(3)", x.total(3), 0);
        }
    }

    private static void promises3And4AreChanges() {
        Doc.says("Promise 3", "This is a change.");
        Look.isChange("setChoiceRule(1)", SMALL, x -> x.setChoiceRule(1), 0);
        Look.isChange("setChoiceRule(0)", x -> x.setChoiceRule(2), x -> x.setChoiceRule(0), 2);
        Doc.says("Promise 4", "This is a change.");
        Look.isChange("setPairRule(1)", SMALL, x -> x.setPairRule(1), 0);
        Look.isChange("setPairRule(0)", x -> x.setPairRule(1), x -> x.setPairRule(0), 1);
    }

    private static void promises3And4Arguments() {
        Doc.says("Promise 3", "0 to 2");
        int[] choice = {OUT_OF_RANGE, OUT_OF_RANGE, NONE, 0, 0, OUT_OF_RANGE, OUT_OF_RANGE};
        for (int rule = -2; rule <= 4; rule++) {
            Due.due("setChoiceRule(" + rule + ")", new ClosExchange().setChoiceRule(rule), choice[rule + 2]);
        }
        Doc.says("Promise 4", "0 or 1");
        int[] pair = {OUT_OF_RANGE, OUT_OF_RANGE, NONE, 0, OUT_OF_RANGE, OUT_OF_RANGE, OUT_OF_RANGE};
        for (int rule = -2; rule <= 4; rule++) {
            Due.due("setPairRule(" + rule + ")", new ClosExchange().setPairRule(rule), pair[rule + 2]);
        }
    }

    private static void promises3And4Return() {
        Doc.says("Promise 3", "Returns the previous rule;");
        int[] rules = {1, 2, 1, 0, 2, 0};
        int previous = 0;
        ClosExchange x = new ClosExchange();
        for (int rule : rules) {
            Due.due("setChoiceRule(" + rule + ")", x.setChoiceRule(rule), previous);
            previous = rule;
        }
        Doc.says("Promise 3", "OUT_OF_RANGE;");
        for (int far : FAR) {
            Due.due("setChoiceRule(" + far + ")", x.setChoiceRule(far), OUT_OF_RANGE);
        }
        Doc.says("Promise 3", "NONE if it is the rule already.");
        for (int rule = 0; rule <= 2; rule++) {
            x.setChoiceRule(rule);
            Due.due("setChoiceRule(" + rule + ") again", x.setChoiceRule(rule), NONE);
        }
        Doc.says("Promise 4", "Returns the previous rule;");
        Due.due("setPairRule(1)", x.setPairRule(1), 0);
        Due.due("setPairRule(0)", x.setPairRule(0), 1);
        Doc.says("Promise 4", "OUT_OF_RANGE;");
        for (int far : FAR) {
            Due.due("setPairRule(" + far + ")", x.setPairRule(far), OUT_OF_RANGE);
        }
        Doc.says("Promise 4", "NONE if it is the rule already.");
        Due.due("setPairRule(0)", x.setPairRule(0), NONE);
        x.setPairRule(1);
        Due.due("setPairRule(1)", x.setPairRule(1), NONE);
    }

    private static void promise5Connects() {
        Doc.says("Promise 5", "Connects an inlet and an outlet: the call is routed.");
        ClosExchange x = Due.twoPairs();
        Due.due("connect(1, 2), others are moved", x.connect(1, 2), 0);
        Due.due("inletOf(4)", x.inletOf(4), 1);
        Due.due("outletOf(4)", x.outletOf(4), 2);
        Due.due("total(5)", x.total(5), 5);
        Due.due("total(6)", x.total(6), 5);
        Due.due("total(9)", x.total(9), 2);
        Due.due("connect(11, 11), none is moved", x.connect(11, 11), 0);
        Due.due("total(9)", x.total(9), 2);
    }

    private static void promise5IsAChange() {
        Doc.says("Promise 5", "This is a change.");
        Look.isChange("connect(1, 2), others are moved", HistorySentences::pairs, x -> x.connect(1, 2), 0);
        Look.isChange("connect(11, 11)", x -> x.connect(0, 0), x -> x.connect(11, 11), 0);
    }

    private static void promise5Returns() {
        Doc.says("Promise 5", "an inlet");
        Doc.says("Promise 5", "an outlet");
        ClosExchange x = Due.network(8, 6, 2);
        Due.due("connect(0, 47)", x.connect(0, 47), 0);
        Due.due("connect(47, 0)", x.connect(47, 0), 0);
        Doc.says("Promise 5", "Returns the middle board of the new call;");
        Due.due("connect(1, 1)", x.connect(1, 1), 1);
        Due.due("middleOf(2)", x.middleOf(2), 1);
        Doc.says("Promise 5", "UNKNOWN if there is no such inlet or outlet;");
        Due.due("connect(48, 2)", x.connect(48, 2), UNKNOWN);
        Due.due("connect(-1, 2)", x.connect(-1, 2), UNKNOWN);
        Due.due("connect(2, 48)", x.connect(2, 48), UNKNOWN);
        Due.due("connect(2, -1)", x.connect(2, -1), UNKNOWN);
        for (int far : FAR) {
            Due.due("connect(" + far + ", " + far + ")", x.connect(far, far), UNKNOWN);
        }
        Doc.says("Promise 5", "BUSY if the inlet or the outlet is busy;");
        Due.due("connect(47, 5)", x.connect(47, 5), BUSY);
        Due.due("connect(5, 47)", x.connect(5, 47), BUSY);
        Due.due("connect(47, 47)", x.connect(47, 47), BUSY);
        Due.due("connect(0, 47)", x.connect(0, 47), BUSY);
        Doc.says("Promise 5", "BLOCKED.");
        Due.due("connect(2, 12)", x.connect(2, 12), BLOCKED);
        Due.due("connect(12, 2)", x.connect(12, 2), BLOCKED);
        Due.due("total(5)", x.total(5), 3);
    }

    private static void promise6EndsTheCall() {
        Doc.says("Promise 6", "Ends the call of an inlet.");
        ClosExchange x = new ClosExchange();
        x.connect(3, 8);
        x.connect(4, 3);
        Due.due("disconnect(3)", x.disconnect(3), 0);
        Due.due("inletOf(0)", x.inletOf(0), UNKNOWN);
        Due.due("callOfInlet(3)", x.callOfInlet(3), NONE);
        Due.due("callOfOutlet(8)", x.callOfOutlet(8), NONE);
        Due.due("callOfOutlet(3), of another call", x.callOfOutlet(3), 1);
        Due.due("freeForFirst(1)", x.freeForFirst(1), 5);
        Due.due("freeForLast(2)", x.freeForLast(2), 7);
        Due.due("total(7)", x.total(7), 1);
        Due.due("load(0)", x.load(0), 0);
    }

    private static void promise6IsAChange() {
        Doc.says("Promise 6", "This is a change.");
        Look.isChange("disconnect(0)", SMALL, x -> x.disconnect(0), 0);
        Look.isChange("disconnect(2)", SMALL, x -> x.disconnect(2), 1);
    }

    private static void promise6Returns() {
        Doc.says("Promise 6", "an inlet");
        ClosExchange x = Due.network(8, 6, 8);
        x.connect(47, 3);
        x.connect(0, 47);
        Doc.says("Promise 6", "Returns the number of the call;");
        Due.due("disconnect(0)", x.disconnect(0), 1);
        Due.due("disconnect(47)", x.disconnect(47), 0);
        Doc.says("Promise 6", "UNKNOWN;");
        Due.due("disconnect(-1)", x.disconnect(-1), UNKNOWN);
        Due.due("disconnect(48)", x.disconnect(48), UNKNOWN);
        for (int far : FAR) {
            Due.due("disconnect(" + far + ")", x.disconnect(far), UNKNOWN);
        }
        Doc.says("Promise 6", "BUSY if the inlet is not busy.");
        Due.due("disconnect(47)", x.disconnect(47), BUSY);
        Due.due("disconnect(3), an outlet's number", x.disconnect(3), BUSY);
    }

    private static void promise7TakesOut() {
        Doc.says("Promise 7", "Takes a middle board out of service.");
        for (int middle = 0; middle < 8; middle++) {
            ClosExchange x = Due.network(3, 1, 8);
            Due.due("takeOut(" + middle + ")", x.takeOut(middle), 0);
            Due.due("inService()", x.inService(), 255 - (1 << middle));
            Due.due("freeForFirst(2)", x.freeForFirst(2), 255 - (1 << middle));
            Due.due("freeForLast(2)", x.freeForLast(2), 255 - (1 << middle));
            Due.due("connect(0, 0)", x.connect(0, 0), middle == 0 ? 1 : 0);
        }
    }

    /** A network with calls from a fixed seed, some middle boards of which may be out of service. */
    private static ClosExchange mixed(int seed) {
        Random random = new Random(seed);
        int lines = 2 + seed % 4;
        ClosExchange x = Due.network(3 + seed % 5, lines, lines + seed % 2);
        x.setChoiceRule(seed % 3);
        x.setPairRule(seed / 3 % 2);
        int all = x.total(0) * lines;
        for (int k = 0; k < 120; k++) {
            x.connect(random.nextInt(all), random.nextInt(all));
            if (k % 3 == 2) {
                x.disconnect(random.nextInt(all));
            }
        }
        return x;
    }

    /** The calls through a middle board, by their numbers; through any one if the middle board is -1. */
    private static List<Integer> callsThrough(ClosExchange x, int middle) {
        List<Integer> calls = new ArrayList<>();
        int connected = x.total(6);
        for (int call = 0; call < connected; call++) {
            int via = x.middleOf(call);
            if (via >= 0 && (middle < 0 || via == middle)) {
                calls.add(call);
            }
        }
        return calls;
    }

    /** The same as if these calls had ended ahead of it and been connected again behind it, one after the other. */
    private static void promise7AllCallsOffTheirLinks() {
        Doc.says("Promise 7", "All calls through it are taken off their links;");
        for (int seed = 0; seed < 60; seed++) {
            ClosExchange x = mixed(seed);
            ClosExchange y = mixed(seed);
            int middle = seed % x.total(2);
            List<Integer> calls = callsThrough(y, middle);
            int[] outlets = new int[calls.size()];
            int[] inlets = new int[calls.size()];
            for (int k = 0; k < inlets.length; k++) {
                inlets[k] = y.inletOf(calls.get(k));
                outlets[k] = y.outletOf(calls.get(k));
            }
            for (int inlet : inlets) {
                y.disconnect(inlet);
            }
            Due.due("takeOut(" + middle + ") without calls through it", y.takeOut(middle), 0);
            int drops = 0;
            for (int k = 0; k < inlets.length; k++) {
                drops += y.connect(inlets[k], outlets[k]) < 0 ? 1 : 0;
            }
            Due.due("takeOut(" + middle + ") of " + calls.size() + " calls", x.takeOut(middle), drops);
            Due.due("total(5)", x.total(5), y.total(5));
            Due.due("total(9)", x.total(9), y.total(9) + calls.size() - drops);
            for (int inlet = 0; inlet < x.total(0) * x.total(1); inlet++) {
                int via = y.middleOf(y.callOfInlet(inlet));
                Due.due("the middle board from " + inlet, x.middleOf(x.callOfInlet(inlet)), via);
            }
            for (int board = 0; board < x.total(0); board++) {
                Due.due("freeForFirst(" + board + ")", x.freeForFirst(board), y.freeForFirst(board));
                Due.due("freeForLast(" + board + ")", x.freeForLast(board), y.freeForLast(board));
            }
        }
    }

    /** Whichever inlet is the lower one: call 0 goes through the least that is left, call 1 through the other. */
    private static void promise7ByTheirNumbers() {
        Doc.says("Promise 7", "then they are routed one after the other, by their numbers;");
        ClosExchange x = new ClosExchange();
        x.connect(9, 9);
        x.connect(0, 0);
        x.setChoiceRule(2);
        Due.due("takeOut(0)", x.takeOut(0), 0);
        Due.due("middleOf(0)", x.middleOf(0), 1);
        Due.due("middleOf(1)", x.middleOf(1), 2);
        x = new ClosExchange();
        x.connect(0, 0);
        x.connect(9, 9);
        x.setChoiceRule(2);
        Due.due("takeOut(0)", x.takeOut(0), 0);
        Due.due("middleOf(0)", x.middleOf(0), 1);
        Due.due("middleOf(1)", x.middleOf(1), 2);
    }

    /** Call 0 has no room, since call 2 goes from its first board through 1; call 1 has. */
    private static void promise7BlockedAreDropped() {
        Doc.says("Promise 7", "those that are blocked are dropped.");
        ClosExchange x = Due.network(3, 2, 2);
        x.connect(0, 0);
        x.connect(4, 4);
        Due.due("connect(1, 2)", x.connect(1, 2), 1);
        Due.due("takeOut(0)", x.takeOut(0), 1);
        Due.due("inletOf(0), dropped", x.inletOf(0), UNKNOWN);
        Due.due("callOfInlet(0)", x.callOfInlet(0), NONE);
        Due.due("callOfOutlet(0)", x.callOfOutlet(0), NONE);
        Due.due("middleOf(1), routed anew", x.middleOf(1), 1);
        Due.due("middleOf(2), stays", x.middleOf(2), 1);
        Due.due("total(5)", x.total(5), 2);
        Due.due("total(7), not ended", x.total(7), 0);
        Due.due("total(8)", x.total(8), 1);
        Due.due("total(9)", x.total(9), 1);
        x.putBack(0);
        Due.due("they don't come back", x.total(5), 2);
        for (int middle = 0; middle < 6; middle++) {
            fullNetworkWithout(middle);
        }
    }

    /** All links are taken, so all calls through the middle board are dropped and all others stay. */
    private static void fullNetworkWithout(int middle) {
        ClosExchange x = Due.network(8, 6, 6);
        int[] vias = new int[48];
        for (int inlet = 0; inlet < 48; inlet++) {
            x.connect(inlet, inlet * 29 % 48);
        }
        for (int call = 0; call < 48; call++) {
            vias[call] = x.middleOf(call);
        }
        Due.due("takeOut(" + middle + ") of a full network", x.takeOut(middle), 8);
        for (int call = 0; call < 48; call++) {
            boolean stays = vias[call] != middle;
            Due.due("middleOf(" + call + ")", x.middleOf(call), stays ? vias[call] : UNKNOWN);
            Due.due("onFirstLink of call " + call, x.onFirstLink(call / 6, vias[call]), stays ? call : NONE);
            Due.due("onLastLink of call " + call, x.onLastLink(vias[call], call * 29 % 48 / 6), stays ? call : NONE);
        }
        for (int board = 0; board < 8; board++) {
            Due.due("freeForFirst(" + board + ")", x.freeForFirst(board), 0);
            Due.due("freeForLast(" + board + ")", x.freeForLast(board), 0);
        }
    }

    private static void promise7IsAChange() {
        Doc.says("Promise 7", "This is a change.");
        Look.isChange("takeOut(0), calls are dropped", SMALL, x -> x.takeOut(0), 2);
        Look.isChange("takeOut(0), a call is routed anew", x -> x.connect(0, 0), x -> x.takeOut(0), 0);
        Look.isChange("takeOut(2), no call through it", x -> x.connect(0, 0), x -> x.takeOut(2), 0);
    }

    private static void promise7Returns() {
        Doc.says("Promise 7", "a middle board");
        ClosExchange x = Due.network(8, 2, 8);
        Due.due("takeOut(7)", x.takeOut(7), 0);
        Doc.says("Promise 7", "Returns how many calls are dropped;");
        for (int middle = 0; middle < 6; middle++) {
            x.takeOut(middle);
        }
        for (int board = 0; board < 8; board++) {
            x.connect(2 * board, 2 * board);
        }
        Due.due("takeOut(6), the last one, with 8 calls", x.takeOut(6), 8);
        Due.due("inService()", x.inService(), 0);
        Due.due("total(8)", x.total(8), 8);
        Doc.says("Promise 7", "UNKNOWN;");
        Due.due("takeOut(8)", x.takeOut(8), UNKNOWN);
        Due.due("takeOut(-1)", x.takeOut(-1), UNKNOWN);
        Due.due("takeOut(3) of 3", new ClosExchange().takeOut(3), UNKNOWN);
        for (int far : FAR) {
            Due.due("takeOut(" + far + ")", x.takeOut(far), UNKNOWN);
        }
        Doc.says("Promise 7", "NONE if it is out of service already.");
        for (int middle = 0; middle < 8; middle++) {
            Due.due("takeOut(" + middle + ")", x.takeOut(middle), NONE);
        }
    }

    private static void promise8PutsBack() {
        Doc.says("Promise 8", "Puts a middle board back into service.");
        for (int middle = 0; middle < 8; middle++) {
            ClosExchange x = Due.network(3, 1, 8);
            for (int out = 0; out < 8; out++) {
                x.takeOut(out);
            }
            Due.due("putBack(" + middle + ")", x.putBack(middle), 1);
            Due.due("inService()", x.inService(), 1 << middle);
            Due.due("freeForFirst(2)", x.freeForFirst(2), 1 << middle);
            Due.due("freeForLast(2)", x.freeForLast(2), 1 << middle);
            Due.due("connect(0, 0)", x.connect(0, 0), middle);
        }
    }

    private static void promise8NoCallIsMoved() {
        Doc.says("Promise 8", "No call is moved by this.");
        for (int rule = 0; rule <= 2; rule++) {
            ClosExchange x = new ClosExchange();
            x.setChoiceRule(rule);
            x.takeOut(0);
            x.takeOut(1);
            x.connect(0, 0);
            x.connect(3, 3);
            Due.due("putBack(0)", x.putBack(0), 2);
            Due.due("putBack(1)", x.putBack(1), 3);
            Due.due("middleOf(0)", x.middleOf(0), 2);
            Due.due("middleOf(1)", x.middleOf(1), 2);
            Due.due("total(9)", x.total(9), 0);
        }
    }

    private static void promise8IsAChange() {
        Doc.says("Promise 8", "This is a change.");
        Look.isChange("putBack(1)", SMALL, x -> x.putBack(1), 2);
    }

    private static void promise8Returns() {
        Doc.says("Promise 8", "a middle board");
        ClosExchange x = Due.network(2, 1, 8);
        x.takeOut(7);
        Due.due("putBack(7)", x.putBack(7), 8);
        Doc.says("Promise 8", "Returns how many middle boards are in service then;");
        for (int middle = 0; middle < 8; middle++) {
            x.takeOut(middle);
        }
        for (int count = 1; count <= 8; count++) {
            Due.due("putBack(" + count * 3 % 8 + ")", x.putBack(count * 3 % 8), count);
        }
        Doc.says("Promise 8", "UNKNOWN;");
        Due.due("putBack(8)", x.putBack(8), UNKNOWN);
        Due.due("putBack(-1)", x.putBack(-1), UNKNOWN);
        Due.due("putBack(3) of 3", new ClosExchange().putBack(3), UNKNOWN);
        for (int far : FAR) {
            Due.due("putBack(" + far + ")", x.putBack(far), UNKNOWN);
        }
        Doc.says("Promise 8", "NONE if it is in service already.");
        for (int middle = 0; middle < 8; middle++) {
            Due.due("putBack(" + middle + ")", x.putBack(middle), NONE);
        }
    }

    private static void promise9FewMiddleBoards() {
        Doc.says("Promise 9", "Routes all calls anew with as few middle boards as are enough:");
        for (int seed = 0; seed < 60; seed++) {
            ClosExchange x = mixed(seed);
            int used = 0;
            x.pack();
            for (int middle = 0; middle < x.total(2); middle++) {
                used += x.load(middle) > 0 ? 1 : 0;
            }
            Due.due("the middle boards with calls", used, x.leastMiddles());
        }
    }

    /** The same as in a network that has these middle boards alone, whose calls are connected one after the other. */
    private static void promise9AllCallsAnew() {
        Doc.says("Promise 9", "all calls are taken off their links; then they are routed one after the other, by their numbers,");
        for (int seed = 0; seed < 60; seed++) {
            ClosExchange x = mixed(seed);
            int least = x.leastMiddles();
            ClosExchange y = Due.network(x.total(0), x.total(1), Math.max(least, 1));
            y.setChoiceRule(x.total(3));
            y.setPairRule(x.total(4));
            List<Integer> calls = callsThrough(x, -1);
            int changed = 0;
            for (int call : calls) {
                y.connect(x.inletOf(call), x.outletOf(call));
            }
            for (int k = 0; k < calls.size(); k++) {
                changed += x.middleOf(calls.get(k)) != y.middleOf(k) ? 1 : 0;
            }
            int moved = x.total(9);
            Due.due("pack() of " + calls.size() + " calls", x.pack(), changed);
            Due.due("total(9)", x.total(9), moved + changed);
            for (int k = 0; k < calls.size(); k++) {
                Due.due("middleOf(" + calls.get(k) + ")", x.middleOf(calls.get(k)), y.middleOf(k));
            }
        }
    }

    private static void promise9LowestInService() {
        Doc.says("Promise 9", "while only the leastMiddles() lowest middle boards in service count as in service.");
        for (int out = 0; out < 8; out++) {
            ClosExchange x = Due.built(4, 2, 4, new int[][] {{0, 0, 3}, {2, 2, 3}, {4, 4, 3}, {1, 6, 2}});
            for (int middle = 0; middle < 3; middle++) {
                if ((out >> middle & 1) == 1) {
                    x.takeOut(middle);
                }
            }
            int service = x.inService();
            int lowest = Integer.numberOfTrailingZeros(service);
            int second = Integer.numberOfTrailingZeros(service & service - 1);
            x.setChoiceRule(0);
            x.pack();
            Due.due("inService()", x.inService(), service);
            Due.due("load(" + lowest + ")", x.load(lowest), out == 7 ? x.total(5) : 3);
            Due.due("load(" + second + ")", out == 7 ? 1 : x.load(second), 1);
            x.setChoiceRule(2);
            x.pack();
            Due.due("load(" + lowest + "), the least load", x.load(lowest), out == 7 ? x.total(5) : 2);
            Due.due("load(" + second + "), the least load", out == 7 ? 2 : x.load(second), 2);
            Due.due("inService()", x.inService(), service);
        }
    }

    private static void promise9NoCallIsBlocked() {
        Doc.says("Promise 9", "(No call is blocked by this.)");
        for (int seed = 0; seed < 60; seed++) {
            ClosExchange x = mixed(seed);
            List<Integer> calls = callsThrough(x, -1);
            int dropped = x.total(8);
            x.pack();
            Due.due("total(5)", x.total(5), calls.size());
            Due.due("total(8)", x.total(8), dropped);
            Due.due("calls that are left", callsThrough(x, -1).equals(calls) ? 1 : 0, 1);
        }
    }

    private static void promise9IsAChange() {
        Doc.says("Promise 9", "This is a change.");
        Look.isChange("pack()", x -> Due.perform(x, "c0-0;c1-4;d0"), x -> x.pack(), 1);
        Look.isChange("pack() that moves none", SMALL, x -> x.pack(), 0);
    }

    private static void promise9Returns() {
        Doc.says("Promise 9", "Returns how many calls go through another middle board than before;");
        ClosExchange x = Due.built(4, 2, 4, new int[][] {{0, 0, 3}, {2, 2, 3}, {4, 4, 3}, {1, 3, 1}});
        Due.due("pack()", x.pack(), 3);
        Due.due("total(9)", x.total(9), 3);
        Due.due("pack() again", x.pack(), 0);
        Due.due("total(9)", x.total(9), 3);
        Doc.says("Promise 9", "NONE if there are no calls.");
        Due.due("pack() of a new object", new ClosExchange().pack(), NONE);
        x.setUp(4, 2, 4);
        Due.due("pack() after setUp()", x.pack(), NONE);
        x.connect(0, 0);
        Due.due("pack() of one call", x.pack(), 0);
        x.disconnect(0);
        Due.due("pack() after disconnect()", x.pack(), NONE);
    }
}
