import java.util.ArrayList;
import java.util.List;

/** The sentences of "ROUTING". */
final class RoutingSentences {
    private static final int BLOCKED = ClosExchange.BLOCKED;
    private static final int NONE = ClosExchange.NONE;
    private static final String SECTION = "ROUTING";

    private RoutingSentences() {
    }

    static void all() {
        firstAndLastBoard();
        freeForBoth();
        choiceRuleAtFirst();
        choiceRules();
        blocked();
        pairIsFree();
        pairRule0();
        pairRule1FewestCalls();
        pairRule1LeastP();
        pairRule1LeastQ();
        pairsOfAllMiddleBoards();
        pairsOfEightMiddleBoards();
        chainBegins();
        chainBehindACallThroughP();
        chainBehindACallThroughQ();
        chainEnds();
        callsAreMoved();
        thenPIsFree();
        newCallThroughP();
    }

    private static void firstAndLastBoard() {
        Doc.says(SECTION, "To route a call, let f be its inlet's first board, and t its outlet's last board.");
        ClosExchange x = Due.network(3, 2, 2);
        Due.due("connect(3, 4)", x.connect(3, 4), 0);
        Due.due("connect(2, 0), the same f", x.connect(2, 0), 1);
        Due.due("connect(0, 5), the same t", x.connect(0, 5), 1);
        Due.due("connect(4, 2), neither", x.connect(4, 2), 0);
    }

    /** 0 is free for f alone, 1 for t alone, 2 for neither, 3 is out of service, 4 is free for both. */
    private static void freeForBoth() {
        Doc.says(SECTION, "1. If there are middle boards that are free for f and for t, one of them is chosen by the choice rule:");
        for (int rule = 0; rule <= 2; rule++) {
            ClosExchange x = Due.built(4, 4, 5, new int[][] {{0, 12, 2}, {1, 4, 1}, {4, 13, 0}});
            x.takeOut(3);
            x.setChoiceRule(rule);
            Due.due("freeForFirst(0)", x.freeForFirst(0), 1 + 16);
            Due.due("freeForLast(3)", x.freeForLast(3), 2 + 16);
            Due.due("wouldMove(2, 14)", x.wouldMove(2, 14), 0);
            Due.due("connect(2, 14), rule " + rule, x.connect(2, 14), 4);
        }
    }

    private static void choiceRuleAtFirst() {
        Doc.says(SECTION, "0 (at first) the one with the least number;");
        Due.due("total(3) of a new object", new ClosExchange().total(3), 0);
        ClosExchange x = loaded(new int[] {1, 2, 0});
        Due.due("connect(9, 9), neither by the greatest load nor by the least", x.connect(9, 9), 0);
        Due.due("connect(10, 10), of the two others", x.connect(10, 10), 1);
    }

    /** All loads of three middle boards up to 3, and the one that each rule chooses. */
    private static void choiceRules() {
        String[] sentences = {"0 (at first) the one with the least number;",
            "1 the one with the greatest load, of several the one with the least number;",
            "2 the one with the least load, of several the one with the least number."};
        for (int rule = 0; rule <= 2; rule++) {
            Doc.says(SECTION, sentences[rule]);
            for (int loads = 0; loads < 64; loads++) {
                int[] load = {loads % 4, loads / 4 % 4, loads / 16};
                int chosen = 0;
                for (int middle = 1; middle < 3; middle++) {
                    boolean greater = load[middle] > load[chosen];
                    boolean less = load[middle] < load[chosen];
                    chosen = rule == 1 && greater || rule == 2 && less ? middle : chosen;
                }
                ClosExchange x = loaded(load);
                x.setChoiceRule(rule);
                String call = "connect(9, 9) with loads " + load[0] + ", " + load[1] + ", " + load[2];
                Due.due(call, x.connect(9, 9), chosen);
            }
        }
    }

    /** A network whose middle boards have these loads, from the first boards 0 to 2 to the last boards 0 to 2. */
    private static ClosExchange loaded(int[] load) {
        int[][] calls = new int[load[0] + load[1] + load[2]][];
        int call = 0;
        for (int middle = 2; middle >= 0; middle--) {
            for (int board = 0; board < load[middle]; board++) {
                calls[call] = new int[] {3 * board + middle, 3 * board + middle, middle};
                call++;
            }
        }
        return Due.built(4, 3, 3, calls);
    }

    private static void blocked() {
        Doc.says(SECTION, "2. Otherwise, if no middle board is free for f, or none is free for t, the call is blocked.");
        ClosExchange x = Due.network(4, 3, 2);
        x.connect(0, 3);
        x.connect(1, 6);
        Due.due("connect(2, 9), none for f", x.connect(2, 9), BLOCKED);
        Due.due("connect(3, 9), some for both", x.connect(3, 9), 0);
        x.connect(6, 10);
        Due.due("connect(9, 11), none for t", x.connect(9, 11), BLOCKED);
        Due.due("connect(2, 11), none for either", x.connect(2, 11), BLOCKED);
        x.takeOut(0);
        x.takeOut(1);
        Due.due("connect(9, 0), none in service", x.connect(9, 0), BLOCKED);
    }

    private static void pairIsFree() {
        Doc.says(SECTION, "3. Otherwise a pair of middle boards is looked for: p is free for f, and q is free for t.");
        for (int rule = 0; rule <= 1; rule++) {
            ClosExchange x = Due.built(4, 3, 4, new int[][] {{0, 3, 2}, {3, 0, 1}});
            x.takeOut(0);
            x.takeOut(3);
            x.setPairRule(rule);
            Due.due("freeForFirst(0)", x.freeForFirst(0), 2);
            Due.due("freeForLast(0)", x.freeForLast(0), 4);
            Due.due("connect(1, 1), p is 1", x.connect(1, 1), 1);
            Due.due("middleOf(1), q is 2", x.middleOf(1), 2);
        }
    }

    /** A network in which a call from 18 to 18 finds 1 and 2 free for f, 3 and 4 free for t, and more calls. */
    private static ClosExchange fourPairs(int[][] more) {
        int[][] needed = {{15, 0, 4}, {16, 5, 3}, {0, 15, 2}, {5, 16, 1}, {17, 17, 0}};
        int[][] calls = new int[needed.length + more.length][];
        int count = 0;
        for (int[] call : needed) {
            calls[count] = call;
            count++;
            for (int[] other : more) {
                if (other[2] == call[2]) {
                    calls[count] = other;
                    count++;
                }
            }
        }
        return Due.built(4, 5, 5, calls);
    }

    /**
     * The chain of p = 1 begins with a call on the first board 1, that of p = 2 with one on the first
     * board 0. That is all, but where more calls of these boards go through q.
     */
    private static void pair(String what, int rule, int[][] more, int p, int q, int moved) {
        ClosExchange x = fourPairs(more);
        x.setPairRule(rule);
        Due.due(what + ", freeForFirst(3)", x.freeForFirst(3), 6);
        Due.due(what + ", freeForLast(3)", x.freeForLast(3), 24);
        int first = x.onLastLink(p, 3);
        Due.due(what + ", wouldMove(18, 18)", x.wouldMove(18, 18), moved);
        Due.due(what + ", chainCall(18, 18, 0)", x.chainCall(18, 18, 0), first);
        Due.due(what + ", connect(18, 18), p", x.connect(18, 18), p);
        Due.due(what + ", the first call of the chain goes through q", x.middleOf(first), q);
    }

    private static void pairRule0() {
        Doc.says(SECTION, "By the pair rule 0 (at first), p and q are the ones with the least numbers.");
        Due.due("total(4) of a new object", new ClosExchange().total(4), 0);
        pair("all chains of one call", 0, new int[][] {}, 1, 3, 1);
        pair("1, 3 has the longest chain", 0, new int[][] {{6, 11, 3}}, 1, 3, 2);
        pair("1, 3 and 1, 4 have longer ones", 0, new int[][] {{6, 11, 3}, {7, 12, 4}}, 1, 3, 2);
        pair("1, 3 has a chain of three", 0, new int[][] {{6, 11, 3}, {10, 12, 1}}, 1, 3, 3);
    }

    private static void pairRule1FewestCalls() {
        Doc.says(SECTION, "By the pair rule 1, the pair is the one whose chain has the fewest calls,");
        pair("1, 3 has the longest chain", 1, new int[][] {{6, 11, 3}}, 1, 4, 1);
        pair("all but 2, 4 have two", 1, new int[][] {{6, 11, 3}, {7, 12, 4}, {1, 1, 3}}, 2, 4, 1);
        pair("all but 2, 3 have two", 1, new int[][] {{6, 11, 3}, {7, 12, 4}, {2, 6, 4}}, 2, 3, 1);
        pair("1, 3 alone has one", 1, new int[][] {{7, 12, 4}, {2, 6, 4}, {1, 1, 3}}, 1, 3, 1);
        pair("1, 3 has three, all others two", 1,
            new int[][] {{6, 11, 3}, {10, 12, 1}, {7, 6, 4}, {1, 1, 3}, {2, 13, 4}}, 1, 4, 2);
    }

    private static void pairRule1LeastP() {
        Doc.says(SECTION, "of several the one with the least p,");
        pair("1, 4 and 2, 3 have one", 1, new int[][] {{6, 11, 3}, {2, 12, 4}}, 1, 4, 1);
        pair("2, 3 and 2, 4 have one, both have the least p", 1, new int[][] {{6, 11, 3}, {7, 12, 4}}, 2, 3, 1);
    }

    private static void pairRule1LeastQ() {
        Doc.says(SECTION, "of these the one with the least q.");
        pair("all have one", 1, new int[][] {}, 1, 3, 1);
        pair("all have two", 1, new int[][] {{6, 11, 3}, {7, 12, 4}, {1, 1, 3}, {2, 6, 4}}, 1, 3, 2);
        pair("2, 3 and 2, 4 have one", 1, new int[][] {{6, 11, 3}, {7, 12, 4}}, 2, 3, 1);
    }

    /** All middle boards but two are out of service. */
    private static void pairsOfAllMiddleBoards() {
        Doc.says(SECTION, "p is free for f, and q is free for t.");
        for (int k = 0; k < 128; k++) {
            int p = k / 8 % 8;
            int q = k % 8;
            if (p == q) {
                continue;
            }
            ClosExchange x = Due.network(8, 6, 8);
            for (int middle = 0; middle < 8; middle++) {
                x.takeOut(middle);
            }
            x.setChoiceRule(2);
            x.setPairRule(k / 64);
            x.putBack(q);
            Due.due("connect(42, 0), through q", x.connect(42, 0), q);
            x.putBack(p);
            Due.due("connect(0, 42), through p of the least load", x.connect(0, 42), p);
            Due.due("chainCall(47, 47, 0)", x.chainCall(47, 47, 0), 1);
            Due.due("connect(47, 47), p is " + p, x.connect(47, 47), p);
            Due.due("middleOf(1), q is " + q, x.middleOf(1), q);
        }
    }

    /** Three of eight are free for f and three others for t, and of the nine chains one has one call, all others two. */
    private static void pairsOfEightMiddleBoards() {
        for (int k = 0; k < 18; k++) {
            int leastP = k < 9 ? 0 : 5;
            int leastQ = k < 9 ? 5 : 0;
            int shortP = leastP + k % 9 / 3;
            int shortQ = leastQ + k % 3;
            Doc.says(SECTION, "By the pair rule 1, the pair is the one whose chain has the fewest calls,");
            ClosExchange x = nineChains(leastP, leastQ, shortP, shortQ);
            x.setPairRule(1);
            int first = x.onLastLink(shortP, 7);
            Due.due("wouldMove(47, 47)", x.wouldMove(47, 47), 1);
            Due.due("connect(47, 47), p", x.connect(47, 47), shortP);
            Due.due("middleOf(" + first + "), q", x.middleOf(first), shortQ);
            Doc.says(SECTION, "By the pair rule 0 (at first), p and q are the ones with the least numbers.");
            x = nineChains(leastP, leastQ, shortP, shortQ);
            first = x.onLastLink(leastP, 7);
            Due.due("connect(47, 47), p", x.connect(47, 47), leastP);
            Due.due("middleOf(" + first + "), q", x.middleOf(first), leastQ);
        }
    }

    /** In a network of 8 middle boards, the call through the i-th p goes from the first board 1 + i to t. */
    private static ClosExchange nineChains(int leastP, int leastQ, int shortP, int shortQ) {
        List<int[]> calls = new ArrayList<>();
        for (int middle = 0; middle < 8; middle++) {
            if (middle < leastP || middle >= leastP + 3) {
                calls.add(new int[] {42 + calls.size() % 5, calls.size() % 5, middle});
            }
        }
        for (int middle = 0, line = 0; middle < 8; middle++) {
            if (middle < leastQ || middle >= leastQ + 3) {
                boolean isP = middle >= leastP && middle < leastP + 3;
                calls.add(new int[] {isP ? 6 * (1 + middle - leastP) + 5 : 6 * (2 + middle), 42 + line, middle});
                line++;
            }
        }
        for (int p = 0; p < 3; p++) {
            for (int q = 0; q < 3; q++) {
                if (leastP + p != shortP || leastQ + q != shortQ) {
                    calls.add(new int[] {6 * (1 + p) + q, 6 * (1 + p) + q, leastQ + q});
                }
            }
        }
        calls.sort((one, other) -> other[2] - one[2]);
        return Due.built(8, 6, 8, calls.toArray(new int[0][]));
    }

    /**
     * From inlet 1 to outlet 1, p is 0 and q is 1: a zigzag of as many calls as asked for, through 0 to
     * the last board 0, from there on the same first board through 1, and so on.
     */
    private static ClosExchange zigzag(int calls) {
        int[][] built = new int[calls + 1][];
        int count = 0;
        for (int k = 1; k < calls; k += 2) {
            built[count] = new int[] {2 * (k / 2 + 1) + 1, 2 * (k / 2 + 1) + 1, 1};
            count++;
        }
        built[count] = new int[] {0, 15, 1};
        count++;
        for (int k = 0; k < calls; k += 2) {
            built[count] = new int[] {2 * (k / 2 + 1), 2 * (k / 2), 0};
            count++;
        }
        return Due.built(8, 2, 2, built);
    }

    private static void chainBegins() {
        Doc.says(SECTION, "The chain of the pair begins with the call through p that goes to t;");
        for (int calls = 1; calls <= 13; calls++) {
            ClosExchange x = zigzag(calls);
            Due.due("inletOf(chainCall(1, 1, 0))", x.inletOf(x.chainCall(1, 1, 0)), 2);
            Due.due("outletOf(chainCall(1, 1, 0))", x.outletOf(x.chainCall(1, 1, 0)), 0);
            Due.due("middleOf(chainCall(1, 1, 0))", x.middleOf(x.chainCall(1, 1, 0)), 0);
        }
    }

    private static void chainBehindACallThroughP() {
        Doc.says(SECTION, "behind a call through p comes the call through q on the same first board;");
        ClosExchange x = zigzag(13);
        for (int index = 1; index < 13; index += 2) {
            int call = x.chainCall(1, 1, index);
            Due.due("middleOf(" + call + ")", x.middleOf(call), 1);
            Due.due("inletOf(" + call + ")", x.inletOf(call), index + 2);
        }
    }

    private static void chainBehindACallThroughQ() {
        Doc.says(SECTION, "behind a call through q comes the call through p on the same last board;");
        ClosExchange x = zigzag(13);
        for (int index = 2; index < 13; index += 2) {
            int call = x.chainCall(1, 1, index);
            Due.due("middleOf(" + call + ")", x.middleOf(call), 0);
            Due.due("outletOf(" + call + ")", x.outletOf(call), index);
        }
    }

    private static void chainEnds() {
        Doc.says(SECTION, "the chain ends where there is no such call.");
        for (int calls = 1; calls <= 13; calls++) {
            ClosExchange x = zigzag(calls);
            Due.due("wouldMove(1, 1)", x.wouldMove(1, 1), calls);
            Due.due("chainCall(1, 1, " + (calls - 1) + ") is one", Math.min(0, x.chainCall(1, 1, calls - 1)), 0);
            Due.due("chainCall(1, 1, " + calls + ")", x.chainCall(1, 1, calls), NONE);
        }
    }

    private static void callsAreMoved() {
        Doc.says(SECTION, "Then all calls of the chain are moved: those through p to q, and those through q to p.");
        for (int calls = 1; calls <= 13; calls++) {
            ClosExchange x = zigzag(calls);
            int stays = x.callOfInlet(0);
            int[] vias = new int[calls + 1];
            for (int call = 0; call <= calls; call++) {
                vias[call] = x.middleOf(call);
            }
            x.connect(1, 1);
            for (int call = 0; call <= calls; call++) {
                int via = call == stays ? vias[call] : 1 - vias[call];
                Due.due("middleOf(" + call + ") of " + calls, x.middleOf(call), via);
                Due.due("onFirstLink", x.onFirstLink(x.inletOf(call) / 2, via), call);
                Due.due("onLastLink", x.onLastLink(via, x.outletOf(call) / 2), call);
            }
            Due.due("load(0) + load(1)", x.load(0) + x.load(1), calls + 2);
            Due.due("total(9)", x.total(9), calls);
        }
    }

    /** The links of p at f and t carry the new call; where the chain left them, nothing is left behind. */
    private static void thenPIsFree() {
        Doc.says(SECTION, "(After that, p is free for f and for t.)");
        for (int calls = 1; calls <= 13; calls++) {
            ClosExchange x = zigzag(calls);
            x.connect(1, 1);
            x.disconnect(1);
            Due.due("freeForFirst(0)", x.freeForFirst(0), 1);
            Due.due("freeForLast(0)", x.freeForLast(0), 1);
            Due.due("connect(1, 1) once more", x.connect(1, 1), 0);
            Due.due("total(9)", x.total(9), calls);
        }
    }

    private static void newCallThroughP() {
        Doc.says(SECTION, "The new call goes through p.");
        for (int calls = 1; calls <= 13; calls++) {
            ClosExchange x = zigzag(calls);
            Due.due("connect(1, 1)", x.connect(1, 1), 0);
            int call = x.callOfInlet(1);
            Due.due("middleOf(" + call + ")", x.middleOf(call), 0);
            Due.due("onFirstLink(0, 0)", x.onFirstLink(0, 0), call);
            Due.due("onLastLink(0, 0)", x.onLastLink(0, 0), call);
        }
    }
}
