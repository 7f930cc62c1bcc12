/** The sentences of "BOARDS AND LINES". */
final class BoardsSentences {
    private static final int UNKNOWN = ClosExchange.UNKNOWN;
    private static final int OUT_OF_RANGE = ClosExchange.OUT_OF_RANGE;
    private static final int BLOCKED = ClosExchange.BLOCKED;
    private static final int NONE = ClosExchange.NONE;
    private static final String SECTION = "BOARDS AND LINES";

    private BoardsSentences() {
    }

    static void all() {
        asManyFirstAsLastBoards();
        leastAndGreatestNumberOfBoards();
        boardsAtFirst();
        theSameNumberOfLinesOnEach();
        leastAndGreatestNumberOfLines();
        linesAtFirst();
        leastAndGreatestNumberOfMiddleBoards();
        middleBoardsAtFirst();
        theLeastNetwork();
        theGreatestNetwork();
        theGreatestNetworkFull();
        boardsAreNumberedFromZero();
        inletsAndOutlets();
        inletsThroughAllFirstBoards();
        outletsLikewise();
        oneLinkBetweenEachTwo();
        aLinkCarriesAtMostOneCall();
        inServiceAtFirst();
        freeForABoard();
    }

    private static void asManyFirstAsLastBoards() {
        Doc.says(SECTION, "The network has as many first boards as last boards");
        for (int boards = 2; boards <= 8; boards++) {
            ClosExchange x = Due.network(boards, 1, 1);
            Due.due("freeForFirst(" + (boards - 1) + ")", x.freeForFirst(boards - 1), 1);
            Due.due("freeForLast(" + (boards - 1) + ")", x.freeForLast(boards - 1), 1);
            Due.due("freeForFirst(" + boards + ")", x.freeForFirst(boards), UNKNOWN);
            Due.due("freeForLast(" + boards + ")", x.freeForLast(boards), UNKNOWN);
            Due.due("connect(0, " + (boards - 1) + ")", x.connect(0, boards - 1), 0);
            Due.due("connect(" + (boards - 1) + ", 0)", x.connect(boards - 1, 0), 0);
        }
    }

    private static void leastAndGreatestNumberOfBoards() {
        Doc.says(SECTION, "(2 to 8 of each;");
        for (int boards = 0; boards <= 10; boards++) {
            ClosExchange x = new ClosExchange();
            boolean allowed = boards >= 2 && boards <= 8;
            Due.due("setUp(" + boards + ", 3, 3)", x.setUp(boards, 3, 3), allowed ? 0 : OUT_OF_RANGE);
            Due.due("total(0)", x.total(0), allowed ? boards : 4);
        }
    }

    private static void boardsAtFirst() {
        Doc.says(SECTION, "4 at first)");
        ClosExchange x = new ClosExchange();
        Due.due("total(0)", x.total(0), 4);
        Due.due("freeForFirst(3)", x.freeForFirst(3), 7);
        Due.due("freeForFirst(4)", x.freeForFirst(4), UNKNOWN);
        Due.due("freeForLast(3)", x.freeForLast(3), 7);
        Due.due("freeForLast(4)", x.freeForLast(4), UNKNOWN);
    }

    private static void theSameNumberOfLinesOnEach() {
        Doc.says(SECTION, "with the same number of lines on each of them");
        for (int lines = 1; lines <= 6; lines++) {
            ClosExchange x = Due.network(3, lines, 8);
            for (int line = 0; line < 3 * lines; line++) {
                x.connect(line, line);
            }
            for (int board = 0; board < 3; board++) {
                Due.due("calls on the first board " + board, 8 - Integer.bitCount(x.freeForFirst(board)), lines);
                Due.due("calls on the last board " + board, 8 - Integer.bitCount(x.freeForLast(board)), lines);
            }
        }
    }

    private static void leastAndGreatestNumberOfLines() {
        Doc.says(SECTION, "(1 to 6;");
        for (int lines = -1; lines <= 8; lines++) {
            ClosExchange x = new ClosExchange();
            boolean allowed = lines >= 1 && lines <= 6;
            Due.due("setUp(4, " + lines + ", 3)", x.setUp(4, lines, 3), allowed ? 0 : OUT_OF_RANGE);
            Due.due("total(1)", x.total(1), allowed ? lines : 3);
        }
    }

    private static void linesAtFirst() {
        Doc.says(SECTION, "3 at first), and");
        ClosExchange x = new ClosExchange();
        Due.due("total(1)", x.total(1), 3);
        Due.due("callOfInlet(11)", x.callOfInlet(11), NONE);
        Due.due("callOfInlet(12)", x.callOfInlet(12), UNKNOWN);
        Due.due("callOfOutlet(11)", x.callOfOutlet(11), NONE);
        Due.due("callOfOutlet(12)", x.callOfOutlet(12), UNKNOWN);
    }

    private static void leastAndGreatestNumberOfMiddleBoards() {
        Doc.says(SECTION, "middle boards (1 to 8;");
        for (int middles = -1; middles <= 10; middles++) {
            ClosExchange x = new ClosExchange();
            boolean allowed = middles >= 1 && middles <= 8;
            Due.due("setUp(4, 3, " + middles + ")", x.setUp(4, 3, middles), allowed ? 0 : OUT_OF_RANGE);
            Due.due("total(2)", x.total(2), allowed ? middles : 3);
        }
    }

    private static void middleBoardsAtFirst() {
        Doc.says(SECTION, "3 at first).");
        ClosExchange x = new ClosExchange();
        Due.due("total(2)", x.total(2), 3);
        Due.due("load(2)", x.load(2), 0);
        Due.due("load(3)", x.load(3), UNKNOWN);
    }

    private static void theLeastNetwork() {
        Doc.says(SECTION, "(2 to 8 of each;");
        ClosExchange x = Due.network(2, 1, 1);
        Due.due("connect(1, 0)", x.connect(1, 0), 0);
        Due.due("connect(0, 1)", x.connect(0, 1), 0);
        Due.due("inletOf(0)", x.inletOf(0), 1);
        Due.due("outletOf(1)", x.outletOf(1), 1);
        Due.due("onFirstLink(1, 0)", x.onFirstLink(1, 0), 0);
        Due.due("onLastLink(0, 1)", x.onLastLink(0, 1), 1);
        Due.due("load(0)", x.load(0), 2);
        Due.due("leastMiddles()", x.leastMiddles(), 1);
        Due.due("pack()", x.pack(), 0);
        Due.due("wouldDrop(0)", x.wouldDrop(0), 2);
        Due.due("takeOut(0)", x.takeOut(0), 2);
        Due.due("reason(0, 0)", x.reason(0, 0), 4);
        Due.due("putBack(0)", x.putBack(0), 1);
        Due.due("reachable(1)", x.reachable(1), 2);
        Due.due("connect(2, 0)", x.connect(2, 0), UNKNOWN);
        Due.due("load(1)", x.load(1), UNKNOWN);
    }

    /** The last inlet, the last outlet and the last middle board, in all that is done to a call. */
    private static void theGreatestNetwork() {
        Doc.says(SECTION, "middle boards (1 to 8;");
        ClosExchange x = Due.built(8, 6, 8, new int[][] {{47, 47, 7}});
        Due.due("inletOf(0)", x.inletOf(0), 47);
        Due.due("outletOf(0)", x.outletOf(0), 47);
        Due.due("middleOf(0)", x.middleOf(0), 7);
        Due.due("callOfInlet(47)", x.callOfInlet(47), 0);
        Due.due("callOfOutlet(47)", x.callOfOutlet(47), 0);
        Due.due("onFirstLink(7, 7)", x.onFirstLink(7, 7), 0);
        Due.due("onLastLink(7, 7)", x.onLastLink(7, 7), 0);
        Due.due("load(7)", x.load(7), 1);
        Due.due("leastMiddles()", x.leastMiddles(), 1);
        Due.due("pack()", x.pack(), 1);
        Due.due("middleOf(0)", x.middleOf(0), 0);
        Due.due("undo()", x.undo(), 3);
        Due.due("middleOf(0) after undo()", x.middleOf(0), 7);
        for (int middle = 0; middle < 7; middle++) {
            x.takeOut(middle);
        }
        Due.due("pack() with 7 alone", x.pack(), 0);
        Due.due("middleOf(0)", x.middleOf(0), 7);
        Due.due("wouldDrop(7)", x.wouldDrop(7), 1);
        x.putBack(3);
        Due.due("takeOut(7)", x.takeOut(7), 0);
        Due.due("middleOf(0)", x.middleOf(0), 3);
        Due.due("total(9)", x.total(9), 1);
        Due.due("putBack(7)", x.putBack(7), 2);
        x.takeOut(3);
        x.keep();
        Due.due("disconnect(47)", x.disconnect(47), 0);
        Due.due("freeForFirst(7)", x.freeForFirst(7), 128);
        Due.due("freeForLast(7)", x.freeForLast(7), 128);
        Due.due("restore()", x.restore(), 1);
        Due.due("middleOf(0) after restore()", x.middleOf(0), 7);
    }

    /** All 48 lines have calls: no middle board but 0 and 1 can do without another one. */
    private static void theGreatestNetworkFull() {
        Doc.says(SECTION, "(1 to 6;");
        ClosExchange x = Due.network(8, 6, 8);
        x.takeOut(0);
        x.takeOut(1);
        for (int inlet = 0; inlet < 48; inlet++) {
            Due.due("connect(" + inlet + ", ..) is blocked", x.connect(inlet, inlet * 35 % 48) < 2 ? 1 : 0, 0);
        }
        Due.due("total(5)", x.total(5), 48);
        Due.due("total(6)", x.total(6), 48);
        Due.due("leastMiddles()", x.leastMiddles(), 6);
        for (int middle = 2; middle < 8; middle++) {
            Due.due("load(" + middle + ")", x.load(middle), 8);
            Due.due("wouldDrop(" + middle + ")", x.wouldDrop(middle), 8);
        }
        x.putBack(0);
        x.putBack(1);
        Due.due("wouldDrop(7)", x.wouldDrop(7), 0);
        Due.due("pack(), those through 6 and 7 among them", Math.min(x.pack(), 16), 16);
        Due.due("total(5)", x.total(5), 48);
        for (int middle = 0; middle < 8; middle++) {
            Due.due("load(" + middle + ")", x.load(middle), middle < 6 ? 8 : 0);
        }
        Due.due("setUp(8, 6, 8)", x.setUp(8, 6, 8), 48);
        Due.due("total(7)", x.total(7), 48);
    }

    private static void boardsAreNumberedFromZero() {
        Doc.says(SECTION, "Boards of each stage are numbered from 0.");
        ClosExchange x = Due.network(2, 1, 1);
        Due.due("freeForFirst(-1)", x.freeForFirst(-1), UNKNOWN);
        Due.due("freeForFirst(0)", x.freeForFirst(0), 1);
        Due.due("load(-1)", x.load(-1), UNKNOWN);
        Due.due("load(0)", x.load(0), 0);
        Due.due("freeForLast(-1)", x.freeForLast(-1), UNKNOWN);
        Due.due("freeForLast(0)", x.freeForLast(0), 1);
        Due.due("connect(0, 0)", x.connect(0, 0), 0);
        Due.due("onFirstLink(0, 0)", x.onFirstLink(0, 0), 0);
        Due.due("onLastLink(0, 0)", x.onLastLink(0, 0), 0);
    }

    private static void inletsAndOutlets() {
        Doc.says(SECTION, "The lines of the first boards are the inlets, those of the last boards are the outlets.");
        ClosExchange x = new ClosExchange();
        x.connect(2, 9);
        Due.due("callOfInlet(2)", x.callOfInlet(2), 0);
        Due.due("callOfOutlet(9)", x.callOfOutlet(9), 0);
        Due.due("callOfInlet(9)", x.callOfInlet(9), NONE);
        Due.due("callOfOutlet(2)", x.callOfOutlet(2), NONE);
        Due.due("onFirstLink(0, 0)", x.onFirstLink(0, 0), 0);
        Due.due("onFirstLink(3, 0)", x.onFirstLink(3, 0), NONE);
        Due.due("onLastLink(0, 3)", x.onLastLink(0, 3), 0);
        Due.due("onLastLink(0, 0)", x.onLastLink(0, 0), NONE);
    }

    private static void inletsThroughAllFirstBoards() {
        Doc.says(SECTION, "Inlets are numbered from 0 through all first boards: the inlet i is on the first board i / lines, rounded down.");
        for (int boards = 2; boards <= 8; boards++) {
            for (int lines = 1; lines <= 6; lines++) {
                int inlet = 0;
                for (int board = 0; board < boards; board++) {
                    for (int line = 0; line < lines; line++) {
                        ClosExchange x = Due.network(boards, lines, 1);
                        Due.due("connect(" + inlet + ", 0)", x.connect(inlet, 0), 0);
                        for (int other = 0; other < boards; other++) {
                            Due.due("onFirstLink(" + other + ", 0) then", x.onFirstLink(other, 0), other == board ? 0 : NONE);
                        }
                        inlet++;
                    }
                }
                Due.due("connect(" + inlet + ", 0)", Due.network(boards, lines, 1).connect(inlet, 0), UNKNOWN);
            }
        }
    }

    private static void outletsLikewise() {
        Doc.says(SECTION, "Outlets are numbered likewise through all last boards.");
        for (int boards = 2; boards <= 8; boards++) {
            for (int lines = 1; lines <= 6; lines++) {
                int outlet = 0;
                for (int board = 0; board < boards; board++) {
                    for (int line = 0; line < lines; line++) {
                        ClosExchange x = Due.network(boards, lines, 1);
                        Due.due("connect(0, " + outlet + ")", x.connect(0, outlet), 0);
                        for (int other = 0; other < boards; other++) {
                            Due.due("onLastLink(0, " + other + ") then", x.onLastLink(0, other), other == board ? 0 : NONE);
                        }
                        outlet++;
                    }
                }
                Due.due("connect(0, " + outlet + ")", Due.network(boards, lines, 1).connect(0, outlet), UNKNOWN);
            }
        }
    }

    /** Each call is on the links of its own boards, and on none of the 126 others. */
    private static void oneLinkBetweenEachTwo() {
        Doc.says(SECTION, "There is one link between each first board and each middle board, and one link between each middle board and each last board.");
        for (int middle = 0; middle < 8; middle++) {
            for (int board = 0; board < 8; board++) {
                int opposite = 7 - board;
                ClosExchange x = Due.built(8, 6, 8, new int[][] {{6 * board, 6 * opposite, middle}});
                for (int link = 0; link < 64; link++) {
                    int first = link / 8 == board && link % 8 == middle ? 0 : NONE;
                    int last = link / 8 == opposite && link % 8 == middle ? 0 : NONE;
                    Due.due("onFirstLink(" + link / 8 + ", " + link % 8 + ")", x.onFirstLink(link / 8, link % 8), first);
                    Due.due("onLastLink(" + link % 8 + ", " + link / 8 + ")", x.onLastLink(link % 8, link / 8), last);
                }
            }
        }
    }

    private static void aLinkCarriesAtMostOneCall() {
        Doc.says(SECTION, "A link carries at most one call.");
        ClosExchange x = Due.network(2, 2, 1);
        Due.due("connect(0, 0)", x.connect(0, 0), 0);
        Due.due("connect(1, 2), the first link is taken", x.connect(1, 2), BLOCKED);
        Due.due("connect(2, 1), the last link is taken", x.connect(2, 1), BLOCKED);
        Due.due("connect(1, 1), both are taken", x.connect(1, 1), BLOCKED);
        Due.due("onFirstLink(0, 0)", x.onFirstLink(0, 0), 0);
        Due.due("onLastLink(0, 0)", x.onLastLink(0, 0), 0);
        Due.due("connect(3, 3), none is taken", x.connect(3, 3), 0);
    }

    private static void inServiceAtFirst() {
        Doc.says(SECTION, "A middle board is in service (as all are at first), or out of service.");
        Due.due("inService() of a new object", new ClosExchange().inService(), 7);
        for (int middles = 1; middles <= 8; middles++) {
            ClosExchange x = Due.network(2, 1, middles);
            int all = (1 << middles) - 1;
            Due.due("inService()", x.inService(), all);
            for (int middle = 0; middle < middles; middle++) {
                x.takeOut(middle);
                Due.due("inService() without " + middle, x.inService(), all - (1 << middle));
                x.putBack(middle);
                Due.due("inService() with " + middle, x.inService(), all);
            }
        }
    }

    private static void freeForABoard() {
        Doc.says(SECTION, "A middle board is free for a first (or last) board if it is in service, and the link between these two boards carries no call.");
        ClosExchange x = Due.network(3, 2, 3);
        x.connect(2, 4);
        x.connect(3, 1);
        x.takeOut(2);
        // The calls go 1, 0, 2 and 1, 1, 0.
        int[] first = {3, 0, 3};
        int[] last = {1, 3, 2};
        for (int board = 0; board < 3; board++) {
            Due.due("freeForFirst(" + board + ")", x.freeForFirst(board), first[board]);
            Due.due("freeForLast(" + board + ")", x.freeForLast(board), last[board]);
        }
        x.putBack(2);
        for (int board = 0; board < 3; board++) {
            Due.due("freeForFirst(" + board + ") with 2 in service", x.freeForFirst(board), first[board] + 4);
            Due.due("freeForLast(" + board + ") with 2 in service", x.freeForLast(board), last[board] + 4);
        }
    }
}
