/** Compares answers with those that are due, and ends a test program. */
final class Due {
    private static int checked = 0;
    private static int wrong = 0;
    private static String about = "";

    private Due() {
    }

    /** What the checks from here on are about; it stands ahead of what they print. */
    static void about(String words) {
        about = words + ": ";
    }

    static void due(String call, long got, long want) {
        checked++;
        if (got != want) {
            wrong++;
            System.out.println(about + call + " answered " + got + ", due is " + want);
        }
    }

    static void same(String what, String got, String want) {
        checked++;
        if (!got.equals(want)) {
            wrong++;
            System.out.println(about + what + " is\n" + got + "\ndue is\n" + want);
        }
    }

    static void end(String test) {
        System.out.println(test + ": " + checked + " answers, " + wrong + " of them wrong");
        if (wrong != 0 || checked == 0) {
            System.exit(1);
        }
    }

    /** A network of that size without calls. */
    static ClosExchange network(int boards, int lines, int middles) {
        ClosExchange x = new ClosExchange();
        x.setUp(boards, lines, middles);
        return x;
    }

    static void type(ClosExchange x, String text) {
        for (char character : text.toCharArray()) {
            x.type(character);
        }
    }

    /** What perform() answers on that text alone. */
    static int perform(ClosExchange x, String text) {
        x.clearText();
        type(x, text);
        return x.perform();
    }

    /**
     * A network with calls, each told by its inlet, its outlet and its middle board, the greatest middle
     * board first: each board is put back when its calls come, and so it is the least that is free.
     */
    static ClosExchange built(int boards, int lines, int middles, int[][] calls) {
        ClosExchange x = network(boards, lines, middles);
        for (int middle = 0; middle < middles; middle++) {
            x.takeOut(middle);
        }
        int call = 0;
        for (int middle = middles - 1; middle >= 0; middle--) {
            x.putBack(middle);
            for (; call < calls.length && calls[call][2] == middle; call++) {
                due("the middle board of call " + call, x.connect(calls[call][0], calls[call][1]), middle);
            }
        }
        due("calls that were built", call, calls.length);
        return x;
    }

    /**
     * Call 0 (inlet 0) and call 1 (inlet 4) go through middle board 2, call 2 (inlet 3) through 0 and
     * call 3 (inlet 6) through 1. A call from 1 to 2 has the pairs 0, 2 (calls 2 and 1 are moved) and
     * 1, 2 (call 3 is moved).
     */
    static ClosExchange twoPairs() {
        ClosExchange x = new ClosExchange();
        x.takeOut(0);
        x.takeOut(1);
        due("connect(0, 3)", x.connect(0, 3), 2);
        due("connect(4, 6)", x.connect(4, 6), 2);
        x.putBack(0);
        x.putBack(1);
        due("connect(3, 0)", x.connect(3, 0), 0);
        due("connect(6, 1)", x.connect(6, 1), 1);
        return x;
    }
}
