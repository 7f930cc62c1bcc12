/** Everything that can be seen of an object, in one text. */
final class Look {
    /** Something that is done to an object, and its answer. */
    interface Step {
        int on(ClosExchange x);
    }

    private Look() {
    }

    static String at(ClosExchange x) {
        return stateOf(x) + " 10=" + x.total(10) + " 11=" + x.total(11);
    }

    /** All but the lengths of the history and of the text. */
    static String stateOf(ClosExchange x) {
        StringBuilder seen = new StringBuilder();
        int boards = x.total(0);
        int lines = boards * x.total(1);
        int middles = x.total(2);
        for (int what = 0; what < 10; what++) {
            seen.append(what).append('=').append(x.total(what)).append(' ');
        }
        seen.append("in service ").append(x.inService()).append(" least ").append(x.leastMiddles());
        for (int inlet = 0; inlet < lines; inlet++) {
            int call = x.callOfInlet(inlet);
            seen.append(" i").append(call).append(" o").append(x.callOfOutlet(inlet));
            if (call >= 0) {
                seen.append(" (").append(x.inletOf(call)).append(' ').append(x.middleOf(call)).append(' ');
                seen.append(x.outletOf(call)).append(')');
            }
        }
        for (int board = 0; board < boards; board++) {
            seen.append(" free ").append(x.freeForFirst(board)).append(' ').append(x.freeForLast(board)).append(" on");
            for (int middle = 0; middle < middles; middle++) {
                seen.append(' ').append(x.onFirstLink(board, middle)).append(' ').append(x.onLastLink(middle, board));
            }
        }
        for (int middle = 0; middle < middles; middle++) {
            seen.append(" load ").append(x.load(middle));
        }
        return seen.toString();
    }

    /** The same, and the history, the snapshot and the text too, which the look uses up. For small networks. */
    static String deepInto(ClosExchange x) {
        StringBuilder seen = new StringBuilder(at(x));
        for (int left = x.undo(); left >= 0; left = x.undo()) {
            seen.append("\nundo ").append(left).append(' ').append(at(x));
        }
        seen.append("\nperform ").append(x.perform()).append(' ').append(at(x));
        seen.append("\nrestore ").append(x.restore()).append(' ').append(at(x));
        seen.append("\nclear ").append(x.clearText());
        return seen.toString();
    }

    private static ClosExchange made(Step setup) {
        ClosExchange x = new ClosExchange();
        setup.on(x);
        return x;
    }

    /** A step that answers an error or NONE leaves the object as it was. */
    static void changesNothing(String call, Step setup, Step step, int answer) {
        ClosExchange x = made(setup);
        Due.due(call, step.on(x), answer);
        Due.same("what is seen after " + call, deepInto(x), deepInto(made(setup)));
    }

    /** A step that is a change adds one state to the history, and undo() brings back what was before. */
    static void isChange(String call, Step setup, Step step, int answer) {
        ClosExchange x = made(setup);
        int states = x.total(10);
        Due.due("states ahead of " + call + ", fewer than 4", Math.min(states, 3), states);
        Due.due(call, step.on(x), answer);
        Due.due("total(10) after " + call, x.total(10), states + 1);
        Due.due("undo() after " + call, x.undo(), states);
        Due.same("what is seen after " + call + " and undo()", deepInto(x), deepInto(made(setup)));
    }

    /** A step that is no change leaves the history as it was. */
    static void isNoChange(String call, Step setup, Step step, int answer) {
        ClosExchange x = made(setup);
        ClosExchange y = made(setup);
        Due.due(call, step.on(x), answer);
        Due.due("total(10) after " + call, x.total(10), y.total(10));
        for (int left = y.undo(); left >= 0; left = y.undo()) {
            Due.due("undo() after " + call, x.undo(), left);
            Due.due("total(5) after " + call + " and undo()", x.total(5), y.total(5));
            Due.due("total(9) after " + call + " and undo()", x.total(9), y.total(9));
        }
        Due.due("undo() after " + call, x.undo(), ClosExchange.NONE);
    }
}
