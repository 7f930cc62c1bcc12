import java.util.ArrayDeque;
import java.util.ArrayList;
import java.util.List;
import java.util.TreeMap;
import java.util.regex.Matcher;
import java.util.regex.Pattern;

/**
 * The document told a second time, as plainly as possible and without regard to time or room: the
 * state is a map of calls by their numbers, and all else is looked up in it.
 */
final class Model {
    private static final int UNKNOWN = -1;
    private static final int OUT_OF_RANGE = -2;
    private static final int BUSY = -3;
    private static final int BLOCKED = -4;
    private static final int FULL = -5;
    private static final int NONE = -6;

    private record Call(int number, int inlet, int outlet, int via) {
        Call through(int middle) {
            return new Call(number, inlet, outlet, middle);
        }
    }

    private static final class State implements Cloneable {
        int boards = 4;
        int lines = 3;
        int middles = 3;
        int service = 7;
        int choiceRule;
        int pairRule;
        int connected;
        int ended;
        int dropped;
        int moved;
        TreeMap<Integer, Call> calls = new TreeMap<>();

        State copy() {
            try {
                State copy = (State) clone();
                copy.calls = new TreeMap<>(calls);
                return copy;
            } catch (CloneNotSupportedException e) {
                throw new AssertionError(e);
            }
        }
    }

    private State s = new State();
    private State snapshot;
    private final ArrayDeque<State> history = new ArrayDeque<>();
    private String text = "";

    private void record(State before) {
        history.addLast(before);
        if (history.size() > 4) {
            history.removeFirst();
        }
    }

    private int changed(State before, int answer) {
        if (answer < 0) {
            s = before;
        } else {
            record(before);
        }
        return answer;
    }

    private boolean noLine(int line) {
        return line < 0 || line >= s.boards * s.lines;
    }

    private Call ofInlet(int inlet) {
        return s.calls.values().stream().filter(c -> c.inlet == inlet).findFirst().orElse(null);
    }

    private Call ofOutlet(int outlet) {
        return s.calls.values().stream().filter(c -> c.outlet == outlet).findFirst().orElse(null);
    }

    private Call onFirst(int board, int middle) {
        return s.calls.values().stream().filter(c -> c.inlet / s.lines == board && c.via == middle).findFirst().orElse(null);
    }

    private Call onLast(int middle, int board) {
        return s.calls.values().stream().filter(c -> c.outlet / s.lines == board && c.via == middle).findFirst().orElse(null);
    }

    private List<Integer> serving() {
        List<Integer> serving = new ArrayList<>();
        for (int m = 0; m < s.middles; m++) {
            if ((s.service >> m & 1) == 1) {
                serving.add(m);
            }
        }
        return serving;
    }

    private List<Integer> freeFirst(int board) {
        List<Integer> free = serving();
        free.removeIf(m -> onFirst(board, m) != null);
        return free;
    }

    private List<Integer> freeLast(int board) {
        List<Integer> free = serving();
        free.removeIf(m -> onLast(m, board) != null);
        return free;
    }

    private int loadOf(int middle) {
        return (int) s.calls.values().stream().filter(c -> c.via == middle).count();
    }

    private List<Call> chain(int p, int q, int last) {
        List<Call> chain = new ArrayList<>();
        Call next = onLast(p, last);
        while (next != null) {
            chain.add(next);
            next = next.via == p ? onFirst(next.inlet / s.lines, q) : onLast(p, next.outlet / s.lines);
        }
        return chain;
    }

    /** The middle board for a call, or BLOCKED; puts the chain that is to be moved into moves. */
    private int route(int inlet, int outlet, List<Call> moves, int[] pair) {
        int f = inlet / s.lines;
        int t = outlet / s.lines;
        List<Integer> first = freeFirst(f);
        List<Integer> last = freeLast(t);
        List<Integer> both = new ArrayList<>(first);
        both.retainAll(last);
        if (!both.isEmpty()) {
            int best = both.get(0);
            for (int m : both) {
                if (s.choiceRule == 1 && loadOf(m) > loadOf(best) || s.choiceRule == 2 && loadOf(m) < loadOf(best)) {
                    best = m;
                }
            }
            return best;
        }
        if (first.isEmpty() || last.isEmpty()) {
            return BLOCKED;
        }
        pair[0] = first.get(0);
        pair[1] = last.get(0);
        if (s.pairRule == 1) {
            for (int p : first) {
                for (int q : last) {
                    if (chain(p, q, t).size() < chain(pair[0], pair[1], t).size()) {
                        pair[0] = p;
                        pair[1] = q;
                    }
                }
            }
        }
        moves.addAll(chain(pair[0], pair[1], t));
        return pair[0];
    }

    private int place(int number, int inlet, int outlet) {
        List<Call> moves = new ArrayList<>();
        int[] pair = new int[2];
        int via = route(inlet, outlet, moves, pair);
        if (via < 0) {
            return via;
        }
        for (Call call : moves) {
            s.calls.put(call.number, call.through(call.via == pair[0] ? pair[1] : pair[0]));
            s.moved++;
        }
        s.calls.put(number, new Call(number, inlet, outlet, via));
        return via;
    }

    private int dropsOf(List<Call> lifted) {
        int drops = 0;
        lifted.forEach(c -> s.calls.put(c.number, c.through(-1)));
        for (Call call : lifted) {
            // A call that is off its links is on none of them while it is routed.
            if (place(call.number, call.inlet, call.outlet) < 0) {
                s.calls.remove(call.number);
                drops++;
            } else {
                s.moved++;
            }
        }
        s.dropped += drops;
        return drops;
    }

    private int connectError(int inlet, int outlet) {
        if (noLine(inlet) || noLine(outlet)) {
            return UNKNOWN;
        }
        return ofInlet(inlet) != null || ofOutlet(outlet) != null ? BUSY : 0;
    }

    private int doConnect(int inlet, int outlet) {
        int error = connectError(inlet, outlet);
        if (error != 0) {
            return error;
        }
        int via = place(s.connected, inlet, outlet);
        if (via >= 0) {
            s.connected++;
        }
        return via;
    }

    private int doDisconnect(int inlet) {
        if (noLine(inlet)) {
            return UNKNOWN;
        }
        Call call = ofInlet(inlet);
        if (call == null) {
            return BUSY;
        }
        s.calls.remove(call.number);
        s.ended++;
        return call.number;
    }

    private int doTakeOut(int middle) {
        if (middle < 0 || middle >= s.middles) {
            return UNKNOWN;
        }
        if (!serving().contains(middle)) {
            return NONE;
        }
        s.service -= 1 << middle;
        List<Call> lifted = new ArrayList<>(s.calls.values());
        lifted.removeIf(c -> c.via != middle);
        return dropsOf(lifted);
    }

    private int doPutBack(int middle) {
        if (middle < 0 || middle >= s.middles) {
            return UNKNOWN;
        }
        if (serving().contains(middle)) {
            return NONE;
        }
        s.service += 1 << middle;
        return serving().size();
    }

    private int doPack() {
        if (s.calls.isEmpty()) {
            return NONE;
        }
        State before = s.copy();
        List<Integer> low = serving().subList(0, leastMiddles());
        s.service = 0;
        low.forEach(m -> s.service += 1 << m);
        if (dropsOf(new ArrayList<>(s.calls.values())) != 0) {
            throw new AssertionError("pack() dropped a call");
        }
        s.service = before.service;
        int changed = 0;
        for (Call call : before.calls.values()) {
            changed += s.calls.get(call.number).via != call.via ? 1 : 0;
        }
        s.moved = before.moved + changed;
        return changed;
    }

    int setUp(int boards, int lines, int middles) {
        if (boards < 2 || boards > 8 || lines < 1 || lines > 6 || middles < 1 || middles > 8) {
            return OUT_OF_RANGE;
        }
        State before = s.copy();
        int calls = s.calls.size();
        s.boards = boards;
        s.lines = lines;
        s.middles = middles;
        s.service = 0;
        for (int m = 0; m < middles; m++) {
            s.service += 1 << m;
        }
        s.ended += calls;
        s.calls.clear();
        return changed(before, calls);
    }

    int setChoiceRule(int rule) {
        State before = s.copy();
        int old = s.choiceRule;
        if (rule < 0 || rule > 2) {
            return OUT_OF_RANGE;
        }
        s.choiceRule = rule;
        return changed(before, old == rule ? NONE : old);
    }

    int setPairRule(int rule) {
        State before = s.copy();
        int old = s.pairRule;
        if (rule < 0 || rule > 1) {
            return OUT_OF_RANGE;
        }
        s.pairRule = rule;
        return changed(before, old == rule ? NONE : old);
    }

    int connect(int inlet, int outlet) {
        State before = s.copy();
        return changed(before, doConnect(inlet, outlet));
    }

    int disconnect(int inlet) {
        State before = s.copy();
        return changed(before, doDisconnect(inlet));
    }

    int takeOut(int middle) {
        State before = s.copy();
        return changed(before, doTakeOut(middle));
    }

    int putBack(int middle) {
        State before = s.copy();
        return changed(before, doPutBack(middle));
    }

    int pack() {
        State before = s.copy();
        return changed(before, doPack());
    }

    int type(char character) {
        if (text.length() == 60) {
            return FULL;
        }
        text += character;
        return text.length();
    }

    int clearText() {
        int length = text.length();
        text = "";
        return length;
    }

    private static final String NUMBER = "(?:0|[1-3][0-9]?|4[0-7]?|[5-9])";
    private static final String ORDER = "(?:c" + NUMBER + "-" + NUMBER + "|d" + NUMBER + "|[oi][0-7]|p)";
    private static final Pattern TEXT = Pattern.compile(ORDER + "(?:;" + ORDER + ")*", Pattern.DOTALL);

    /** A text is allowed so far if some ending makes it a whole one. */
    private static boolean canBegin(String begun) {
        for (String ending : new String[] {"", "0", "-0", "0-0", "p"}) {
            Matcher matcher = TEXT.matcher(begun + ending);
            if (matcher.matches()) {
                return true;
            }
        }
        return false;
    }

    private int fault() {
        for (int k = 0; k < text.length(); k++) {
            if (!canBegin(text.substring(0, k + 1))) {
                return k;
            }
        }
        return TEXT.matcher(text).matches() ? NONE : text.length();
    }

    private int obey(String order) {
        String rest = order.substring(1);
        switch (order.charAt(0)) {
            case 'c':
                String[] lines = rest.split("-");
                return doConnect(Integer.parseInt(lines[0]), Integer.parseInt(lines[1]));
            case 'd': return doDisconnect(Integer.parseInt(rest));
            case 'o': return doTakeOut(Integer.parseInt(rest));
            case 'i': return doPutBack(Integer.parseInt(rest));
            default: return doPack();
        }
    }

    int perform() {
        int fault = fault();
        if (fault != NONE) {
            return -100 - fault;
        }
        State before = s.copy();
        String[] orders = text.split(";");
        for (String order : orders) {
            int answer = obey(order);
            if (answer < 0 && answer != NONE) {
                return changed(before, answer);
            }
        }
        return changed(before, orders.length);
    }

    int undo() {
        if (history.isEmpty()) {
            return NONE;
        }
        s = history.removeLast();
        return history.size();
    }

    int keep() {
        snapshot = s.copy();
        return s.calls.size();
    }

    int restore() {
        if (snapshot == null) {
            return NONE;
        }
        record(s);
        s = snapshot.copy();
        return s.calls.size();
    }

    private static int numberOf(Call call) {
        return call == null ? NONE : call.number;
    }

    int callOfInlet(int inlet) {
        return noLine(inlet) ? UNKNOWN : numberOf(ofInlet(inlet));
    }

    int callOfOutlet(int outlet) {
        return noLine(outlet) ? UNKNOWN : numberOf(ofOutlet(outlet));
    }

    int inletOf(int call) {
        return s.calls.containsKey(call) ? s.calls.get(call).inlet : UNKNOWN;
    }

    int outletOf(int call) {
        return s.calls.containsKey(call) ? s.calls.get(call).outlet : UNKNOWN;
    }

    int middleOf(int call) {
        return s.calls.containsKey(call) ? s.calls.get(call).via : UNKNOWN;
    }

    private boolean noBoard(int board) {
        return board < 0 || board >= s.boards;
    }

    private boolean noMiddle(int middle) {
        return middle < 0 || middle >= s.middles;
    }

    int onFirstLink(int board, int middle) {
        return noBoard(board) || noMiddle(middle) ? UNKNOWN : numberOf(onFirst(board, middle));
    }

    int onLastLink(int middle, int board) {
        return noBoard(board) || noMiddle(middle) ? UNKNOWN : numberOf(onLast(middle, board));
    }

    int load(int middle) {
        return noMiddle(middle) ? UNKNOWN : loadOf(middle);
    }

    private static int bits(List<Integer> set) {
        return set.stream().mapToInt(m -> 1 << m).sum();
    }

    int freeForFirst(int board) {
        return noBoard(board) ? UNKNOWN : bits(freeFirst(board));
    }

    int freeForLast(int board) {
        return noBoard(board) ? UNKNOWN : bits(freeLast(board));
    }

    int inService() {
        return s.service;
    }

    int total(int what) {
        int[] totals = {s.boards, s.lines, s.middles, s.choiceRule, s.pairRule, s.calls.size(), s.connected,
            s.ended, s.dropped, s.moved, history.size(), text.length()};
        return what < 0 || what >= totals.length ? OUT_OF_RANGE : totals[what];
    }

    int wouldMove(int inlet, int outlet) {
        int error = connectError(inlet, outlet);
        List<Call> moves = new ArrayList<>();
        if (error == 0) {
            error = Math.min(0, route(inlet, outlet, moves, new int[2]));
        }
        return error != 0 ? error : moves.size();
    }

    int chainCall(int inlet, int outlet, int index) {
        int count = wouldMove(inlet, outlet);
        if (count < 0) {
            return count;
        }
        if (index < 0) {
            return OUT_OF_RANGE;
        }
        List<Call> moves = new ArrayList<>();
        route(inlet, outlet, moves, new int[2]);
        return index < count ? moves.get(index).number : NONE;
    }

    int reason(int inlet, int outlet) {
        if (noLine(inlet) || noLine(outlet)) {
            return UNKNOWN;
        }
        if (ofInlet(inlet) != null) {
            return 2;
        }
        if (ofOutlet(outlet) != null) {
            return 3;
        }
        if (freeFirst(inlet / s.lines).isEmpty()) {
            return 4;
        }
        if (freeLast(outlet / s.lines).isEmpty()) {
            return 5;
        }
        return wouldMove(inlet, outlet) == 0 ? 0 : 1;
    }

    int leastMiddles() {
        int[] first = new int[s.boards];
        int[] last = new int[s.boards];
        int most = 0;
        for (Call call : s.calls.values()) {
            most = Math.max(most, ++first[call.inlet / s.lines]);
            most = Math.max(most, ++last[call.outlet / s.lines]);
        }
        return most;
    }

    int wouldDrop(int middle) {
        State before = s.copy();
        int answer = doTakeOut(middle);
        s = before;
        return answer;
    }

    int reachable(int inlet) {
        if (noLine(inlet)) {
            return UNKNOWN;
        }
        if (ofInlet(inlet) != null) {
            return BUSY;
        }
        int count = 0;
        for (int outlet = 0; outlet < s.boards * s.lines; outlet++) {
            count += reason(inlet, outlet) == 0 ? 1 : 0;
        }
        return count;
    }
}
