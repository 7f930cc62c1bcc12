import java.util.Arrays;

/** A rearrangeable three-stage Clos switching network; README.md tells how to use it. */
public final class ClosExchange {
    public static final int UNKNOWN = -1;
    public static final int OUT_OF_RANGE = -2;
    public static final int BUSY = -3;
    public static final int BLOCKED = -4;
    public static final int FULL = -5;
    public static final int NONE = -6;

    private static final int LEAST_BOARDS = 2;
    private static final int MOST_BOARDS = 8;
    private static final int MOST_LINES = 6;
    private static final int MOST_MIDDLES = 8;
    private static final int MOST_CALLS = MOST_BOARDS * MOST_LINES;
    private static final int MOST_LINKS = MOST_BOARDS * MOST_MIDDLES;
    private static final int MOST_IN_CHAIN = 2 * MOST_BOARDS;
    private static final int GREATEST_LINE = 47;
    private static final int GREATEST_MIDDLE = 7;
    private static final int TEXT_ROOM = 60;
    private static final int HISTORY_ROOM = 4;
    private static final int FAULT_BASE = -100;

    private final Network network;
    /** The state before the change that is being made. */
    private final Network before;
    private final Network snapshot;
    /** A copy on which wouldDrop() tries things out. */
    private final Network trial;
    private final Router router;
    private final History history;
    private final OrderText text;
    private boolean kept;

    public ClosExchange() {
        network = new Network();
        before = new Network();
        snapshot = new Network();
        trial = new Network();
        router = new Router();
        history = new History();
        text = new OrderText();
        kept = false;
    }

    // ---- the network

    public int setUp(int boards, int lines, int middles) {
        if (!within(boards, LEAST_BOARDS, MOST_BOARDS) || !within(lines, 1, MOST_LINES)
                || !within(middles, 1, MOST_MIDDLES)) {
            return OUT_OF_RANGE;
        }
        history.push(network);
        return network.rebuild(boards, lines, middles);
    }

    public int setChoiceRule(int rule) {
        if (!within(rule, 0, 2)) {
            return OUT_OF_RANGE;
        }
        int previous = network.choiceRule;
        if (rule == previous) {
            return NONE;
        }
        history.push(network);
        network.choiceRule = rule;
        return previous;
    }

    public int setPairRule(int rule) {
        if (!within(rule, 0, 1)) {
            return OUT_OF_RANGE;
        }
        int previous = network.pairRule;
        if (rule == previous) {
            return NONE;
        }
        history.push(network);
        network.pairRule = rule;
        return previous;
    }

    // ---- calls

    public int connect(int inlet, int outlet) {
        before.copyFrom(network);
        return recorded(router.join(network, inlet, outlet));
    }

    public int disconnect(int inlet) {
        before.copyFrom(network);
        return recorded(router.part(network, inlet));
    }

    public int takeOut(int middle) {
        before.copyFrom(network);
        return recorded(router.retire(network, middle));
    }

    public int putBack(int middle) {
        before.copyFrom(network);
        return recorded(router.revive(network, middle));
    }

    public int pack() {
        before.copyFrom(network);
        return recorded(router.repack(network));
    }

    // ---- texts

    public int type(char character) {
        return text.append(character);
    }

    public int clearText() {
        int length = text.length;
        text.length = 0;
        return length;
    }

    public int perform() {
        int fault = text.findFault();
        if (fault != NONE) {
            return FAULT_BASE - fault;
        }
        before.copyFrom(network);
        int orders = 0;
        text.rewind();
        while (orders <= TEXT_ROOM && text.readOrder()) {
            int answer = obey();
            if (answer < 0 && answer != NONE) {
                network.copyFrom(before);
                return answer;
            }
            orders++;
            text.skip(';');
        }
        return recorded(orders);
    }

    // ---- history

    public int undo() {
        return history.takeBack(network);
    }

    public int keep() {
        snapshot.copyFrom(network);
        kept = true;
        return network.countCalls();
    }

    public int restore() {
        if (!kept) {
            return NONE;
        }
        history.push(network);
        network.copyFrom(snapshot);
        return network.countCalls();
    }

    // ---- what there is

    public int callOfInlet(int inlet) {
        return network.isLine(inlet) ? network.numbers.get(inlet) : UNKNOWN;
    }

    public int callOfOutlet(int outlet) {
        if (!network.isLine(outlet)) {
            return UNKNOWN;
        }
        return network.numbers.get(network.inlets.get(outlet));
    }

    public int inletOf(int call) {
        return network.findInlet(call);
    }

    public int outletOf(int call) {
        int inlet = network.findInlet(call);
        return inlet < 0 ? UNKNOWN : network.outlets.get(inlet);
    }

    public int middleOf(int call) {
        int inlet = network.findInlet(call);
        return inlet < 0 ? UNKNOWN : network.vias.get(inlet);
    }

    public int onFirstLink(int board, int middle) {
        if (!network.isBoard(board) || !network.isMiddle(middle)) {
            return UNKNOWN;
        }
        return network.numbers.get(network.firstLinks.get(link(board, middle)));
    }

    public int onLastLink(int middle, int board) {
        if (!network.isMiddle(middle) || !network.isBoard(board)) {
            return UNKNOWN;
        }
        return network.numbers.get(network.lastLinks.get(link(board, middle)));
    }

    public int load(int middle) {
        return network.isMiddle(middle) ? network.loadOf(middle) : UNKNOWN;
    }

    public int freeForFirst(int board) {
        return network.isBoard(board) ? network.freeOnLinks(network.firstLinks, board) : UNKNOWN;
    }

    public int freeForLast(int board) {
        return network.isBoard(board) ? network.freeOnLinks(network.lastLinks, board) : UNKNOWN;
    }

    public int inService() {
        return network.service;
    }

    public int total(int what) {
        switch (what) {
            case 0: return network.boards;
            case 1: return network.lines;
            case 2: return network.middles;
            case 3: return network.choiceRule;
            case 4: return network.pairRule;
            case 5: return network.countCalls();
            case 6: return network.connected;
            case 7: return network.ended;
            case 8: return network.dropped;
            case 9: return network.moved;
            case 10: return history.count;
            case 11: return text.length;
            default: return OUT_OF_RANGE;
        }
    }

    // ---- what would be; nothing changes

    public int wouldMove(int inlet, int outlet) {
        int via = router.tryCall(network, inlet, outlet);
        return via < 0 ? via : router.chainLength;
    }

    public int chainCall(int inlet, int outlet, int index) {
        int via = router.tryCall(network, inlet, outlet);
        if (via < 0) {
            return via;
        }
        if (index < 0) {
            return OUT_OF_RANGE;
        }
        return index < router.chainLength ? network.numbers.get(router.chain.get(index)) : NONE;
    }

    public int reason(int inlet, int outlet) {
        if (!network.isLine(inlet) || !network.isLine(outlet)) {
            return UNKNOWN;
        }
        if (network.isInletBusy(inlet)) {
            return 2;
        }
        if (network.isOutletBusy(outlet)) {
            return 3;
        }
        int first = network.freeOnLinks(network.firstLinks, network.boardOf(inlet));
        int last = network.freeOnLinks(network.lastLinks, network.boardOf(outlet));
        if (first == 0) {
            return 4;
        }
        if (last == 0) {
            return 5;
        }
        return (first & last) != 0 ? 0 : 1;
    }

    public int leastMiddles() {
        return network.fullestBoard();
    }

    public int wouldDrop(int middle) {
        trial.copyFrom(network);
        return router.retire(trial, middle);
    }

    public int reachable(int inlet) {
        if (!network.isLine(inlet)) {
            return UNKNOWN;
        }
        if (network.isInletBusy(inlet)) {
            return BUSY;
        }
        int first = network.freeOnLinks(network.firstLinks, network.boardOf(inlet));
        int count = 0;
        for (int outlet = 0; outlet < MOST_CALLS; outlet++) {
            if (network.isLine(outlet) && !network.isOutletBusy(outlet)) {
                int last = network.freeOnLinks(network.lastLinks, network.boardOf(outlet));
                count += (first & last) != 0 ? 1 : 0;
            }
        }
        return count;
    }

    // ---- private helpers

    private static boolean within(int value, int least, int most) {
        return value >= least && value <= most;
    }

    private static boolean hasBit(int bits, int bit) {
        return (bits & (1 << bit)) != 0;
    }

    private static int link(int board, int middle) {
        return board * MOST_MIDDLES + middle;
    }

    /** Puts the state before a change into the history, unless the answer tells that nothing changed. */
    private int recorded(int answer) {
        if (answer >= 0) {
            history.push(before);
        }
        return answer;
    }

    /** Carries out the order that was read last from the text. */
    private int obey() {
        switch (text.kind) {
            case 'c': return router.join(network, text.first, text.second);
            case 'd': return router.part(network, text.first);
            case 'o': return router.retire(network, text.first);
            case 'i': return router.revive(network, text.first);
            case 'p': return router.repack(network);
            default: return NONE;
        }
    }

    /** A row of numbers, NONE at first; a place outside of it is always NONE. */
    private static final class Row {
        private final int[] cells;

        Row(int size) {
            cells = new int[Math.max(size, 0)];
            Arrays.fill(cells, NONE);
        }

        int get(int place) {
            return place >= 0 && place < cells.length ? cells[place] : NONE;
        }

        void set(int place, int value) {
            if (place >= 0 && place < cells.length) {
                cells[place] = value;
            }
        }

        void empty() {
            Arrays.fill(cells, NONE);
        }

        void copyFrom(Row other) {
            System.arraycopy(other.cells, 0, cells, 0, Math.min(cells.length, other.cells.length));
        }
    }

    /**
     * The state: boards, calls, links, rules and counts. A call is found by its inlet, because
     * at most 48 calls stand at a time, while their numbers grow without a bound.
     */
    private static final class Network {
        int boards;
        int lines;
        int middles;
        int service;
        int choiceRule;
        int pairRule;
        int connected;
        int ended;
        int dropped;
        int moved;
        /** By inlet: the number, the outlet and the middle board of its call. */
        final Row numbers;
        final Row outlets;
        final Row vias;
        /** By outlet: the inlet of its call. */
        final Row inlets;
        /** By link(): the inlet of the call that the link carries. */
        final Row firstLinks;
        final Row lastLinks;

        Network() {
            boards = 4;
            lines = 3;
            middles = 3;
            service = 7;
            numbers = new Row(MOST_CALLS);
            outlets = new Row(MOST_CALLS);
            vias = new Row(MOST_CALLS);
            inlets = new Row(MOST_CALLS);
            firstLinks = new Row(MOST_LINKS);
            lastLinks = new Row(MOST_LINKS);
        }

        void copyFrom(Network other) {
            boards = other.boards;
            lines = other.lines;
            middles = other.middles;
            service = other.service;
            choiceRule = other.choiceRule;
            pairRule = other.pairRule;
            connected = other.connected;
            ended = other.ended;
            dropped = other.dropped;
            moved = other.moved;
            numbers.copyFrom(other.numbers);
            outlets.copyFrom(other.outlets);
            vias.copyFrom(other.vias);
            inlets.copyFrom(other.inlets);
            firstLinks.copyFrom(other.firstLinks);
            lastLinks.copyFrom(other.lastLinks);
        }

        /** Ends all calls and answers how many there were. */
        int rebuild(int newBoards, int newLines, int newMiddles) {
            int calls = countCalls();
            ended += calls;
            boards = newBoards;
            lines = newLines;
            middles = newMiddles;
            service = (1 << newMiddles) - 1;
            numbers.empty();
            outlets.empty();
            vias.empty();
            inlets.empty();
            firstLinks.empty();
            lastLinks.empty();
            return calls;
        }

        boolean isLine(int line) {
            return line >= 0 && line < boards * lines;
        }

        boolean isBoard(int board) {
            return board >= 0 && board < boards;
        }

        boolean isMiddle(int middle) {
            return middle >= 0 && middle < middles;
        }

        boolean isInletBusy(int inlet) {
            return numbers.get(inlet) >= 0;
        }

        boolean isOutletBusy(int outlet) {
            return inlets.get(outlet) >= 0;
        }

        int boardOf(int line) {
            return lines > 0 ? line / lines : 0;
        }

        int countCalls() {
            int count = 0;
            for (int inlet = 0; inlet < MOST_CALLS; inlet++) {
                count += numbers.get(inlet) >= 0 ? 1 : 0;
            }
            return count;
        }

        /** The inlet of the call with this number, or UNKNOWN. */
        int findInlet(int call) {
            if (call < 0) {
                return UNKNOWN;
            }
            for (int inlet = 0; inlet < MOST_CALLS; inlet++) {
                if (numbers.get(inlet) == call) {
                    return inlet;
                }
            }
            return UNKNOWN;
        }

        int loadOf(int middle) {
            int load = 0;
            for (int board = 0; board < boards; board++) {
                load += firstLinks.get(link(board, middle)) >= 0 ? 1 : 0;
            }
            return load;
        }

        /** The middle boards, as bits, that are in service and have no call on the board's links. */
        int freeOnLinks(Row links, int board) {
            int free = 0;
            for (int middle = 0; middle < middles; middle++) {
                if (links.get(link(board, middle)) < 0) {
                    free |= 1 << middle;
                }
            }
            return free & service;
        }

        /** The greatest number of calls on one first or last board. */
        int fullestBoard() {
            int most = 0;
            for (int board = 0; board < boards; board++) {
                int onFirst = 0;
                int onLast = 0;
                for (int line = board * lines; line < (board + 1) * lines; line++) {
                    onFirst += isInletBusy(line) ? 1 : 0;
                    onLast += isOutletBusy(line) ? 1 : 0;
                }
                most = Math.max(most, Math.max(onFirst, onLast));
            }
            return most;
        }

        /** Makes a call that is on no links yet. */
        void addCall(int inlet, int outlet) {
            numbers.set(inlet, connected);
            outlets.set(inlet, outlet);
            inlets.set(outlet, inlet);
            connected++;
        }

        void removeCall(int inlet) {
            liftCall(inlet);
            inlets.set(outlets.get(inlet), NONE);
            outlets.set(inlet, NONE);
            numbers.set(inlet, NONE);
        }

        void carryCall(int inlet, int middle) {
            vias.set(inlet, middle);
            firstLinks.set(link(boardOf(inlet), middle), inlet);
            lastLinks.set(link(boardOf(outlets.get(inlet)), middle), inlet);
        }

        /** Takes a call off its links, if it is on any. */
        void liftCall(int inlet) {
            int middle = vias.get(inlet);
            if (middle >= 0) {
                firstLinks.set(link(boardOf(inlet), middle), NONE);
                lastLinks.set(link(boardOf(outlets.get(inlet)), middle), NONE);
                vias.set(inlet, NONE);
            }
        }

        /** The inlet of the call off its links that has the least number, or NONE. */
        int firstLifted() {
            int found = NONE;
            for (int inlet = 0; inlet < MOST_CALLS; inlet++) {
                if (isInletBusy(inlet) && vias.get(inlet) < 0
                        && (found < 0 || numbers.get(inlet) < numbers.get(found))) {
                    found = inlet;
                }
            }
            return found;
        }
    }

    /** Finds ways through a network, and carries out what is done to its calls. */
    private static final class Router {
        /** The chain that was followed last: inlets of calls, in turn through pairP and pairQ. */
        final Row chain;
        int chainLength;
        private int pairP;
        private int pairQ;
        /** By inlet: the middle board ahead of a repacking. */
        private final Row formerVias;

        Router() {
            chain = new Row(MOST_IN_CHAIN);
            formerVias = new Row(MOST_CALLS);
        }

        int join(Network network, int inlet, int outlet) {
            int via = tryCall(network, inlet, outlet);
            if (via < 0) {
                return via;
            }
            network.addCall(inlet, outlet);
            settle(network, inlet, via);
            return via;
        }

        int part(Network network, int inlet) {
            if (!network.isLine(inlet)) {
                return UNKNOWN;
            }
            if (!network.isInletBusy(inlet)) {
                return BUSY;
            }
            int call = network.numbers.get(inlet);
            network.removeCall(inlet);
            network.ended++;
            return call;
        }

        int retire(Network network, int middle) {
            if (!network.isMiddle(middle)) {
                return UNKNOWN;
            }
            if (!hasBit(network.service, middle)) {
                return NONE;
            }
            network.service &= ~(1 << middle);
            for (int inlet = 0; inlet < MOST_CALLS; inlet++) {
                if (network.vias.get(inlet) == middle) {
                    network.liftCall(inlet);
                }
            }
            return reroute(network);
        }

        int revive(Network network, int middle) {
            if (!network.isMiddle(middle)) {
                return UNKNOWN;
            }
            if (hasBit(network.service, middle)) {
                return NONE;
            }
            network.service |= 1 << middle;
            return Integer.bitCount(network.service);
        }

        int repack(Network network) {
            if (network.countCalls() == 0) {
                return NONE;
            }
            int service = network.service;
            int moved = network.moved;
            network.service = lowestBits(service, network.fullestBoard());
            formerVias.copyFrom(network.vias);
            for (int inlet = 0; inlet < MOST_CALLS; inlet++) {
                network.liftCall(inlet);
            }
            reroute(network);
            network.service = service;
            int changed = countChanged(network);
            // Here a call counts once at most, however often it went through a chain.
            network.moved = moved + changed;
            return changed;
        }

        /** Finds the way of a call that connect() would make: its middle board or an error. */
        int tryCall(Network network, int inlet, int outlet) {
            if (!network.isLine(inlet) || !network.isLine(outlet)) {
                return UNKNOWN;
            }
            if (network.isInletBusy(inlet) || network.isOutletBusy(outlet)) {
                return BUSY;
            }
            return findWay(network, inlet, outlet);
        }

        /** Routes the calls that are off their links, by their numbers, and answers how many it drops. */
        private int reroute(Network network) {
            int drops = 0;
            for (int step = 0; step < MOST_CALLS; step++) {
                int inlet = network.firstLifted();
                if (inlet < 0) {
                    break;
                }
                int via = findWay(network, inlet, network.outlets.get(inlet));
                if (via < 0) {
                    network.removeCall(inlet);
                    drops++;
                } else {
                    settle(network, inlet, via);
                    network.moved++;
                }
            }
            network.dropped += drops;
            return drops;
        }

        /** Answers the middle board for a call, or BLOCKED; leaves the chain that must be moved. */
        private int findWay(Network network, int inlet, int outlet) {
            chainLength = 0;
            int last = network.boardOf(outlet);
            int freeFirst = network.freeOnLinks(network.firstLinks, network.boardOf(inlet));
            int freeLast = network.freeOnLinks(network.lastLinks, last);
            if ((freeFirst & freeLast) != 0) {
                return choose(network, freeFirst & freeLast);
            }
            if (freeFirst == 0 || freeLast == 0) {
                return BLOCKED;
            }
            findPair(network, freeFirst, freeLast, last);
            return pairP;
        }

        /** The middle board among the candidates that the choice rule prefers. */
        private int choose(Network network, int candidates) {
            int worthOfLoad = network.choiceRule == 1 ? 1 : network.choiceRule == 2 ? -1 : 0;
            int best = NONE;
            int bestWorth = 0;
            for (int middle = 0; middle < MOST_MIDDLES; middle++) {
                if (hasBit(candidates, middle)) {
                    int worth = worthOfLoad * network.loadOf(middle);
                    if (best < 0 || worth > bestWorth) {
                        best = middle;
                        bestWorth = worth;
                    }
                }
            }
            return best;
        }

        /** Leaves the chain of the pair that the pair rule prefers. */
        private void findPair(Network network, int freeFirst, int freeLast, int last) {
            int bestP = NONE;
            int bestQ = NONE;
            int bestLength = 0;
            for (int pair = 0; pair < MOST_MIDDLES * MOST_MIDDLES; pair++) {
                int p = pair / MOST_MIDDLES;
                int q = pair % MOST_MIDDLES;
                if (hasBit(freeFirst, p) && hasBit(freeLast, q)) {
                    follow(network, p, q, last);
                    if (bestP < 0 || (network.pairRule == 1 && chainLength < bestLength)) {
                        bestP = p;
                        bestQ = q;
                        bestLength = chainLength;
                    }
                }
            }
            follow(network, bestP, bestQ, last);
        }

        private void follow(Network network, int p, int q, int last) {
            pairP = p;
            pairQ = q;
            chainLength = 0;
            int board = last;
            for (int place = 0; place < MOST_IN_CHAIN; place++) {
                boolean throughP = place % 2 == 0;
                int inlet = throughP ? network.lastLinks.get(link(board, p))
                        : network.firstLinks.get(link(board, q));
                if (inlet < 0) {
                    break;
                }
                chain.set(place, inlet);
                chainLength++;
                board = network.boardOf(throughP ? inlet : network.outlets.get(inlet));
            }
        }

        /** Moves the chain, and then puts a call on its links. */
        private void settle(Network network, int inlet, int via) {
            // All leave their links first, since each goes to links that another one holds.
            for (int place = 0; place < chainLength; place++) {
                network.liftCall(chain.get(place));
            }
            for (int place = 0; place < chainLength; place++) {
                network.carryCall(chain.get(place), place % 2 == 0 ? pairQ : pairP);
            }
            network.moved += chainLength;
            network.carryCall(inlet, via);
        }

        private int countChanged(Network network) {
            int changed = 0;
            for (int inlet = 0; inlet < MOST_CALLS; inlet++) {
                changed += network.vias.get(inlet) != formerVias.get(inlet) ? 1 : 0;
            }
            return changed;
        }

        private static int lowestBits(int bits, int count) {
            int lowest = 0;
            int taken = 0;
            for (int bit = 0; bit < MOST_MIDDLES && taken < count; bit++) {
                if (hasBit(bits, bit)) {
                    lowest |= 1 << bit;
                    taken++;
                }
            }
            return lowest;
        }
    }

    /** The latest states, in a ring, so that a new one takes the place of the oldest. */
    private static final class History {
        private final Network[] states;
        private int latest;
        int count;

        History() {
            states = new Network[HISTORY_ROOM];
            for (int place = 0; place < states.length; place++) {
                states[place] = new Network();
            }
        }

        void push(Network network) {
            latest = (latest + 1) % HISTORY_ROOM;
            Network state = latestState();
            if (state != null) {
                state.copyFrom(network);
                count = Math.min(count + 1, HISTORY_ROOM);
            }
        }

        /** Restores the latest state into a network, and answers how many are left, or NONE. */
        int takeBack(Network network) {
            Network state = latestState();
            if (count == 0 || state == null) {
                return NONE;
            }
            network.copyFrom(state);
            latest = (latest + HISTORY_ROOM - 1) % HISTORY_ROOM;
            count--;
            return count;
        }

        private Network latestState() {
            return latest >= 0 && latest < states.length ? states[latest] : null;
        }
    }

    /** The text, and a reader that goes through its orders. */
    private static final class OrderText {
        private final Row signs;
        int length;
        private int place;
        /** The order that was read last: its letter and its numbers. */
        int kind;
        int first;
        int second;

        OrderText() {
            signs = new Row(TEXT_ROOM);
        }

        int append(int sign) {
            if (length >= TEXT_ROOM) {
                return FULL;
            }
            signs.set(length, sign);
            length++;
            return length;
        }

        void rewind() {
            place = 0;
        }

        /** The fault of the text, or NONE. */
        int findFault() {
            rewind();
            for (int order = 0; order < TEXT_ROOM && readOrder(); order++) {
                if (place >= length) {
                    return NONE;
                }
                if (!skip(';')) {
                    return place;
                }
            }
            return place;
        }

        /** Reads one order; if there is none, the reader stops at the first sign that is not allowed. */
        boolean readOrder() {
            kind = sign();
            switch (kind) {
                case 'c':
                    place++;
                    first = readNumber(GREATEST_LINE);
                    if (first < 0 || !skip('-')) {
                        return false;
                    }
                    second = readNumber(GREATEST_LINE);
                    return second >= 0;
                case 'd':
                    place++;
                    first = readNumber(GREATEST_LINE);
                    return first >= 0;
                case 'o':
                case 'i':
                    place++;
                    first = readNumber(GREATEST_MIDDLE);
                    return first >= 0;
                case 'p':
                    place++;
                    return true;
                default:
                    return false;
            }
        }

        /** Goes on behind a sign, if it stands here. */
        boolean skip(int wanted) {
            if (sign() != wanted) {
                return false;
            }
            place++;
            return true;
        }

        private int sign() {
            return place < length ? signs.get(place) : NONE;
        }

        /** Reads digits as long as they are allowed; NONE if the first one is not. */
        private int readNumber(int greatest) {
            int number = NONE;
            // No number has more digits than the text has signs.
            for (int digits = 0; digits < TEXT_ROOM; digits++) {
                int digit = sign() - '0';
                if (digit < 0 || digit > 9 || number == 0) {
                    break;
                }
                int longer = Math.max(number, 0) * 10 + digit;
                if (longer > greatest) {
                    break;
                }
                number = longer;
                place++;
            }
            return number;
        }
    }
}
