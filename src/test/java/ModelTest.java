import java.util.Random;

/** Long runs of calls, made up from fixed seeds: the class answers each as the model does. */
public final class ModelTest {
    private static final int RUNS = 1500;
    private static final int CALLS = 512;
    private static final int[] ODD = {-1, -6, -7, 48, 60, Integer.MIN_VALUE, Integer.MAX_VALUE};

    private final Random random;
    private final ClosExchange x = new ClosExchange();
    private final Model m = new Model();
    private final String run;
    private int calls = 0;

    private ModelTest(int seed) {
        random = new Random(seed);
        run = "run " + seed;
    }

    public static void main(String[] args) {
        for (int seed = 0; seed < RUNS; seed++) {
            new ModelTest(seed).goThrough(seed % 6);
        }
        Due.end("ModelTest");
    }

    private void due(String call, int got, int want) {
        calls++;
        Due.due(run + ", call " + calls + ": " + call, got, want);
    }

    /** Some kinds of runs stay in one full network, so that there are long chains and drops. */
    private void goThrough(int kind) {
        if (kind != 0) {
            setUp(2 + random.nextInt(7), 1 + random.nextInt(6));
        }
        if (random.nextInt(3) != 0) {
            int choice = random.nextInt(3);
            due("setChoiceRule(" + choice + ")", x.setChoiceRule(choice), m.setChoiceRule(choice));
            int pair = random.nextInt(2);
            due("setPairRule(" + pair + ")", x.setPairRule(pair), m.setPairRule(pair));
        }
        while (calls < CALLS) {
            int dice = random.nextInt(100);
            if (dice < (kind > 2 ? 50 : 30)) {
                connect();
            } else if (dice < 75) {
                change(dice, kind);
            } else if (dice < 80 && calls < CALLS - 62) {
                text();
            } else {
                look(random.nextInt(18));
            }
        }
    }

    private void setUp(int boards, int lines) {
        // Most often hardly as many middle boards as lines, so that calls are moved and blocked.
        int middles = Math.max(1, Math.min(8, random.nextInt(4) == 0 ? random.nextInt(10) : lines + random.nextInt(2)));
        due("setUp(" + boards + ", " + lines + ", " + middles + ")", x.setUp(boards, lines, middles), m.setUp(boards, lines, middles));
    }

    private int line() {
        int lines = m.total(0) * m.total(1);
        int odd = random.nextInt(40);
        return odd == 0 ? ODD[random.nextInt(ODD.length)] : odd == 1 ? lines : random.nextInt(lines);
    }

    private int idleInlet() {
        int inlet = line();
        for (int k = 0; k < 5 && m.callOfInlet(inlet) >= 0; k++) {
            inlet = line();
        }
        return inlet;
    }

    private int idleOutlet() {
        int outlet = line();
        for (int k = 0; k < 5 && m.callOfOutlet(outlet) >= 0; k++) {
            outlet = line();
        }
        return outlet;
    }

    private int board() {
        return random.nextInt(20) == 0 ? ODD[random.nextInt(ODD.length)] : random.nextInt(m.total(0) + 1);
    }

    private int middle() {
        return random.nextInt(20) == 0 ? ODD[random.nextInt(ODD.length)] : random.nextInt(m.total(2) + 1);
    }

    private int call() {
        int now = m.total(6);
        return random.nextInt(20) == 0 ? ODD[random.nextInt(ODD.length)] : now - random.nextInt(Math.min(now + 1, 60));
    }

    private void connect() {
        int inlet = idleInlet();
        int outlet = idleOutlet();
        if (random.nextInt(3) == 0) {
            due("wouldMove(" + inlet + ", " + outlet + ")", x.wouldMove(inlet, outlet), m.wouldMove(inlet, outlet));
        }
        due("connect(" + inlet + ", " + outlet + ")", x.connect(inlet, outlet), m.connect(inlet, outlet));
    }

    private void change(int dice, int kind) {
        int line = line();
        int middle = middle();
        switch (dice % 25) {
            case 0: case 1: case 2: case 3: case 4: case 5:
                due("disconnect(" + line + ")", x.disconnect(line), m.disconnect(line));
                break;
            case 6: case 7:
                due("takeOut(" + middle + ")", x.takeOut(middle), m.takeOut(middle));
                break;
            case 8: case 9: case 10:
                due("putBack(" + middle + ")", x.putBack(middle), m.putBack(middle));
                break;
            case 11:
                due("pack()", x.pack(), m.pack());
                break;
            case 12:
                due("undo()", x.undo(), m.undo());
                break;
            case 13:
                due("keep()", x.keep(), m.keep());
                break;
            case 14:
                due("restore()", x.restore(), m.restore());
                break;
            case 15:
                int choice = random.nextInt(5) - 1;
                due("setChoiceRule(" + choice + ")", x.setChoiceRule(choice), m.setChoiceRule(choice));
                break;
            case 16:
                int pair = random.nextInt(4) - 1;
                due("setPairRule(" + pair + ")", x.setPairRule(pair), m.setPairRule(pair));
                break;
            case 17:
                if (kind < 3 && random.nextInt(4) == 0) {
                    setUp(random.nextInt(10), random.nextInt(8));
                }
                break;
            default:
                break;
        }
    }

    private String order() {
        switch (random.nextInt(8)) {
            case 0: return "d" + Math.abs(line() % 50);
            case 1: return "o" + random.nextInt(m.total(2));
            case 2: return "i" + random.nextInt(m.total(2));
            case 3: return "p";
            case 4: return "c" + random.nextInt(50) + "-" + random.nextInt(50);
            default: return "c" + Math.abs(idleInlet() % 50) + "-" + Math.abs(idleOutlet() % 50);
        }
    }

    private void text() {
        StringBuilder orders = new StringBuilder(order());
        while (random.nextInt(3) != 0) {
            orders.append(';').append(order());
        }
        if (random.nextInt(3) == 0) {
            orders.insert(random.nextInt(orders.length() + 1), "cdoip;-0123456789 \n".charAt(random.nextInt(19)));
        }
        if (random.nextInt(5) == 0) {
            orders.deleteCharAt(random.nextInt(orders.length()));
        }
        if (random.nextInt(10) != 0) {
            due("clearText()", x.clearText(), m.clearText());
        }
        for (int k = 0; k < Math.min(orders.length(), 61); k++) {
            char c = orders.charAt(k);
            due("type(" + (int) c + ")", x.type(c), m.type(c));
        }
        due("perform() of " + orders, x.perform(), m.perform());
    }

    private void look(int what) {
        int inlet = idleInlet();
        int outlet = idleOutlet();
        int board = board();
        int middle = middle();
        int call = call();
        int index = random.nextInt(8) - 1;
        int number = random.nextInt(14) - 1;
        switch (what) {
            case 0: due("callOfInlet(" + inlet + ")", x.callOfInlet(inlet), m.callOfInlet(inlet)); break;
            case 1: due("callOfOutlet(" + outlet + ")", x.callOfOutlet(outlet), m.callOfOutlet(outlet)); break;
            case 2: due("inletOf(" + call + ")", x.inletOf(call), m.inletOf(call)); break;
            case 3: due("outletOf(" + call + ")", x.outletOf(call), m.outletOf(call)); break;
            case 4: due("middleOf(" + call + ")", x.middleOf(call), m.middleOf(call)); break;
            case 5: due("onFirstLink(" + board + ", " + middle + ")", x.onFirstLink(board, middle), m.onFirstLink(board, middle)); break;
            case 6: due("onLastLink(" + middle + ", " + board + ")", x.onLastLink(middle, board), m.onLastLink(middle, board)); break;
            case 7: due("load(" + middle + ")", x.load(middle), m.load(middle)); break;
            case 8: due("freeForFirst(" + board + ")", x.freeForFirst(board), m.freeForFirst(board)); break;
            case 9: due("freeForLast(" + board + ")", x.freeForLast(board), m.freeForLast(board)); break;
            case 10: due("inService()", x.inService(), m.inService()); break;
            case 11: due("total(" + number + ")", x.total(number), m.total(number)); break;
            case 12: due("total(9)", x.total(9), m.total(9)); break;
            case 13: due("chainCall(" + inlet + ", " + outlet + ", " + index + ")", x.chainCall(inlet, outlet, index), m.chainCall(inlet, outlet, index)); break;
            case 14: due("reason(" + inlet + ", " + outlet + ")", x.reason(inlet, outlet), m.reason(inlet, outlet)); break;
            case 15: due("leastMiddles()", x.leastMiddles(), m.leastMiddles()); break;
            case 16: due("wouldDrop(" + middle + ")", x.wouldDrop(middle), m.wouldDrop(middle)); break;
            default: due("reachable(" + inlet + ")", x.reachable(inlet), m.reachable(inlet)); break;
        }
    }
}
