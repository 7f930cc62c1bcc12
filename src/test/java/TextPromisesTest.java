/** Promises 10 to 12: type, clearText, perform. */
public final class TextPromisesTest {
    private static final int UNKNOWN = ClosExchange.UNKNOWN;
    private static final int BUSY = ClosExchange.BUSY;
    private static final int BLOCKED = ClosExchange.BLOCKED;
    private static final int FULL = ClosExchange.FULL;
    private static final int NONE = ClosExchange.NONE;

    public static void main(String[] args) {
        promise10();
        promise11();
        promise12Faults();
        promise12AllowedNumbers();
        promise12Orders();
        promise12Errors();
        promise12OneChange();
        promise12FullText();
        Due.end("TextPromisesTest");
    }

    private static void promise10() {
        ClosExchange x = new ClosExchange();
        char[] any = {'c', 0, '\n', 127, 128, 255, 256, 0xD800, 0xFFFF, ' '};
        for (int k = 0; k < 60; k++) {
            Due.due("10: type, character " + k, x.type(any[k % any.length]), k + 1);
        }
        Due.due("10: type('p')", x.type('p'), FULL);
        Due.due("10: type('p')", x.type('p'), FULL);
        Due.due("10: total(11)", x.total(11), 60);
        Due.due("10: total(10)", x.total(10), 0);
        Due.due("10: the first character stays", x.perform(), -101);
    }

    private static void promise11() {
        ClosExchange x = new ClosExchange();
        Due.due("11: clearText()", x.clearText(), 0);
        Due.type(x, "p;p");
        Due.due("11: clearText()", x.clearText(), 3);
        Due.due("11: total(11)", x.total(11), 0);
        Due.due("11: clearText()", x.clearText(), 0);
        Due.due("11: total(10)", x.total(10), 0);
        Due.due("11: type('p')", x.type('p'), 1);
        Due.due("11: perform()", x.perform(), 1);
    }

    private static void promise12Faults() {
        ClosExchange x = new ClosExchange();
        String[] texts = {"", ";", "x", "C0-0", " p", "p ", "pp", "p;", "p;;p", "p;x", "0", "-",
            "c", "c-", "c0", "c0-", "c0;", "c0-0-", "c0-;", "c00-0", "c01-0", "c0-00", "c0-01",
            "c48-0", "c0-48", "c50-0", "c0-99", "c100-0", "c470-0", "c0-470", "c5-5x", "c 0-0", "c+1-0",
            "d", "d;", "d-1", "d48", "d00", "d09", "d123", "d1d2", "d1 ", "dp",
            "o", "o8", "o9", "o00", "o12", "o-", "oo", "i", "i8", "i77", "i0i", "p0", "d1;o", "d1;o8", "c1-2;c3"};
        int[] faults = {0, 0, 0, 0, 0, 1, 1, 2, 2, 2, 0, 0,
            1, 1, 2, 3, 2, 4, 3, 2, 2, 4, 4,
            2, 4, 2, 4, 3, 3, 5, 4, 1, 1,
            1, 1, 1, 2, 2, 2, 3, 2, 2, 1,
            1, 1, 1, 2, 2, 1, 1, 1, 1, 2, 2, 1, 4, 4, 7};
        Due.due("12: as many faults as texts", faults.length, texts.length);
        for (int k = 0; k < texts.length; k++) {
            Due.due("12: perform() of \"" + texts[k] + "\"", Due.perform(x, texts[k]), -100 - faults[k]);
        }
        char[] near = {'/', ':', 'b', 'e', 'n', 'q', 'h', 'j', 'P', 0, 0xFFFF, (char) ('p' + 256), (char) ('0' + 65280)};
        for (char c : near) {
            Due.due("12: perform() of character " + (int) c, Due.perform(x, "" + c), -100);
            Due.due("12: perform() of d, character " + (int) c, Due.perform(x, "d" + c), -101);
            Due.due("12: perform() of o, character " + (int) c, Due.perform(x, "o" + c), -101);
            Due.due("12: perform() of p, character " + (int) c, Due.perform(x, "p" + c), -101);
        }
        Due.due("12: total(10)", x.total(10), 0);
    }

    private static void promise12AllowedNumbers() {
        for (int inlet = 0; inlet < 48; inlet++) {
            ClosExchange x = Due.network(8, 6, 8);
            int outlet = 47 - inlet;
            Due.due("12: connect " + inlet, Due.perform(x, "c" + inlet + "-" + outlet), 1);
            Due.due("12: callOfInlet(" + inlet + ")", x.callOfInlet(inlet), 0);
            Due.due("12: outletOf(0)", x.outletOf(0), outlet);
            Due.due("12: disconnect " + inlet, Due.perform(x, "d" + inlet), 1);
            Due.due("12: total(7)", x.total(7), 1);
        }
        ClosExchange x = Due.network(8, 6, 8);
        for (int middle = 0; middle < 8; middle++) {
            Due.due("12: o" + middle, Due.perform(x, "o" + middle), 1);
            Due.due("12: inService()", x.inService(), 255 & ~(1 << middle));
            Due.due("12: i" + middle, Due.perform(x, "i" + middle), 1);
            Due.due("12: inService()", x.inService(), 255);
        }
    }

    private static void promise12Orders() {
        ClosExchange x = new ClosExchange();
        Due.due("12: perform()", Due.perform(x, "c0-0;c3-4;o0;d0;p;i0;p;c0-0"), 8);
        Due.due("12: total(5)", x.total(5), 2);
        Due.due("12: total(6)", x.total(6), 3);
        Due.due("12: total(7)", x.total(7), 1);
        Due.due("12: total(9)", x.total(9), 3);
        Due.due("12: middleOf(1)", x.middleOf(1), 0);
        Due.due("12: middleOf(2)", x.middleOf(2), 0);
        Due.due("12: inService()", x.inService(), 7);
        Due.due("12: the text stays", x.total(11), 27);
        Due.due("12: again, inlet 0 is busy", x.perform(), BUSY);
    }

    private static void promise12Errors() {
        String[] texts = {"c1-1;c12-0", "c1-1;c0-12", "c1-1;c0-1", "c1-1;d0", "c1-1;d12", "o3", "i3", "o7",
            "d0;c12-0", "c12-0;d0", "c1-1;d1;d1", "o0;o1;c1-1;o2;c0-0", "c0-0;c1"};
        int[] errors = {UNKNOWN, UNKNOWN, BUSY, BUSY, UNKNOWN, UNKNOWN, UNKNOWN, UNKNOWN,
            BUSY, UNKNOWN, BUSY, BLOCKED, -107};
        ClosExchange x = new ClosExchange();
        x.connect(9, 9);
        for (int k = 0; k < texts.length; k++) {
            Due.due("12: perform() of " + texts[k], Due.perform(x, texts[k]), errors[k]);
            Due.due("12: none is carried out, total(5)", x.total(5), 1);
            Due.due("12: total(6)", x.total(6), 1);
            Due.due("12: total(7)", x.total(7), 0);
            Due.due("12: total(8)", x.total(8), 0);
            Due.due("12: total(9)", x.total(9), 0);
            Due.due("12: total(10)", x.total(10), 1);
            Due.due("12: inService()", x.inService(), 7);
            Due.due("12: callOfInlet(1)", x.callOfInlet(1), NONE);
            Due.due("12: callOfOutlet(1)", x.callOfOutlet(1), NONE);
            Due.due("12: freeForFirst(0)", x.freeForFirst(0), 7);
            Due.due("12: the text stays", x.total(11), texts[k].length());
        }
    }

    private static void promise12OneChange() {
        ClosExchange x = new ClosExchange();
        Due.due("12: orders that do nothing", Due.perform(x, "i0;p;i1"), 3);
        Due.due("12: total(10)", x.total(10), 1);
        Due.due("12: orders of which one does nothing", Due.perform(x, "c0-0;i2;o1;o1;p"), 5);
        Due.due("12: total(10)", x.total(10), 2);
        Due.due("12: undo()", x.undo(), 1);
        Due.due("12: total(5)", x.total(5), 0);
        Due.due("12: inService()", x.inService(), 7);
        Due.due("12: undo()", x.undo(), 0);
    }

    private static void promise12FullText() {
        ClosExchange x = new ClosExchange();
        String dots = "p;p;p;p;p;p;p;p;p;p;p;p;p;p;p;p;p;p;p;p;p;p;p;p;p;p;p;p;p;p;";
        Due.type(x, dots);
        Due.due("12: total(11)", x.total(11), 60);
        Due.due("12: 60 characters that end too early", x.perform(), -160);
        Due.due("12: 30 orders", Due.perform(x, dots.substring(0, 59)), 30);
        Due.due("12: 60 characters", Due.perform(x, "c10-11;" + dots.substring(0, 53)), 28);
        Due.due("12: total(11)", x.total(11), 60);
    }
}
