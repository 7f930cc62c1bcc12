/** The sentences of the promises 10 to 15. */
final class TextAndHistorySentences {
    private static final int UNKNOWN = ClosExchange.UNKNOWN;
    private static final int BUSY = ClosExchange.BUSY;
    private static final int BLOCKED = ClosExchange.BLOCKED;
    private static final int FULL = ClosExchange.FULL;
    private static final int NONE = ClosExchange.NONE;
    private static final Look.Step SMALL = HistorySentences::small;

    private TextAndHistorySentences() {
    }

    static void all() {
        promise10Appends();
        promise10AnyCharacter();
        promise10Returns();
        promise11Empties();
        promise11Returns();
        promise12OneAfterTheOther();
        promise12TheTextStays();
        promise12AllOrNone();
        promise12OrdersThatReturnNone();
        promise12OneChange();
        promise12ReturnsHowMany();
        promise12ReturnsTheFault();
        promise12ReturnsTheFirstError();
        promise13Restores();
        promise13Returns();
        promise14TakesASnapshot();
        promise14Returns();
        promise15Restores();
        promise15IsAChange();
        promise15Returns();
    }

    private static void promise10Appends() {
        Doc.says("Promise 10", "Appends a character to the text.");
        ClosExchange x = new ClosExchange();
        String text = "c1-9;c10-2;d1;p";
        for (int k = 0; k < text.length(); k++) {
            x.type(text.charAt(k));
            Due.due("total(11)", x.total(11), k + 1);
        }
        Due.due("perform()", x.perform(), 4);
        Due.due("outletOf(1)", x.outletOf(1), 2);
        Due.due("total(5)", x.total(5), 1);
        Due.due("total(10), no change", x.total(10), 1);
    }

    private static void promise10AnyCharacter() {
        Doc.says("Promise 10", "any character");
        for (int sign = 0; sign < 65536; sign += 50) {
            ClosExchange x = new ClosExchange();
            for (int k = 0; k < 50; k++) {
                Due.due("type((char) " + (sign + k) + ")", x.type((char) (sign + k)), k + 1);
            }
        }
    }

    private static void promise10Returns() {
        Doc.says("Promise 10", "Returns the length of the text then;");
        ClosExchange x = new ClosExchange();
        for (int length = 1; length <= 60; length++) {
            Due.due("type('x')", x.type('x'), length);
        }
        Doc.says("Promise 10", "FULL if it has 60 characters.");
        Due.due("type('x')", x.type('x'), FULL);
        Due.due("type('p')", x.type('p'), FULL);
        Due.due("total(11)", x.total(11), 60);
        x.clearText();
        Due.due("type('x') after clearText()", x.type('x'), 1);
    }

    private static void promise11Empties() {
        Doc.says("Promise 11", "Empties the text.");
        ClosExchange x = new ClosExchange();
        Due.type(x, "p;p;p;p");
        x.clearText();
        Due.due("total(11)", x.total(11), 0);
        Due.due("perform()", x.perform(), -100);
        Due.due("type('p')", x.type('p'), 1);
        Due.due("perform(), nothing of the old text is left", x.perform(), 1);
        Due.type(x, ";x");
        Due.due("perform()", x.perform(), -102);
    }

    private static void promise11Returns() {
        Doc.says("Promise 11", "Returns the length that it had.");
        for (int length = 0; length <= 60; length++) {
            ClosExchange x = new ClosExchange();
            Due.type(x, "p".repeat(length));
            Due.due("clearText()", x.clearText(), length);
            Due.due("clearText()", x.clearText(), 0);
        }
    }

    private static void promise12OneAfterTheOther() {
        Doc.says("Promise 12", "Carries out the orders of the text,");
        ClosExchange x = new ClosExchange();
        Due.due("perform()", Due.perform(x, "c0-5;o0;i0;p;o2;d0"), 6);
        int[] totals = {4, 3, 3, 0, 0, 0, 1, 1, 0, 2};
        for (int what = 0; what < totals.length; what++) {
            Due.due("total(" + what + ")", x.total(what), totals[what]);
        }
        Due.due("inService()", x.inService(), 3);
        Doc.says("Promise 12", "one after the other:");
        x = new ClosExchange();
        Due.due("perform() of c0-0;d0", Due.perform(x, "c0-0;d0"), 2);
        Due.due("perform() of d0;c0-0", Due.perform(x, "d0;c0-0"), BUSY);
        Due.due("perform() of c0-0;d0;c0-1", Due.perform(x, "c0-0;d0;c0-1"), 3);
        Due.due("callOfOutlet(1)", x.callOfOutlet(1), 2);
        Due.due("perform() of o0;c3-3;i0;c4-4", Due.perform(x, "o0;c3-3;i0;c4-4"), 4);
        Due.due("middleOf(3)", x.middleOf(3), 1);
        Due.due("middleOf(4)", x.middleOf(4), 0);
    }

    private static void promise12TheTextStays() {
        Doc.says("Promise 12", "which stays,");
        ClosExchange x = new ClosExchange();
        Due.type(x, "c0-0;d0");
        for (int k = 1; k <= 5; k++) {
            Due.due("perform()", x.perform(), 2);
            Due.due("total(11)", x.total(11), 7);
            Due.due("total(6)", x.total(6), k);
        }
        Due.due("perform() that fails", Due.perform(x, "d0;p"), BUSY);
        Due.due("total(11)", x.total(11), 4);
        x.connect(0, 0);
        Due.due("perform()", x.perform(), 2);
        Due.due("perform() of a fault", Due.perform(x, "d0;"), -103);
        Due.due("total(11)", x.total(11), 3);
        x.type('p');
        x.connect(0, 0);
        Due.due("perform()", x.perform(), 2);
    }

    private static void promise12AllOrNone() {
        Doc.says("Promise 12", "all of them, or none if one of them returns an error.");
        String[] orders = {"c1-1", "d0", "o0", "i1", "p", "c3-3"};
        String[] wrong = {"c0-9", "c9-2", "d9", "c47-0", "o7", "i7"};
        for (String bad : wrong) {
            for (int at = 0; at <= orders.length; at++) {
                StringBuilder text = new StringBuilder();
                for (int k = 0; k <= orders.length; k++) {
                    text.append(k == 0 ? "" : ";").append(k < at ? orders[k] : k == at ? bad : orders[k - 1]);
                }
                // Behind d0 and o0, the inlet 0 and the outlet 2 may be taken.
                if (at > 1 && (bad.equals("c0-9") || bad.equals("c9-2"))) {
                    continue;
                }
                ClosExchange x = new ClosExchange();
                Due.perform(x, "c0-2;c4-4;o1");
                String before = Look.stateOf(x);
                int answer = Due.perform(x, text.toString());
                Due.due("perform() of " + text, answer, bad.startsWith("c0") || bad.startsWith("c9") || bad.equals("d9") ? BUSY : UNKNOWN);
                Due.same("all that is seen after " + text, Look.stateOf(x), before);
                Due.due("total(10)", x.total(10), 1);
            }
        }
    }

    private static void promise12OrdersThatReturnNone() {
        Doc.says("Promise 12", "(An order that returns NONE does nothing, and is no error.)");
        String[] texts = {"p", "i0", "p;p;i2", "o1;o1", "i0;c0-0;i0", "p;c0-0;o0;o0;i0;i0"};
        int[] orders = {1, 1, 3, 2, 3, 6};
        int[] calls = {0, 0, 0, 0, 1, 1};
        int[] service = {7, 7, 7, 5, 7, 7};
        for (int k = 0; k < texts.length; k++) {
            ClosExchange x = new ClosExchange();
            Due.due("perform() of " + texts[k], Due.perform(x, texts[k]), orders[k]);
            Due.due("total(5)", x.total(5), calls[k]);
            Due.due("inService()", x.inService(), service[k]);
        }
    }

    private static void promise12OneChange() {
        Doc.says("Promise 12", "This is one change.");
        Look.isChange("perform() of 5 orders", x -> smallWith(x, "i1;c1-1;d0;p;o0"), x -> x.perform(), 5);
        Look.isChange("perform() of 1 order", x -> smallWith(x, "d0"), x -> x.perform(), 1);
        Look.isChange("perform() of orders that return NONE", x -> smallWith(x, "o1;i0"), x -> x.perform(), 2);
    }

    private static int smallWith(ClosExchange x, String text) {
        SMALL.on(x);
        x.clearText();
        Due.type(x, text);
        return x.total(11);
    }

    private static void promise12ReturnsHowMany() {
        Doc.says("Promise 12", "Returns how many orders the text has;");
        String[] orders = {"c0-0", "d0", "p", "i0", "o2", "i2", "c11-10", "d11"};
        StringBuilder text = new StringBuilder();
        for (int k = 0; text.length() + 7 <= 60; k++) {
            text.append(k == 0 ? "" : ";").append(orders[k % orders.length]);
            Due.due("perform() of " + text, Due.perform(new ClosExchange(), text.toString()), k + 1);
        }
        Due.due("perform() of 30 orders", Due.perform(new ClosExchange(), "p;".repeat(29) + "p"), 30);
    }

    private static void promise12ReturnsTheFault() {
        Doc.says("Promise 12", "-100 minus the fault of the text if it has one (this is an error);");
        for (int fault = 0; fault <= 59; fault++) {
            String good = "p;".repeat(30).substring(0, fault);
            Due.due("perform() with a fault at " + fault, Due.perform(new ClosExchange(), good + "~"), -100 - fault);
        }
        Due.due("perform() of 60 characters that end too early", Due.perform(new ClosExchange(), "p;".repeat(30)), -160);
        ClosExchange x = new ClosExchange();
        Due.due("perform() of c0-0;", Due.perform(x, "c0-0;"), -105);
        Due.due("total(5), no order is carried out", x.total(5), 0);
        Due.due("total(10), this is an error", x.total(10), 0);
    }

    private static void promise12ReturnsTheFirstError() {
        Doc.says("Promise 12", "otherwise the error of the first order that returns one.");
        String[] texts = {"c12-0;d0", "d0;c12-0", "c0-12", "d12", "o3", "i3", "c0-0;c0-1;d12", "p;i0;d0;c12-0", "o0;o1;o2;c0-0;d12", "d1;o3"};
        int[] errors = {UNKNOWN, BUSY, UNKNOWN, UNKNOWN, UNKNOWN, UNKNOWN, BUSY, BUSY, BLOCKED, BUSY};
        for (int k = 0; k < texts.length; k++) {
            Due.due("perform() of " + texts[k], Due.perform(new ClosExchange(), texts[k]), errors[k]);
        }
    }

    private static void promise13Restores() {
        Doc.says("Promise 13", "Restores the latest state of the history,");
        ClosExchange x = Due.network(2, 2, 2);
        String[] seen = new String[5];
        seen[0] = Look.stateOf(x);
        for (int change = 1; change <= 4; change++) {
            x.connect(change - 1, 4 - change);
            seen[change] = Look.stateOf(x);
        }
        Doc.says("Promise 13", "and removes it from there.");
        for (int left = 3; left >= 0; left--) {
            Due.due("undo()", x.undo(), left);
            Due.due("total(10)", x.total(10), left);
            Due.same("all that is seen", Look.stateOf(x), seen[left]);
        }
        Due.due("undo()", x.undo(), NONE);
    }

    private static void promise13Returns() {
        Doc.says("Promise 13", "Returns how many states are left;");
        for (int changes = 1; changes <= 6; changes++) {
            ClosExchange x = new ClosExchange();
            for (int change = 0; change < changes; change++) {
                x.setPairRule(1 - change % 2);
            }
            for (int left = Math.min(changes, 4) - 1; left >= 0; left--) {
                Due.due("undo() of " + changes + " changes", x.undo(), left);
            }
            Doc.says("Promise 13", "NONE if the history is empty.");
            Due.due("undo()", x.undo(), NONE);
            Due.due("undo()", x.undo(), NONE);
            Due.due("total(4)", x.total(4), changes > 4 ? changes % 2 : 0);
        }
        Due.due("undo() of a new object", new ClosExchange().undo(), NONE);
    }

    private static void promise14TakesASnapshot() {
        Doc.says("Promise 14", "Takes a snapshot of the state,");
        ClosExchange x = new ClosExchange();
        HistorySentences.pairs(x);
        x.setChoiceRule(2);
        String kept = Look.stateOf(x);
        x.keep();
        Due.same("all that is seen after keep()", Look.stateOf(x), kept);
        Due.due("total(10), no change", x.total(10), 2);
        x.setUp(2, 2, 2);
        x.connect(0, 0);
        Due.due("restore()", x.restore(), 4);
        Due.same("all that is seen after restore()", Look.stateOf(x), kept);
        Doc.says("Promise 14", "in place of an earlier one.");
        x.disconnect(0);
        String later = Look.stateOf(x);
        x.keep();
        x.connect(0, 3);
        Due.due("restore()", x.restore(), 3);
        Due.same("all that is seen after restore()", Look.stateOf(x), later);
    }

    private static void promise14Returns() {
        Doc.says("Promise 14", "Returns how many calls there are.");
        ClosExchange x = Due.network(8, 6, 6);
        for (int calls = 0; calls < 48; calls++) {
            Due.due("keep()", x.keep(), calls);
            x.connect(calls, 47 - calls);
        }
        Due.due("keep()", x.keep(), 48);
        x.disconnect(0);
        Due.due("keep()", x.keep(), 47);
    }

    private static void promise15Restores() {
        Doc.says("Promise 15", "Restores the state of the snapshot,");
        ClosExchange x = new ClosExchange();
        HistorySentences.pairs(x);
        String kept = Look.stateOf(x);
        x.keep();
        Due.perform(x, "d0;d4;p;o0");
        Due.due("restore()", x.restore(), 4);
        Due.same("all that is seen", Look.stateOf(x), kept);
        Doc.says("Promise 15", "which stays.");
        x.disconnect(3);
        x.takeOut(2);
        Due.due("restore()", x.restore(), 4);
        Due.same("all that is seen", Look.stateOf(x), kept);
        Due.due("restore()", x.restore(), 4);
    }

    private static void promise15IsAChange() {
        Doc.says("Promise 15", "This is a change.");
        Look.isChange("restore()", SMALL, x -> x.restore(), 0);
        Look.isChange("restore() of the same state", x -> x.connect(5, 5) + x.keep(), x -> x.restore(), 1);
    }

    private static void promise15Returns() {
        Doc.says("Promise 15", "Returns how many calls there are then;");
        for (int calls = 0; calls <= 12; calls++) {
            ClosExchange x = Due.network(4, 3, 3);
            for (int call = 0; call < calls; call++) {
                x.connect(call, 11 - call);
            }
            x.keep();
            x.setUp(2, 1, 1);
            x.connect(0, 0);
            Due.due("restore()", x.restore(), calls);
        }
        Doc.says("Promise 15", "NONE if there is no snapshot.");
        ClosExchange x = new ClosExchange();
        Due.due("restore()", x.restore(), NONE);
        x.connect(0, 0);
        Due.due("restore()", x.restore(), NONE);
        Due.due("total(5)", x.total(5), 1);
        Due.due("total(10)", x.total(10), 1);
    }
}
