/** The sentences of "TEXTS". */
final class TextsSentences {
    private static final int FULL = ClosExchange.FULL;
    private static final String SECTION = "TEXTS";
    private static final String DIGITS = "0123456789";

    private TextsSentences() {
    }

    static void all() {
        atMost60Characters();
        emptyAtFirst();
        oneOrMoreOrders();
        semicolonBetweenTwo();
        connectOrder();
        disconnectOrder();
        takeOutOrder();
        putBackOrder();
        packOrder();
        numbersFrom0To47();
        withoutZerosAhead();
        greaterThan47();
        indexOfTheFirstCharacterNotAllowed();
        endsTooEarly();
        emptyText();
    }

    /** The text's fault; -1 if it has none. */
    private static int fault(String text) {
        int answer = Due.perform(Due.network(8, 6, 8), text);
        return answer <= -100 ? -100 - answer : -1;
    }

    private static void due(String text, int fault) {
        Due.due("the fault of \"" + text + "\"", fault(text), fault);
    }

    private static void atMost60Characters() {
        Doc.says(SECTION, "There is a text of at most 60 characters,");
        ClosExchange x = new ClosExchange();
        for (int length = 1; length <= 60; length++) {
            Due.due("type(), character " + length, x.type(length == 60 ? 'p' : length % 2 == 1 ? 'p' : ';'), length);
        }
        for (int more = 0; more < 3; more++) {
            Due.due("type(';')", x.type(';'), FULL);
            Due.due("total(11)", x.total(11), 60);
        }
        Due.due("perform(), the 60th character is one too much", x.perform(), -159);
        Due.due("clearText()", x.clearText(), 60);
        Due.due("type('p') then", x.type('p'), 1);
        String longest = "c10-11;c12-13;c14-15;c16-17;c18-19;c20-21;c22-23;c24-25;p;p;";
        x = Due.network(8, 6, 8);
        Due.due("perform() of 60 characters that end too early", Due.perform(x, longest), -160);
        Due.due("perform() of 59 characters", Due.perform(x, longest.substring(0, 59)), 10);
        Due.due("perform() of 60 characters", Due.perform(x, "c40-40;" + "p;".repeat(26) + "p"), 28);
        Due.due("total(11)", x.total(11), 60);
    }

    private static void emptyAtFirst() {
        Doc.says(SECTION, "empty at first.");
        ClosExchange x = new ClosExchange();
        Due.due("total(11)", x.total(11), 0);
        Due.due("clearText()", x.clearText(), 0);
        Due.due("perform()", x.perform(), -100);
        Due.due("type('p')", x.type('p'), 1);
    }

    private static void oneOrMoreOrders() {
        Doc.says(SECTION, "It is a list of one or more orders");
        due("", 0);
        StringBuilder text = new StringBuilder("p");
        for (int orders = 1; orders <= 30; orders++) {
            Due.due("perform() of " + orders + " orders", Due.perform(new ClosExchange(), text.toString()), orders);
            text.append(";p");
        }
    }

    private static void semicolonBetweenTwo() {
        Doc.says(SECTION, "with \";\" between two:");
        due("p;p", -1);
        due(";", 0);
        due(";p", 0);
        due("p;", 2);
        due("p;;p", 2);
        due("pp", 1);
        due("p,p", 1);
        due("p p", 1);
        due("p; p", 2);
        due("p:p", 1);
        due("d0o1", 2);
        due("c1-2c3-4", 4);
        due("o1i1", 2);
    }

    private static void connectOrder() {
        Doc.says(SECTION, "\"c\", an inlet, \"-\" and an outlet (connect);");
        ClosExchange x = new ClosExchange();
        Due.due("perform() of c2-9", Due.perform(x, "c2-9"), 1);
        Due.due("inletOf(0)", x.inletOf(0), 2);
        Due.due("outletOf(0)", x.outletOf(0), 9);
        Due.due("perform() of c10-11", Due.perform(x, "c10-11"), 1);
        Due.due("inletOf(1)", x.inletOf(1), 10);
        Due.due("outletOf(1)", x.outletOf(1), 11);
        due("c-0", 1);
        due("c0", 2);
        due("c0-", 3);
        due("c0,0", 2);
        due("c0--0", 3);
        due("c0;0", 2);
    }

    private static void disconnectOrder() {
        Doc.says(SECTION, "\"d\" and an inlet (disconnect);");
        ClosExchange x = new ClosExchange();
        x.connect(2, 9);
        x.connect(10, 2);
        Due.due("perform() of d2", Due.perform(x, "d2"), 1);
        Due.due("callOfOutlet(9)", x.callOfOutlet(9), ClosExchange.NONE);
        Due.due("callOfOutlet(2)", x.callOfOutlet(2), 1);
        Due.due("perform() of d10", Due.perform(x, "d10"), 1);
        Due.due("total(5)", x.total(5), 0);
        Due.due("total(7)", x.total(7), 2);
        due("d", 1);
        due("d0-0", 2);
    }

    private static void takeOutOrder() {
        Doc.says(SECTION, "\"o\" and a digit from 0 to 7 (take that middle board out);");
        for (int digit = 0; digit <= 9; digit++) {
            ClosExchange x = Due.network(8, 6, 8);
            int answer = Due.perform(x, "o" + digit);
            Due.due("perform() of o" + digit, answer, digit <= 7 ? 1 : -101);
            Due.due("inService()", x.inService(), digit <= 7 ? 255 - (1 << digit) : 255);
            due("o" + digit + "0", digit <= 7 ? 2 : 1);
        }
        due("o", 1);
        due("o;", 1);
        due("o-1", 1);
    }

    private static void putBackOrder() {
        Doc.says(SECTION, "\"i\" and such a digit (put it back);");
        for (int digit = 0; digit <= 9; digit++) {
            ClosExchange x = Due.network(8, 6, 8);
            for (int middle = 0; middle < 8; middle++) {
                x.takeOut(middle);
            }
            int answer = Due.perform(x, "i" + digit);
            Due.due("perform() of i" + digit, answer, digit <= 7 ? 1 : -101);
            Due.due("inService()", x.inService(), digit <= 7 ? 1 << digit : 0);
            due("i" + digit + "1", digit <= 7 ? 2 : 1);
        }
        due("i", 1);
        due("i;", 1);
        due("i-1", 1);
    }

    private static void packOrder() {
        Doc.says(SECTION, "\"p\" (pack).");
        ClosExchange x = Due.built(4, 3, 3, new int[][] {{0, 0, 2}, {3, 3, 1}});
        Due.due("perform() of p", Due.perform(x, "p"), 1);
        Due.due("load(0)", x.load(0), 2);
        Due.due("total(9)", x.total(9), 2);
        due("p0", 1);
        due("P", 0);
    }

    private static void numbersFrom0To47() {
        Doc.says(SECTION, "Inlets and outlets are numbers from 0 to 47");
        for (int line = 0; line < 48; line++) {
            ClosExchange x = Due.network(8, 6, 8);
            Due.due("perform() of c" + line + "-" + (47 - line), Due.perform(x, "c" + line + "-" + (47 - line)), 1);
            Due.due("callOfInlet(" + line + ")", x.callOfInlet(line), 0);
            Due.due("callOfOutlet(" + (47 - line) + ")", x.callOfOutlet(47 - line), 0);
            Due.due("perform() of d" + line, Due.perform(x, "d" + line), 1);
            Due.due("total(5)", x.total(5), 0);
        }
        Due.due("perform() of d-1", Due.perform(new ClosExchange(), "d-1"), -101);
        Due.due("perform() of d12 in a network of 12 inlets", Due.perform(new ClosExchange(), "d12"), ClosExchange.UNKNOWN);
    }

    private static void withoutZerosAhead() {
        Doc.says(SECTION, "without zeros ahead of other digits;");
        for (int digit = 0; digit <= 9; digit++) {
            due("c0" + digit + "-0", 2);
            due("c0-0" + digit, 4);
            due("d0" + digit, 2);
        }
        due("c0-0", -1);
        due("d0", -1);
        due("c10-20", -1);
        due("d40", -1);
        due("d000", 2);
        due("c00", 2);
    }

    private static void greaterThan47() {
        Doc.says(SECTION, "a digit by which a number would be greater than 47 is not allowed.");
        for (int number = 10; number <= 199; number++) {
            int tooGreat = number < 48 ? 99 : number < 100 || number / 10 > 47 ? 1 : 2;
            due("c" + number + "-0", number < 48 ? -1 : 1 + tooGreat);
            due("c0-" + number, number < 48 ? -1 : 3 + tooGreat);
            due("d" + number, number < 48 ? -1 : 1 + tooGreat);
        }
        due("d48", 2);
        due("d470", 3);
        due("d479", 3);
        due("d999", 2);
        due("d4294967296", 3);
        due("d5;c0-48", 7);
        due("d47;d48;d49", 6);
    }

    /** After each beginning of a text, these characters are allowed and no others. */
    private static final String[][] PLACES = {
        {"", "cdoip"}, {"c", DIGITS}, {"c0", "-"}, {"c1", DIGITS + "-"}, {"c3", DIGITS + "-"}, {"c4", "01234567-"},
        {"c5", "-"}, {"c9", "-"}, {"c10", "-"}, {"c47", "-"}, {"c0-", DIGITS}, {"c0-0", ";"}, {"c0-1", DIGITS + ";"},
        {"c0-3", DIGITS + ";"}, {"c0-4", "01234567;"}, {"c0-5", ";"}, {"c0-9", ";"}, {"c0-10", ";"}, {"c0-47", ";"},
        {"d", DIGITS}, {"d0", ";"}, {"d1", DIGITS + ";"}, {"d3", DIGITS + ";"}, {"d4", "01234567;"}, {"d5", ";"},
        {"d9", ";"}, {"d40", ";"}, {"o", "01234567"}, {"o0", ";"}, {"o7", ";"}, {"i", "01234567"}, {"i0", ";"},
        {"i7", ";"}, {"p", ";"}, {"p;", "cdoip"}, {"d1;", "cdoip"}, {"c1-2;o", "01234567"}, {"p;c2", DIGITS + "-"}};

    private static void indexOfTheFirstCharacterNotAllowed() {
        Doc.says(SECTION, "The fault of the text is the index, from 0, of the first character that is not allowed at its place,");
        for (String[] place : PLACES) {
            ClosExchange x = new ClosExchange();
            int length = place[0].length();
            int signs = 0;
            for (int sign = 0; sign < 65536; sign += sign < 600 ? 1 : 257) {
                signs++;
                x = signs % 40 == 0 ? new ClosExchange() : x;
                int begun = Due.perform(x, place[0] + (char) sign);
                boolean isAllowed = begun != -100 - length;
                boolean allowed = place[1].indexOf((char) sign) >= 0;
                if (isAllowed != allowed) {
                    Due.due("character " + sign + " is allowed after \"" + place[0] + "\"", isAllowed ? 1 : 0, allowed ? 1 : 0);
                }
            }
            due(place[0] + "xx", length);
            due(place[0] + "~;c0-0", length);
        }
        due("p;p;p;x;y;z", 6);
        due("x;c48-0", 0);
        due("c48-49", 2);
    }

    private static void endsTooEarly() {
        Doc.says(SECTION, "or the length of the text if it ends too early");
        String[] early = {"c", "c1", "c47", "c1-", "d", "o", "i", "p;", "c1-2;", "d3;", "o4;", "i5;", "p;c", "p;c0-",
            "p;p;d", "p;p;o", "c0-0;d0;p;i", "d0;d0;d0;"};
        for (String text : early) {
            due(text, text.length());
        }
        String[] whole = {"c1-2", "d3", "o4", "i5", "p", "c1-2;d3;o4;i5;p", "c1-4", "d4"};
        for (String text : whole) {
            due(text, -1);
        }
    }

    private static void emptyText() {
        Doc.says(SECTION, "(the empty text does).");
        ClosExchange x = new ClosExchange();
        Due.due("perform()", x.perform(), -100);
        Due.due("perform() of p", Due.perform(x, "p"), 1);
        x.clearText();
        Due.due("perform() after clearText()", x.perform(), -100);
    }
}
