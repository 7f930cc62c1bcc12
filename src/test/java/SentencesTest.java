import java.io.IOException;

/**
 * The sentences of the document, one by one: each test names the words that it is for, and at the end
 * no words are left that no test names. A look for those words finds the test.
 */
public final class SentencesTest {
    private static final int BUSY = ClosExchange.BUSY;
    private static final String[] INTERFACE = {"Ahead of the calls `setUp`, `setChoiceRule`, `setPairRule` the interface says: ---- the network.",
        "Ahead of the calls `connect`, `disconnect`, `takeOut`, `putBack`, `pack` the interface says: ---- calls.",
        "Ahead of the calls `type`, `clearText`, `perform` the interface says: ---- texts.",
        "Ahead of the calls `undo`, `keep`, `restore` the interface says: ---- history.",
        "Ahead of the calls `callOfInlet`, `callOfOutlet`, `inletOf`, `outletOf`, `middleOf`, `onFirstLink`, `onLastLink`, `load`, `freeForFirst`, `freeForLast`, `inService`, `total` the interface says: ---- what there is.",
        "Ahead of the calls `wouldMove`, `chainCall`, `reason`, `leastMiddles`, `wouldDrop`, `reachable` the interface says:"};

    public static void main(String[] args) throws IOException {
        Doc.read();
        BoardsSentences.all();
        CallsSentences.all();
        RoutingSentences.all();
        TextsSentences.all();
        HistorySentences.all();
        ErrorsSentences.all();
        ChangesSentences.all();
        TextAndHistorySentences.all();
        ViewsSentences.all();
        OutlookSentences.all();
        the512thCall();
        wordsThatPromiseNothing();
        Doc.everyWordIsNamed();
        Due.end("SentencesTest");
    }

    private static void the512thCall() {
        Doc.says("What it is", "An object is used for at most 512 calls after it has been made;");
        ClosExchange x = new ClosExchange();
        for (int k = 0; k < 170; k++) {
            Due.due("connect(0, 0)", x.connect(0, 0), 0);
            Due.due("connect(0, 0)", x.connect(0, 0), BUSY);
            Due.due("disconnect(0)", x.disconnect(0), k);
        }
        Due.due("connect(11, 11), the 511th call", x.connect(11, 11), 0);
        Due.due("callOfInlet(11), the 512th call", x.callOfInlet(11), 170);
    }

    private static void wordsThatPromiseNothing() {
        for (String words : INTERFACE) {
            Doc.nothingToTest("ERRORS", words);
        }
        Doc.nothingToTest("ERRORS", "The constants:");
        Doc.nothingToTest("What it is", "what later calls answer is free.");
        Doc.nothingToTest("What it is", "A rearrangeable three-stage Clos switching network: first, middle and last boards, calls from inlets to outlets, middle boards that are chosen by three rules, calls that are moved along a chain of two middle boards to make room (Paull's method), pairs of middle boards with the shortest chain, middle boards that are taken out of service and put back, calls that are dropped by that, the least number of middle boards that is enough, repacking, reasons for which a call cannot be connected, orders that are read from a text with the places of faults, counts, undo and a snapshot.");
        Doc.nothingToTest("Not promised", "How the state is held inside the object is free, as are the speed of each call, the text of toString and the behaviour of equals and hashCode. Use of one object from several threads at once is not promised to be safe. Nothing is promised beyond the answers and state changes described above, and nothing about an object after its 512th call.");
    }
}
