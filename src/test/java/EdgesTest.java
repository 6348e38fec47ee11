import java.io.IOException;

/**
 * Each sentence of the document that names an edge, quoted, with a test of its
 * own; at the end no clause of its terms and promises is left unquoted.
 */
public final class EdgesTest {
    private static final Due DUE = new Due("EdgesTest");
    private static Doc doc;

    private EdgesTest() {
    }

    public static void main(String[] args) throws IOException {
        doc = new Doc();
        if (!doc.isThere()) {
            System.out.println("EdgesTest: no document beside the checkout, quotes are not looked up");
        }
        constants(new Says("Terms"));
        new TextEdges(new Says("Terms")).run();
        new ReckoningEdges(new Says("Terms")).run();
        new SearchEdges(new Says("Terms")).run();
        new CertificateEdges(new Says("Terms")).run();
        new CallEdges().run();
        new HistoryEdges().run();
        new SearchCallEdges().run();
        for (String clause : doc.unquoted()) {
            DUE.is("no test quotes " + clause, 0, 1);
        }
        DUE.end();
    }

    private static void constants(Says due) {
        due.says("`NONE = -1`: There is none; it is refused.");
        due.is("NONE", ShortEnough.NONE, -1);
        due.is("chosen(0)", new ShortEnough().chosen(0), ShortEnough.NONE);
        due.is("task()", new ShortEnough().task(), ShortEnough.NONE);
        due.says("`NOTHING = -1000000000000000L`: There is no such number.");
        due.is("NOTHING", ShortEnough.NOTHING, -1000000000000000L);
        due.is("error(0)", new ShortEnough().error(0), ShortEnough.NOTHING);
    }

    /** The sentence that is being tested stands ahead of each call that is told wrong. */
    static final class Says {
        private final String section;
        private String sentence = "";

        Says(String section) {
            this.section = section;
        }

        void says(String quote) {
            sentence = section + ", \"" + quote + "\": ";
            DUE.is(sentence + "stands in the document", doc.quote(section, quote), true);
        }

        void is(String call, long got, long want) {
            DUE.is(sentence + call, got, want);
        }

        void is(String call, boolean got, boolean want) {
            DUE.is(sentence + call, got, want);
        }
    }
}
