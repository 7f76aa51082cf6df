/** What the tests share: a count of wrong answers, and objects whose text is told. */
final class Kit {
    static final int NONE = -1;
    static final int UNKNOWN = -1000000001;
    static final int OUTSIDE = -1000000002;
    static final int NOT = -1000000003;
    static final int FULL = -1000000004;

    private String sentence = "";
    private int ofSentence = 1;
    private int checks;
    private int wrong;

    /** The document's words that the checks behind this hold to; words without a check are wrong. */
    void says(String words) {
        closeSentence();
        sentence = words;
        ofSentence = 0;
    }

    private void closeSentence() {
        if (ofSentence == 0) {
            wrong++;
            System.out.println("no check of \"" + sentence + "\"");
        }
    }

    void due(String call, long got, long want) {
        checks++;
        ofSentence++;
        if (got != want) {
            wrong++;
            String where = sentence.isEmpty() ? "" : "\"" + sentence + "\": ";
            System.out.println(where + call + " answered " + got + ", due is " + want);
        }
    }

    /** That a call was not refused, whatever else it answered. */
    void taken(String call, int got) {
        due(call + " (" + got + ") is taken", got > UNKNOWN ? 1 : 0, 1);
    }

    static void feedAll(IceSway x, String text) {
        for (int i = 0; i < text.length(); i++) {
            x.feed(text.charAt(i));
        }
    }

    /** Feeds and cuts a text that has no fault. */
    static IceSway told(String text) {
        IceSway x = new IceSway();
        feedAll(x, text);
        if (x.cut() < 0) {
            throw new IllegalStateException("the test's own text has a fault: " + text);
        }
        return x;
    }

    /** So many nights without cold, in as few calls as can be. */
    static void passNights(IceSway x, int nights) {
        for (int left = nights; left > 0; left -= 99) {
            x.night(0, Math.min(99, left));
        }
    }

    void end() {
        closeSentence();
        System.out.println(checks + " answers, " + wrong + " of them wrong");
        if (wrong != 0 || checks == 0) {
            System.exit(1);
        }
    }
}
