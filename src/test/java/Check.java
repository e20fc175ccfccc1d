/** Compares answers with those that are due, and counts the wrong ones. */
final class Check {
    private static final String[] NAMES = {"", "NO_SUCH", "BAD_VALUE", "NOT_POSSIBLE", "LIMIT", "BAD_TEXT", "NONE"};

    private final String test;
    private String sentence = "";
    private int sentences = 0;
    private int wrong = 0;
    private int made = 0;

    Check(String test) {
        this.test = test;
    }

    /** What follows tests this sentence of the document, which wrong answers are told with. */
    void sentence(String words) {
        sentence = ": \"" + words + "\"";
        sentences++;
    }

    /** Tells whether the answer is as due. */
    boolean due(String what, long got, long want) {
        made++;
        if (got != want) {
            wrong++;
            System.out.println(test + sentence + ": " + what + " answered " + named(got) + ", due is " + named(want));
        }
        return got == want;
    }

    /** Tells whether all numbers are as due; of the wrong ones only the first is told. */
    boolean allDue(String what, int[] got, int[] want) {
        if (!due(what + ", how many numbers", got.length, want.length)) {
            return false;
        }
        for (int i = 0; i < got.length; i++) {
            if (!due(what + ", number " + i, got[i], want[i])) {
                return false;
            }
        }
        return true;
    }

    void isTrue(String what, boolean truth) {
        due(what, truth ? 1 : 0, 1);
    }

    /** Appends the characters of a text to the buffer. */
    static void write(RoadPaint road, String text) {
        for (int i = 0; i < text.length(); i++) {
            road.append(text.charAt(i));
        }
    }

    /** Ends the program: with 1 if an answer was wrong. */
    void end() {
        String told = sentences == 0 ? "" : sentences + " sentences, ";
        System.out.println(test + ": " + told + made + " answers, " + wrong + " wrong");
        if (wrong != 0 || made == 0) {
            System.exit(1);
        }
    }

    private static String named(long value) {
        return value < 0 && value >= -6 ? NAMES[(int) -value] + " (" + value + ")" : Long.toString(value);
    }
}
