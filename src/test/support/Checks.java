import java.util.function.ToIntFunction;

/** What the tests of the promises share: how objects are made ready, asked, and compared. */
abstract class Checks {
    static final int SEE = 0;
    static final int ALSO = 1;
    static final int BROADER = 2;
    static final int LATER = 3;
    static final int LEAST = Integer.MIN_VALUE;
    static final int MOST = Integer.MAX_VALUE;

    /** Numbers of no heading and no record; 64 and above, as a shift of a long wraps round there. */
    static final int[] WRONG_NUMBERS = {0, -1, -2, -63, 61, 64, 65, 66, 257, LEAST, LEAST + 1, MOST};

    private static int wrong = 0;
    private static String sentence = "";

    /** The sentence of the document that the checks to come stand for. */
    static void says(String words) {
        sentence = words + " | ";
    }

    static void due(String call, long got, long want) {
        if (got != want) {
            fail(call + " answered " + got + ", due is " + want);
        }
    }

    static void due(String what, String got, String want) {
        if (!got.equals(want)) {
            fail(what + " is '" + got + "', due is '" + want + "'");
        }
    }

    static void fail(String what) {
        wrong++;
        System.out.println(sentence + what);
    }

    static void finish() {
        System.out.println(wrong == 0 ? "all answers are as due" : wrong + " answers are not as due");
        if (wrong != 0) {
            System.exit(1);
        }
    }

    static AuthorityRows collect(AuthorityRows x, String text) {
        for (int i = 0; i < text.length(); i++) {
            x.sign(text.charAt(i));
        }
        return x;
    }

    static int heading(AuthorityRows x, String text, int kind) {
        return collect(x, text).heading(kind);
    }

    /** Headings h1, h2, .. of kind 0. */
    static AuthorityRows withHeadings(int n) {
        AuthorityRows x = new AuthorityRows();
        for (int h = 1; h <= n; h++) {
            due("heading " + h, heading(x, "h" + h, 0), h);
        }
        return x;
    }

    static void link(AuthorityRows x, int sort, int from, int to, long day) {
        due("link(" + sort + ", " + from + ", " + to + ", " + day + ")", x.link(sort, from, to, day), 1);
    }

    static String textOf(AuthorityRows x, int heading) {
        StringBuilder text = new StringBuilder();
        for (int i = 0; i < 40; i++) {
            int letter = x.letter(heading, i);
            if (letter == AuthorityRows.NONE) {
                break;
            }
            text.append((char) letter);
        }
        return text.toString();
    }

    static void dueText(String what, AuthorityRows x, int heading, String want) {
        due(what + ": the text of " + heading, textOf(x, heading), want);
    }

    static void dueRing(String what, AuthorityRows x, int... want) {
        for (int i = 0; i < want.length; i++) {
            due(what + ", ring(" + i + ")", x.ring(i), want[i]);
        }
        due(what + ", ring past its end", x.ring(want.length), 0);
    }

    static void dueBroader(String what, AuthorityRows x, int heading, int... want) {
        for (int i = 0; i < want.length; i++) {
            due(what + ", broader(" + heading + ", " + i + ")", x.broader(heading, i), want[i]);
        }
        due(what + ", broader past its end", x.broader(heading, want.length), 0);
    }

    static void dueSee(String what, AuthorityRows x, int heading, int... want) {
        for (int i = 0; i < want.length; i++) {
            due(what + ", see(" + heading + ", " + i + ")", x.see(heading, i), want[i]);
        }
        due(what + ", see past its end", x.see(heading, want.length), 0);
    }

    /** The call answers as is due, and headings 1 to 6, records 1 to 4 and the ring are as before. */
    static void dueAndNothingHappens(String call, AuthorityRows x, ToIntFunction<AuthorityRows> ask, int want) {
        String before = allThatIsTold(x);
        due(call, ask.applyAsInt(x), want);
        due("after " + call + ", what is told", allThatIsTold(x), before);
    }

    private static String allThatIsTold(AuthorityRows x) {
        StringBuilder told = new StringBuilder();
        for (int h = 1; h <= 6; h++) {
            told.append(h).append('=').append(textOf(x, h));
            told.append(" forms ").append(x.form(h, Long.MIN_VALUE)).append(',').append(x.form(h, Long.MAX_VALUE));
            told.append(" shown ").append(x.shown(h, Long.MAX_VALUE));
            told.append(" sees ").append(x.see(h, 0)).append(',').append(x.see(h, 1));
            told.append(" broader ").append(x.broader(h, 0)).append(',').append(x.broader(h, 1)).append("; ");
        }
        for (int i = 0; i < 4; i++) {
            told.append(" record ").append(x.linked(i + 1)).append(" ring ").append(x.ring(i));
        }
        return told.toString();
    }
}
