import java.util.ArrayList;
import java.util.List;

/**
 * What the tests of boundaries share. Each test tells, in the document's words, the sentence that
 * it is of; that sentence is printed with each answer that is not as due.
 */
class Boundaries {
    static final int MIN = Integer.MIN_VALUE, MAX = Integer.MAX_VALUE;
    static final int BAD = -1, STATE = -2, FULL = -3, NONE = -4;

    static final String FIVE =
            "name tom 3;name tim 2;name ham 1;name abel 4;name ottokar 2;near letters 1;pair o i;pair m n;maid ton;";
    static final String NINE =
            "name a 1;name b 2;name c 3;name d 4;name e 5;name f 6;name g 7;name h 8;name i 9;";
    static final String FIVE_PAIRS = "pair a b;pair b a;pair y z;pair z y;pair a b;";
    static final String LATER = "name zo 9;";

    /** Calls that bring a new object to where a test begins. */
    interface Ahead {
        void on(GuessCalled x);
    }

    interface Call {
        long on(GuessCalled x);
    }

    static final Ahead NEW = x -> { };
    static final Ahead BUSY = Boundaries::busy;
    static final Ahead NONE_LEFT = Boundaries::noneCanBe;
    static final Ahead NONE_HEARD = Boundaries::noneByWhatWasHeard;
    static final Ahead FILLED = Boundaries::fill;

    private static String sentence = "";
    private static int wrong = 0;

    static void of(String words) {
        sentence = words;
    }

    static void due(String call, long got, long want) {
        if (got != want) {
            wrong++;
            System.out.println("\"" + sentence + "\": " + call + " answered " + got + ", due is " + want);
        }
    }

    /** The last call of each test's main. */
    static void end() {
        System.out.println(wrong == 0 ? "all answers are as due" : wrong + " answers are not as due");
        if (wrong != 0) {
            System.exit(1);
        }
    }

    // ---- where tests begin

    static void feedAll(GuessCalled x, String text) {
        for (int i = 0; i < text.length(); i++) {
            x.feed(text.charAt(i));
        }
    }

    static int tell(GuessCalled x, String text) {
        feedAll(x, text);
        return x.text();
    }

    static GuessCalled made(Ahead ahead) {
        GuessCalled x = new GuessCalled();
        ahead.on(x);
        return x;
    }

    static GuessCalled told(String text) {
        GuessCalled x = new GuessCalled();
        if (tell(x, text) < 0) {
            throw new IllegalStateException("the test's own text has a fault: " + text);
        }
        return x;
    }

    /** Some of all there can be: nothing is empty, nothing is full, one image, one sheet of nothing. */
    private static void busy(GuessCalled x) {
        tell(x, FIVE);
        x.odd(4, 7);
        x.mix(0, 25);
        x.guess(3, 0);
        x.hear(3, 0, false);
        x.keep(0);
        x.law(0, 2);
        x.guess(4, 0);
        x.hear(7, 4, false);
        x.sheet(0, 0, 4);
        x.lay(0, 0, 2);
        x.lay(0, 3, 1);
        x.sheet(1, 1, 3);
        x.sheet(2, 2, 40);
        x.lay(2, 38, 1);
        x.lay(2, 39, 2);
        x.read(0, 0, 4, 1);
        tell(x, "?");
        feedAll(x, LATER);
    }

    private static void noneCanBe(GuessCalled x) {
        busy(x);
        x.guess(0, 2);
        x.guess(0, 0);
    }

    private static void noneByWhatWasHeard(GuessCalled x) {
        busy(x);
        x.hear(0, 25, true);
    }

    /** As many as may be of all that is counted. */
    private static void fill(GuessCalled x) {
        tell(x, NINE + "near long 0;maid a;");
        for (int i = 0; i < 5; i++) {
            x.mix(i, i + 1);
        }
        for (int i = 0; i < 9; i++) {
            x.guess(8 - i % 2, 1);
        }
        for (int i = 0; i < 6; i++) {
            x.hear(i, i, false);
        }
        for (int k = 0; k < 4; k++) {
            x.sheet(k, k % 3, 40);
        }
        x.keep(0);
        x.keep(1);
        feedAll(x, LATER);
        for (int i = LATER.length(); i < 160; i++) {
            x.feed(' ');
        }
    }

    // ---- all that can be seen of an object

    private static List<Long> seen(GuessCalled x) {
        List<Long> all = new ArrayList<>();
        all.add((long) x.torn());
        seeCounts(x, all);
        seeNames(x, all);
        seeSearches(x, all);
        seeListsFromTheirEnds(x, all);
        seeImages(x, all);
        seeSheets(x, all);
        all.add((long) x.text());
        all.add((long) x.rule(0));
        all.add((long) x.name(0, 0));
        all.add((long) x.name(0, 11));
        return all;
    }

    private static void seeCounts(GuessCalled x, List<Long> all) {
        for (int what = 0; what <= 6; what++) {
            all.add((long) x.count(what));
        }
        for (int what = 0; what <= 4; what++) {
            all.add((long) x.rule(what));
        }
        int pairs = x.rule(3);
        for (int k = 0; k < pairs; k++) {
            all.add((long) x.pair(k));
        }
    }

    private static void seeNames(GuessCalled x, List<Long> all) {
        all.add((long) x.wrote(0));
        int names = x.rule(0);
        for (int n = 0; n < names; n++) {
            all.add((long) x.name(n, 0));
            int letters = x.name(n, 1);
            for (int i = 0; i < letters; i++) {
                all.add((long) x.name(n, 10 + i));
            }
            all.add((long) x.near(n, names - 1 - n));
            all.add((long) x.slips(n));
        }
    }

    private static void seeSearches(GuessCalled x, List<Long> all) {
        all.add(x.likely(0, 1));
        all.add((long) x.lied());
        all.add((long) x.next(0));
        all.add((long) x.sure(0));
        all.add(x.mean(0));
        all.add((long) x.best(0));
        all.add((long) x.laws(3));
        all.add((long) x.row(2, 11));
        all.add((long) x.twins());
        all.add((long) x.meant());
        all.add((long) x.more(0));
        all.add((long) x.can());
    }

    private static void seeListsFromTheirEnds(GuessCalled x, List<Long> all) {
        for (int left = x.count(0); left >= 0; left--) {
            all.add((long) x.undo(left));
            all.add((long) x.can());
        }
        for (int left = x.count(1); left >= 0; left--) {
            all.add((long) x.forget(left));
            all.add((long) x.can());
        }
    }

    private static void seeImages(GuessCalled x, List<Long> all) {
        for (int k = 0; k < 2; k++) {
            all.add((long) x.back(k));
            seeCounts(x, all);
            all.add((long) x.can());
        }
    }

    private static void seeSheets(GuessCalled x, List<Long> all) {
        x.undo(0);
        x.forget(0);
        for (int k = 0; k < 4; k++) {
            for (int lane = 0; lane < 3; lane++) {
                all.add((long) x.read(k, lane, 0, 1));
                all.add((long) x.torn());
            }
            all.add((long) x.read(k, k % 3, 2, 1));
            all.add((long) x.read(k, k % 3, 38, 1));
            all.add((long) x.can());
            x.undo(0);
        }
    }

    // ---- what a refused call answers and leaves

    /** An object that was asked the call is, in all that can be seen, like one that was not. */
    static void refused(Ahead ahead, String call, Call asked, long want) {
        GuessCalled x = made(ahead);
        GuessCalled other = made(ahead);
        due(call, asked.on(x), want);
        due("fault() behind " + call, x.fault(), other.fault());
        dueAlike(call, x, other);
    }

    static void dueAlike(String call, GuessCalled x, GuessCalled other) {
        List<Long> left = seen(x);
        List<Long> wanted = seen(other);
        due("all that can be seen behind " + call + ": " + left + " for " + wanted, left.equals(wanted) ? 1 : 0, 1);
    }

    static void faulty(String text, int fault, int place) {
        GuessCalled x = made(BUSY);
        GuessCalled other = made(BUSY);
        x.end(0);
        other.end(0);
        due("text() of \"" + text + "\"", tell(x, text), -10 - place);
        due("fault() of \"" + text + "\"", x.fault(), fault);
        due("count(3) behind \"" + text + "\"", x.count(3), 0);
        dueAlike("text() of \"" + text + "\"", x, other);
    }

    static GuessCalled taken(String text, int lines) {
        GuessCalled x = made(BUSY);
        x.end(0);
        due("text() of \"" + text + "\"", tell(x, text), lines);
        due("fault() of \"" + text + "\"", x.fault(), 0);
        due("count(3) behind \"" + text + "\"", x.count(3), 0);
        return x;
    }

    static String blanks(int n) {
        return " ".repeat(n);
    }
}
