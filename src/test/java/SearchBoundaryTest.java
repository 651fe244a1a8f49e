import java.util.ArrayList;
import java.util.List;

/** The sentences of promises 22 to 32 (the next guess, the maid, by a seed) that name a boundary, in the document's order. */
public final class SearchBoundaryTest extends Boundaries {
    /* aa is near ab and ca; no two others are near. */
    private static final String LAST_TELLS_MOST =
            "name ab 1;name ca 1;name ddd 1;name eeee 1;name aa 1;near letters 1;";

    /** Names 0 to 6 were guessed, so that the last two can be. */
    private static GuessCalled lastTwoOfNine() {
        GuessCalled x = told(NINE);
        for (int n = 0; n < 7; n++) {
            x.guess(n, 0);
        }
        return x;
    }

    private static void promise22() {
        of("Promise 22: The NAME by which of those that CAN BE fewest are left at the worst (by yes none)");
        due("next(0), no guess tells more than another", told(NINE).next(0), 0);
        due("next(1), no guess tells more than another", told(NINE).next(1), 8);
        due("next(0), the last tells most", told(LAST_TELLS_MOST).next(0), 4);
        due("next(1), the last tells most", told(LAST_TELLS_MOST).next(1), 2);
        GuessCalled x = lastTwoOfNine();
        due("next(0), two can be", x.next(0), 7);
        due("next(1), two can be", x.next(1), 1);
        x.guess(7, 0);
        due("next(0), the last can be", x.next(0), 8);
        due("next(1), the last can be", x.next(1), 0);
        of("Promise 22: BAD; STATE: none CAN BE.");
        for (int what : new int[] {MIN, -1, 2, 3, MAX}) {
            refused(BUSY, "next(" + what + ")", y -> y.next(what), BAD);
        }
        for (int what = 0; what <= 1; what++) {
            int asked = what;
            refused(NONE_LEFT, "next(" + what + ")", y -> y.next(asked), STATE);
            refused(NONE_HEARD, "next(" + what + ")", y -> y.next(asked), STATE);
            refused(NEW, "next(" + what + ")", y -> y.next(asked), STATE);
        }
    }

    private static void promise23() {
        of("Promise 23: in how many guesses he is SURELY found, the fewest (what 0); the first guess for it, of several the first NAME (1)");
        due("sure(0), nine", told(NINE).sure(0), 9);
        due("sure(1), nine", told(NINE).sure(1), 0);
        GuessCalled x = lastTwoOfNine();
        due("sure(0), two can be", x.sure(0), 2);
        due("sure(1), two can be", x.sure(1), 7);
        x.guess(7, 0);
        due("sure(0), the last can be", x.sure(0), 1);
        due("sure(1), the last can be", x.sure(1), 8);
        due("sure(0), the last tells most", told(LAST_TELLS_MOST).sure(0), 3);
        of("Promise 23: BAD; STATE: none CAN BE.");
        for (int what : new int[] {MIN, -1, 2, 3, MAX}) {
            refused(BUSY, "sure(" + what + ")", y -> y.sure(what), BAD);
        }
        for (int what = 0; what <= 1; what++) {
            int asked = what;
            refused(NONE_LEFT, "sure(" + what + ")", y -> y.sure(asked), STATE);
            refused(NONE_HEARD, "sure(" + what + ")", y -> y.sure(asked), STATE);
            refused(NEW, "sure(" + what + ")", y -> y.sure(asked), STATE);
        }
    }

    private static void promise24() {
        of("Promise 24: the least MEAN: 0, 1; the first guess for it, of several the first NAME (2)");
        GuessCalled nine = told(NINE);
        due("mean(0), nine: 165 by 45", nine.mean(0), 11);
        due("mean(1), nine: 165 by 45", nine.mean(1), 3);
        due("mean(2), nine: the likeliest", nine.mean(2), 8);
        GuessCalled x = lastTwoOfNine();
        due("mean(0), two can be: 25 by 17", x.mean(0), 25);
        due("mean(1), two can be: 25 by 17", x.mean(1), 17);
        due("mean(2), two can be", x.mean(2), 8);
        x.odd(7, 9);
        due("mean(2), two as likely", x.mean(2), 7);
        x.guess(7, 0);
        due("mean(0), the last can be", x.mean(0), 1);
        due("mean(1), the last can be", x.mean(1), 1);
        due("mean(2), the last can be", x.mean(2), 8);
        GuessCalled two = told("name a 1;name b 2;");
        due("mean(0), 4 by 3", two.mean(0), 4);
        due("mean(2)", two.mean(2), 1);
        two.odd(0, 9);
        due("mean(0), 13 by 11", two.mean(0), 13);
        due("mean(2)", two.mean(2), 0);
        two.odd(0, 1);
        two.odd(1, 9);
        due("mean(0), 11 by 10, all odds are others", two.mean(0), 11);
        due("mean(1), 11 by 10, all odds are others", two.mean(1), 10);
        of("Promise 24: BAD; STATE: none CAN BE.");
        for (int what : new int[] {MIN, -1, 3, MAX}) {
            refused(BUSY, "mean(" + what + ")", y -> y.mean(what), BAD);
        }
        for (int what = 0; what <= 2; what++) {
            int asked = what;
            refused(NONE_LEFT, "mean(" + what + ")", y -> y.mean(asked), STATE);
            refused(NONE_HEARD, "mean(" + what + ")", y -> y.mean(asked), STATE);
            refused(NEW, "mean(" + what + ")", y -> y.mean(asked), STATE);
        }
    }

    /** Of three names two are near, and the third is not: two guesses are enough. */
    private static void dueBest(String text, int law) {
        GuessCalled x = told(text);
        due("laws(1) of " + text, x.laws(1), 0);
        due("laws(3) of " + text, x.laws(3), 45);
        due("best(0) of " + text, x.best(0), law);
        due("best(1) of " + text, x.best(1), 2);
    }

    private static void promise25() {
        of("Promise 25: The LAW by which he is SURELY found among all NAMES in fewest guesses");
        GuessCalled one = told("name solo 5;");
        due("best(0), one name: each law is as good", one.best(0), 0);
        due("best(1), one name", one.best(1), 1);
        GuessCalled nine = told(NINE);
        // By sound a, e, i are near one another and so are the six others: no other law parts them.
        due("best(0), nine names", nine.best(0), 40);
        due("best(1), nine names", nine.best(1), 6);
        nine.guess(0, 0);
        nine.guess(0, 2);
        due("best(1), none can be, but among all", nine.best(1), 6);
        of("Promise 25: 10 times its KIND and MEASURE, of several the least (what 0), in how many (1).");
        dueBest("name oa 1;name u 1;name c 1;", 1);
        dueBest("name iooocuic 1;name dibcdbdd 1;name a 1;", 8);
        dueBest("name abaa 1;name aba 1;name ab 1;", 13);
        dueBest("name b 1;name abbba 1;name eaa 1;", 22);
        dueBest("name obieoad 1;name ebibdoc 1;name cbideeo 1;", 36);
        dueBest("name cubob 1;name ddddc 1;name aiued 1;", 42);
        of("Promise 25: BAD; STATE: no NAMES.");
        for (int what : new int[] {MIN, -1, 2, MAX}) {
            refused(BUSY, "best(" + what + ")", x -> x.best(what), BAD);
        }
        refused(NEW, "best(0)", x -> x.best(0), STATE);
        refused(NEW, "best(1)", x -> x.best(1), STATE);
    }

    private static void promise26() {
        of("Promise 26: How many LAWS there are (of all KINDS, MEASURES) by which he is SURELY found among all NAMES in n guesses (1 to 9).");
        GuessCalled one = told("name solo 5;");
        GuessCalled nine = told(NINE);
        due("laws(1), one name", one.laws(1), 45);
        due("laws(9), one name", one.laws(9), 45);
        due("laws(1), nine names", nine.laws(1), 0);
        due("laws(5), nine names", nine.laws(5), 0);
        due("laws(6), nine names", nine.laws(6), 1);
        due("laws(8), nine names", nine.laws(8), 1);
        due("laws(9), nine names", nine.laws(9), 45);
        of("Promise 26: BAD; STATE: no NAMES.");
        for (int n : new int[] {MIN, -1, 0, 10, MAX}) {
            refused(BUSY, "laws(" + n + ")", x -> x.laws(n), BAD);
        }
        refused(NEW, "laws(1)", x -> x.laws(1), STATE);
        refused(NEW, "laws(9)", x -> x.laws(9), STATE);
    }

    /** For one, two and three guesses: the greatest part, then the guesses. */
    private static void dueRows(String text, int[][] rows) {
        GuessCalled x = told(text);
        for (int n = 1; n <= 3; n++) {
            due("row(" + n + ", 0) of " + text, x.row(n, 0), rows[n - 1][0]);
            for (int k = 0; k < n; k++) {
                due("row(" + n + ", " + (10 + k) + ") of " + text, x.row(n, 10 + k), rows[n - 1][k + 1]);
            }
        }
    }

    private static void promise27() {
        of("Promise 27: A ROW of n guesses (1 to 3) ..: how many NAMES that has (what 0); 10 and k: guess k");
        GuessCalled x = told(NINE);
        int[][] rows = {{1, 0, 8}, {1, 10, 0}, {2, 0, 7}, {2, 10, 0}, {2, 11, 1}, {3, 0, 6}, {3, 10, 0}, {3, 11, 1}, {3, 12, 2}};
        for (int[] row : rows) {
            due("row(" + row[0] + ", " + row[1] + ")", x.row(row[0], row[1]), row[2]);
        }
        x.law(2, 0);
        for (int[] row : rows) {
            due("row(" + row[0] + ", " + row[1] + "), all are near", x.row(row[0], row[1]), row[2]);
        }
        x.guess(8, 2);
        for (int n = 1; n <= 3; n++) {
            due("row(" + n + ", 0), one can be", x.row(n, 0), 1);
            due("row(" + n + ", 9 + n), one can be", x.row(n, 9 + n), 0);
        }
        of("Promise 27: of several ROWS the first by NAMES");
        dueRows(LAST_TELLS_MOST, new int[][] {{2, 4}, {2, 0, 1}, {1, 0, 1, 2}});
        dueRows("name ab 1;name cd 1;name aa 1;name eee 1;near letters 1;", new int[][] {{2, 0}, {1, 0, 1}, {1, 0, 0, 1}});
        dueRows("name eee 1;name ab 1;name cd 1;name aa 1;name ffff 1;near letters 1;", new int[][] {{3, 1}, {2, 0, 1}, {1, 0, 1, 2}});
        dueRows("name aa 1;name ab 1;name da 1;name cd 1;name eee 1;name cb 1;near letters 1;", new int[][] {{3, 0}, {1, 0, 5}, {1, 0, 0, 5}});
        GuessCalled later = told(LAST_TELLS_MOST);
        due("row(1, 10), the last", later.row(1, 10), 4);
        tell(later, NINE);
        due("row(1, 0), behind another text", later.row(1, 0), 8);
        due("row(1, 10), behind another text", later.row(1, 10), 0);
        of("Promise 27: BAD (also k no less than n)");
        int[][] bad = {
            {MIN, 0}, {-1, 0}, {0, 0}, {4, 0}, {MAX, 0}, {0, 10}, {4, 10}, {1, 11}, {1, 12}, {2, 12}, {3, 13},
            {1, MIN}, {1, -1}, {1, 1}, {1, 9}, {3, 9}, {3, 2}, {3, MAX}
        };
        for (int[] row : bad) {
            refused(BUSY, "row(" + row[0] + ", " + row[1] + ")", y -> y.row(row[0], row[1]), BAD);
            refused(NEW, "row(" + row[0] + ", " + row[1] + ")", y -> y.row(row[0], row[1]), BAD);
        }
        of("Promise 27: STATE: none CAN BE.");
        for (int[] row : rows) {
            refused(NONE_LEFT, "row(" + row[0] + ", " + row[1] + ")", y -> y.row(row[0], row[1]), STATE);
            refused(NONE_HEARD, "row(" + row[0] + ", " + row[1] + ")", y -> y.row(row[0], row[1]), STATE);
        }
        refused(NEW, "row(1, 0)", y -> y.row(1, 0), STATE);
    }

    private static void promise28() {
        of("Promise 28: Pairs of those that CAN BE which no guess PARTS, but guesses of one of them.");
        GuessCalled z = told(NINE);
        due("twins(), nine names alike", z.twins(), 36);
        for (int n = 0; n < 7; n++) {
            z.guess(n, 0);
        }
        due("twins(), two can be", z.twins(), 1);
        z.guess(7, 0);
        due("twins(), one can be", z.twins(), 0);
        z.guess(8, 0);
        due("twins(), none can be", z.twins(), 0);
        due("twins(), no names", new GuessCalled().twins(), 0);
        due("twins(), the first parts the others", told("name ab 1;name ac 1;name de 1;near letters 1;").twins(), 1);
        due("twins(), the last parts the others", told("name de 1;name ac 1;name ab 1;near letters 1;").twins(), 1);
    }

    private static void promise29() {
        of("Promise 29: NAMES that can be MEANT (bits).");
        due("meant(), no names", told("maid a;").meant(), 0);
        due("meant(), nothing written", told(NINE).meant(), 0);
        due("meant(), the last name", told(NINE + "maid i;").meant(), 256);
        due("meant(), none", told(NINE + "maid z;").meant(), 0);
        due("meant(), as many as five pairs allow", told(NINE + "maid i;pair a i;pair i b;pair c i;pair i d;pair e i;").meant(), 287);
        GuessCalled x = told("name abcdefgh 1;name ijklmnop 1;name abcdefg 1;name abcdefgi 1;maid abcdefgh;");
        due("meant(), eight letters", x.meant(), 1);
        x.mix(8, 7);
        due("meant(), a pair the other way", x.meant(), 9);
    }

    private static void promise30() {
        of("Promise 30: SLIPS, if a NAME was MEANT.");
        GuessCalled x = told("name abcdefgh 1;name ijklmnop 1;name abcdefg 1;name abcdefgi 1;maid abcdefgh;pair i h;");
        due("slips(0), none", x.slips(0), 0);
        due("slips(3), one at the last place", x.slips(3), 1);
        GuessCalled y = told("name aaaaaaaa 1;name bbbbbbbb 1;maid bbbbbbbb;pair a b;");
        due("slips(0), at each place", y.slips(0), 8);
        due("slips(1), at no place", y.slips(1), 0);
        of("Promise 30: BAD; NONE: it can not be.");
        due("slips(1)", x.slips(1), NONE);
        due("slips(2), one letter fewer", x.slips(2), NONE);
        y.part(0);
        due("slips(0), no pair", y.slips(0), NONE);
        due("slips(0), nothing written", told(NINE).slips(0), NONE);
        for (int n : new int[] {MIN, -1, 5, 9, MAX}) {
            refused(BUSY, "slips(" + n + ")", z -> z.slips(n), BAD);
        }
        refused(BUSY, "slips(2)", z -> z.slips(2), NONE);
        refused(NEW, "slips(0)", z -> z.slips(0), BAD);
    }

    private static void promise31() {
        of("Promise 31: 26 times the lesser LETTER and the greater one, of several the least (what 0), how many these are (1).");
        due("more(0), the least pair", told("name b 1;maid a;").more(0), 1);
        due("more(0), the greatest pair", told("name y 1;maid z;").more(0), 649);
        due("more(1), from none to one", told("name y 1;maid z;").more(1), 1);
        due("more(0), the later is less", told("name d 1;name a 1;maid c;").more(0), 2);
        due("more(0), the earlier is less", told("name a 1;name d 1;maid c;").more(0), 2);
        due("more(0), the later is less, but wins fewer", told("name dc 1;name cd 1;name ac 1;maid cc;").more(0), 55);
        due("more(1), the later is less, but wins fewer", told("name dc 1;name cd 1;name ac 1;maid cc;").more(1), 2);
        due("more(0), the later is less, and wins as many", told("name dc 1;name cd 1;name ac 1;name ca 1;maid cc;").more(0), 2);
        GuessCalled x = told(NINE + "maid i;");
        due("more(0), of several", x.more(0), 8);
        due("more(1), of several", x.more(1), 2);
        for (int i = 0; i < 5; i++) {
            x.mix(i, 8);
        }
        due("more(0), five pairs", x.more(0), 26 * 5 + 8);
        due("more(1), five pairs", x.more(1), 7);
        of("Promise 31: NONE: by none are there more.");
        due("more(0), all are meant", told("name a 1;maid a;").more(0), NONE);
        due("more(1), all are meant", told("name a 1;maid a;").more(1), NONE);
        due("more(0), one pair is not enough", told("name ab 1;maid cd;").more(0), NONE);
        due("more(0), none is as long", told("name ab 1;maid a;").more(0), NONE);
        due("more(1), nothing written", told(NINE).more(1), NONE);
        due("more(1), no names", told("maid a;").more(1), NONE);
        refused(NEW, "more(0)", y -> y.more(0), NONE);
        refused(BUSY, "more(0)", y -> y.more(0), NONE);
        refused(BUSY, "more(1)", y -> y.more(1), NONE);
        of("Promise 31: BAD");
        for (int what : new int[] {MIN, -1, 2, MAX}) {
            refused(BUSY, "more(" + what + ")", y -> y.more(what), BAD);
            refused(FILLED, "more(" + what + ")", y -> y.more(what), BAD);
        }
    }

    /** How many guesses it takes among nine that tell no more than that: by longs, none of which wraps. */
    private static int playedAmong(int seed, int name, int names) {
        List<Integer> left = new ArrayList<>();
        for (int n = 0; n < names; n++) {
            left.add(n);
        }
        long s = seed & 0xFFFFFFFFL;
        int made = 0;
        int guessed = -1;
        while (guessed != name) {
            s = (s * 1103515245L + 12345L) % 4294967296L;
            guessed = left.remove((int) (s / 65536 % 32768 % left.size()));
            made++;
        }
        return made;
    }

    private static void promise32() {
        of("Promise 32: guesses by a seed, till yes, n (1 to 60) at most");
        for (int seed : new int[] {MIN, MIN + 1, -1, 0, 1, 65535, 65536, MAX - 1, MAX}) {
            GuessCalled x = told(NINE);
            for (int name : new int[] {0, 4, 8}) {
                int takes = playedAmong(seed, name, 9);
                String told = "play(" + seed + ", " + name + ", ";
                due(told + "60, 0)", x.play(seed, name, 60, 0), takes);
                due(told + "60, 1)", x.play(seed, name, 60, 1), 1);
                due(told + takes + ", 0), found by the last", x.play(seed, name, takes, 0), takes);
                due(told + takes + ", 1), found by the last", x.play(seed, name, takes, 1), 1);
                if (takes > 1) {
                    due(told + (takes - 1) + ", 0), one fewer", x.play(seed, name, takes - 1, 0), takes - 1);
                    due(told + (takes - 1) + ", 1), one fewer", x.play(seed, name, takes - 1, 1), 0);
                }
            }
            due("count(0), nothing is guessed", x.count(0), 0);
        }
        due("play(0, 0, 1, 1), one name", told("name a 1;").play(0, 0, 1, 1), 1);
        due("play(MIN, 0, 60, 0), one name", told("name a 1;").play(MIN, 0, 60, 0), 1);
        of("Promise 32: from all that CAN BE (as if it could, too)");
        GuessCalled none = made(NONE_LEFT);
        for (int name = 0; name < 5; name++) {
            due("play(7, " + name + ", 1, 1), none can be but him", none.play(7, name, 1, 1), 1);
        }
        of("Promise 32: BAD.");
        int[][] bad = {
            {MIN, 1, 0}, {-1, 1, 0}, {5, 1, 0}, {9, 1, 0}, {MAX, 1, 0}, {0, MIN, 0}, {0, -1, 0}, {0, 0, 0}, {0, 61, 0},
            {0, MAX, 0}, {0, 1, MIN}, {0, 1, -1}, {0, 1, 2}, {0, 60, MAX}
        };
        for (int[] b : bad) {
            refused(BUSY, "play(3, " + b[0] + ", " + b[1] + ", " + b[2] + ")", y -> y.play(3, b[0], b[1], b[2]), BAD);
        }
        refused(NEW, "play(0, 0, 1, 0)", y -> y.play(0, 0, 1, 0), BAD);
        of("Promise 32: By itself");
        refused(BUSY, "play(0, 0, 60, 1)", y -> y.play(0, 0, 60, 1), 1);
    }

    public static void main(String[] args) {
        promise22();
        promise23();
        promise24();
        promise25();
        promise26();
        promise27();
        promise28();
        promise29();
        promise30();
        promise31();
        promise32();
        end();
    }
}
