/** The sentences of promises 1 to 9 (the text, what there is) that name a boundary, in the document's order. */
public final class TextBoundaryTest extends Boundaries {
    private static void promise1() {
        of("Promise 1: No NAMES");
        GuessCalled x = new GuessCalled();
        due("rule(0)", x.rule(0), 0);
        due("name(0, 0)", x.name(0, 0), BAD);
        due("odd(0, 1)", x.odd(0, 1), BAD);
        due("near(0, 0)", x.near(0, 0), BAD);
        due("guess(0, 0)", x.guess(0, 0), BAD);
        due("slips(0)", x.slips(0), BAD);
        due("play(0, 0, 1, 0)", x.play(0, 0, 1, 0), BAD);
        due("can()", x.can(), 0);
        due("meant()", x.meant(), 0);
        due("twins()", x.twins(), 0);
        due("lied()", x.lied(), NONE);
        due("more(0)", x.more(0), NONE);
        due("more(1)", x.more(1), NONE);
        due("next(0)", x.next(0), STATE);
        due("sure(0)", x.sure(0), STATE);
        due("mean(0)", x.mean(0), STATE);
        due("best(0)", x.best(0), STATE);
        due("laws(9)", x.laws(9), STATE);
        due("row(3, 12)", x.row(3, 12), STATE);
        due("count(5)", x.count(5), 0);
        due("count(6)", x.count(6), 0);
        of("Promise 1: SHEETS have nothing.");
        for (int k = 0; k < 4; k++) {
            due("lay(" + k + ", 0, 0)", x.lay(k, 0, 0), -11);
            for (int lane = 0; lane < 3; lane++) {
                due("read(" + k + ", " + lane + ", 0, 1)", x.read(k, lane, 0, 1), 0);
                due("torn()", x.torn(), 1);
                due("read(" + k + ", " + lane + ", 0, 0)", x.read(k, lane, 0, 0), 0);
                due("torn()", x.torn(), 0);
            }
        }
        due("count(4)", x.count(4), NONE);
        of("Promise 1: A new object");
        GuessCalled y = new GuessCalled();
        due("fault()", y.fault(), 0);
        due("torn()", y.torn(), 0);
        due("wrote(0)", y.wrote(0), BAD);
        due("pair(0)", y.pair(0), BAD);
        due("end(0)", y.end(0), 0);
        due("part(0)", y.part(0), 0);
        due("undo(0)", y.undo(0), 0);
        due("forget(0)", y.forget(0), 0);
        due("back(0)", y.back(0), STATE);
        due("back(1)", y.back(1), STATE);
        due("hear(0, 0, true)", y.hear(0, 0, true), 1);
        due("mix(0, 1)", y.mix(0, 1), 1);
        due("law(4, 8)", y.law(4, 8), 0);
        due("keep(1)", y.keep(1), 0);
        due("back(1)", y.back(1), 0);
        due("text()", y.text(), 0);
    }

    private static void promise2() {
        of("Promise 2: A byte (0 to 127) comes behind THE TAPE: how many it has. BAD");
        GuessCalled x = new GuessCalled();
        due("feed(0)", x.feed(0), 1);
        due("feed(127)", x.feed(127), 2);
        for (int c : new int[] {MIN, -1, 128, 255, 256, MAX}) {
            refused(BUSY, "feed(" + c + ")", y -> y.feed(c), BAD);
            refused(NEW, "feed(" + c + ")", y -> y.feed(c), BAD);
        }
        of("Promise 2: FULL: more than 160.");
        for (int i = 3; i <= 160; i++) {
            due("feed(32)", x.feed(32), i);
        }
        due("feed(32), the 161st", x.feed(32), FULL);
        due("count(3)", x.count(3), 160);
        due("end(159)", x.end(159), 160);
        due("feed(32), the 160th again", x.feed(32), 160);
        due("feed(32), the 161st again", x.feed(32), FULL);
        for (int c : new int[] {0, 59, 127}) {
            refused(FILLED, "feed(" + c + ")", y -> y.feed(c), FULL);
        }
        x.text();
        due("feed(32) behind text()", x.feed(32), 1);
    }

    private static void promise3() {
        of("Promise 3: THE TAPE keeps its first n bytes: how many it had. BAD.");
        GuessCalled x = new GuessCalled();
        due("end(0), nothing there", x.end(0), 0);
        due("end(1), nothing there", x.end(1), BAD);
        feedAll(x, "name a 1;name b 1;name");
        due("end(22), all", x.end(22), 22);
        due("count(3)", x.count(3), 22);
        due("end(23), one more than there are", x.end(23), BAD);
        due("end(18)", x.end(18), 22);
        due("end(22), as many as there were", x.end(22), BAD);
        due("text()", x.text(), 2);
        due("end(1) behind text()", x.end(1), BAD);
        feedAll(x, "?");
        due("end(0)", x.end(0), 1);
        due("text(), nothing is kept", x.text(), 0);
        for (int n : new int[] {MIN, -1, LATER.length() + 1, 160, 161, MAX}) {
            refused(BUSY, "end(" + n + ")", y -> y.end(n), BAD);
        }
        for (int n : new int[] {MIN, -1, 161, MAX}) {
            refused(FILLED, "end(" + n + ")", y -> y.end(n), BAD);
        }
        refused(NEW, "end(1)", y -> y.end(1), BAD);
        refused(NEW, "end(-1)", y -> y.end(-1), BAD);
        GuessCalled z = made(FILLED);
        due("end(160), full", z.end(160), 160);
        due("feed(0), full still", z.feed(0), FULL);
        due("end(0), full", z.end(0), 160);
        due("count(3)", z.count(3), 0);
    }

    private static void promise4() {
        of("Promise 4: THE TAPE (empty then) tells all: how many lines");
        GuessCalled x = new GuessCalled();
        due("text() of nothing", x.text(), 0);
        due("text() of one line", tell(x, "name a 1;"), 1);
        due("count(3)", x.count(3), 0);
        due("text() of nothing", x.text(), 0);
        due("rule(0) behind a text of nothing", x.rule(0), 0);
        due("text() of as many lines as may be", tell(x, NINE + FIVE_PAIRS + "maid a;near long 1;"), 16);
        due("rule(0)", x.rule(0), 9);
        of("Promise 4: -10 less the place of its FAULT: that which was told stays.");
        due("text(), a fault at place 0", tell(x, "?"), -10);
        due("count(3)", x.count(3), 0);
        due("rule(0)", x.rule(0), 9);
        due("text(), a fault at the last place", tell(x, blanks(159) + "?"), -169);
        due("rule(0)", x.rule(0), 9);
        GuessCalled y = told(NINE);
        due("text(), a fault at the end of all", tell(y, blanks(156) + "maid"), -170);
        due("count(3)", y.count(3), 0);
        due("rule(0)", y.rule(0), 9);
        due("feed(32), the tape is empty", y.feed(32), 1);
        GuessCalled fresh = new GuessCalled();
        due("text(), the first has a fault", tell(fresh, "name a 1;pair a b;maid a;near long 1;?"), -47);
        for (int what = 0; what <= 4; what++) {
            due("rule(" + what + "), nothing was told", fresh.rule(what), 0);
        }
        GuessCalled best = told("name ab 1;name ac 1;");
        due("best(1)", best.best(1), 2);
        tell(best, "name ab 1;?");
        due("best(1), two names stay", best.best(1), 2);
        tell(best, "name ab 1;");
        due("best(1), of the names of now", best.best(1), 1);
    }

    private static void promise5() {
        of("Promise 5: The FAULT of the latest text(); 0.");
        GuessCalled x = new GuessCalled();
        due("fault(), no text yet", x.fault(), 0);
        String[] texts = {"?", "x", "maid abcdefghi", "pair a a", FIVE_PAIRS + "pair"};
        for (int f = 1; f <= texts.length; f++) {
            tell(x, texts[f - 1]);
            due("fault() of \"" + texts[f - 1] + "\"", x.fault(), f);
            feedAll(x, "name");
            x.end(0);
            due("fault(), no later text", x.fault(), f);
        }
        x.text();
        due("fault(), of a text of nothing", x.fault(), 0);
        tell(x, "?");
        tell(x, "name a 1;");
        due("fault(), of a text that is taken", x.fault(), 0);
    }

    private static void promise6() {
        of("Promise 6: 0 NAMES, 1 KIND, 2 MEASURE of the LAW, 3 PAIRS, 4 LETTERS she WROTE. BAD.");
        GuessCalled none = new GuessCalled();
        GuessCalled most = told(NINE + FIVE_PAIRS + "maid abcdefgh;near sound 8;");
        int[] greatest = {9, 4, 8, 5, 8};
        for (int what = 0; what <= 4; what++) {
            due("rule(" + what + "), nothing there", none.rule(what), 0);
            due("rule(" + what + "), the greatest", most.rule(what), greatest[what]);
        }
        for (int what : new int[] {MIN, -1, 5, MAX}) {
            refused(NEW, "rule(" + what + ")", x -> x.rule(what), BAD);
            refused(BUSY, "rule(" + what + ")", x -> x.rule(what), BAD);
            refused(FILLED, "rule(" + what + ")", x -> x.rule(what), BAD);
        }
    }

    private static void promise7() {
        of("Promise 7: Of a NAME: 0 ODDS, 1 its LETTERS; 10 and i: the LETTER at place i. BAD (also no such place).");
        GuessCalled x = told("name abcdefgh 1;name z 9;name abcd 2;");
        int[] first = {1, 8, BAD, BAD, BAD, BAD, BAD, BAD, BAD, BAD, 0, 1, 2, 3, 4, 5, 6, 7, BAD, BAD, BAD};
        int[] second = {9, 1, BAD, BAD, BAD, BAD, BAD, BAD, BAD, BAD, 25, BAD, BAD, BAD, BAD, BAD, BAD, BAD, BAD, BAD, BAD};
        for (int what = 0; what <= 20; what++) {
            due("name(0, " + what + ")", x.name(0, what), first[what]);
            due("name(1, " + what + ")", x.name(1, what), second[what]);
        }
        due("name(2, 13)", x.name(2, 13), 3);
        due("name(2, 14)", x.name(2, 14), BAD);
        for (int n : new int[] {MIN, -1, 5, 9, MAX}) {
            for (int what : new int[] {0, 1, 10}) {
                refused(BUSY, "name(" + n + ", " + what + ")", y -> y.name(n, what), BAD);
            }
        }
        for (int what : new int[] {MIN, -1, 2, 9, 17, 18, MAX}) {
            refused(BUSY, "name(4, " + what + ")", y -> y.name(4, what), BAD);
        }
        refused(NEW, "name(0, 0)", y -> y.name(0, 0), BAD);
        GuessCalled nine = told(NINE);
        due("name(8, 0)", nine.name(8, 0), 9);
        due("name(9, 0)", nine.name(9, 0), BAD);
    }

    private static void promise8() {
        of("Promise 8: The LETTER at place i of what she WROTE. BAD.");
        GuessCalled x = told("maid abcdefgz;");
        due("wrote(0)", x.wrote(0), 0);
        due("wrote(7)", x.wrote(7), 25);
        due("wrote(8)", x.wrote(8), BAD);
        due("wrote(1), one letter", told("maid z;").wrote(1), BAD);
        due("wrote(0), one letter", told("maid z;").wrote(0), 25);
        due("wrote(1), one letter in place of eight", rewritten().wrote(1), BAD);
        for (int i : new int[] {MIN, -1, 3, 8, MAX}) {
            refused(BUSY, "wrote(" + i + ")", y -> y.wrote(i), BAD);
        }
        refused(NEW, "wrote(0)", y -> y.wrote(0), BAD);
    }

    private static GuessCalled rewritten() {
        GuessCalled x = told("maid abcdefgh;");
        tell(x, "maid z;");
        return x;
    }

    private static void promise9() {
        of("Promise 9: PAIR k as 26 times its first LETTER and the second one. BAD.");
        GuessCalled z = told("pair a b;pair b a;pair a z;pair z a;pair z y;");
        int[] codes = {1, 26, 25, 650, 674};
        for (int k = 0; k < codes.length; k++) {
            due("pair(" + k + ")", z.pair(k), codes[k]);
        }
        due("pair(5)", z.pair(5), BAD);
        for (int k : new int[] {MIN, -1, 3, 4, 5, MAX}) {
            refused(BUSY, "pair(" + k + ")", y -> y.pair(k), BAD);
        }
        refused(NEW, "pair(0)", y -> y.pair(0), BAD);
    }

    public static void main(String[] args) {
        promise1();
        promise2();
        promise3();
        promise4();
        promise5();
        promise6();
        promise7();
        promise8();
        promise9();
        end();
    }
}
