/** The sentences of promises 33 to 39 (images, sheets) that name a boundary, in the document's order. */
public final class SheetBoundaryTest extends Boundaries {
    private static void promise33() {
        of("Promise 33: IMAGE k (0, 1) is ODDS, the LAW, PAIRS, what was GUESSED, HEARD: whether there was one (1, 0). BAD.");
        GuessCalled x = new GuessCalled();
        due("keep(0), of nothing", x.keep(0), 0);
        due("keep(0) again", x.keep(0), 1);
        due("count(2)", x.count(2), 1);
        due("back(1)", x.back(1), STATE);
        due("keep(1)", x.keep(1), 0);
        due("keep(1) again", x.keep(1), 1);
        due("count(2)", x.count(2), 2);
        for (int k : new int[] {MIN, -1, 2, MAX}) {
            refused(NEW, "keep(" + k + ")", y -> y.keep(k), BAD);
            refused(BUSY, "keep(" + k + ")", y -> y.keep(k), BAD);
            refused(FILLED, "keep(" + k + ")", y -> y.keep(k), BAD);
        }
    }

    private static void promise34() {
        of("Promise 34: All is as IMAGE k: how many are GUESSED. BAD; STATE: there is none.");
        GuessCalled x = new GuessCalled();
        x.keep(0);
        due("back(0), of nothing", x.back(0), 0);
        due("back(1), none kept", x.back(1), STATE);
        for (int k : new int[] {MIN, -1, 2, MAX}) {
            refused(NEW, "back(" + k + ")", y -> y.back(k), BAD);
            refused(BUSY, "back(" + k + ")", y -> y.back(k), BAD);
            refused(FILLED, "back(" + k + ")", y -> y.back(k), BAD);
        }
        refused(BUSY, "back(1), none kept", y -> y.back(1), STATE);
        refused(NEW, "back(0), none kept", y -> y.back(0), STATE);
        refused(NEW, "back(1), none kept", y -> y.back(1), STATE);
        imageOfNothingAndOfAll();
        whatAnImageIsNot();
    }

    /** Names, what she wrote, the tape, sheets, faults and the other image are as they were. */
    private static void whatAnImageIsNot() {
        GuessCalled x = told("name ab 1;name cd 2;maid xyz;");
        x.keep(0);
        tell(x, "?");
        feedAll(x, LATER);
        x.sheet(0, 2, 4);
        x.read(0, 2, 4, 1);
        due("back(0)", x.back(0), 0);
        due("fault()", x.fault(), 1);
        due("torn()", x.torn(), 2);
        due("count(3)", x.count(3), LATER.length());
        due("count(4)", x.count(4), 4);
        due("rule(0)", x.rule(0), 2);
        due("rule(4)", x.rule(4), 3);
        due("count(2)", x.count(2), 1);
        due("back(1)", x.back(1), STATE);
    }

    /** From full to nothing and back: each list is as it was, to its last place. */
    private static void imageOfNothingAndOfAll() {
        GuessCalled full = made(FILLED);
        GuessCalled other = made(FILLED);
        full.undo(0);
        full.forget(0);
        full.part(0);
        full.law(4, 8);
        full.odd(0, 5);
        due("keep(0), nothing guessed", full.keep(0), 1);
        due("back(1), all guessed", full.back(1), 9);
        full.keep(0);
        dueAlike("back(1)", full, other);
        GuessCalled x = told(NINE);
        x.keep(0);
        changeAll(x, 0);
        due("keep(1)", x.keep(1), 0);
        due("back(0), nothing guessed", x.back(0), 0);
        due("count(1)", x.count(1), 0);
        due("rule(3)", x.rule(3), 0);
        due("count(5)", x.count(5), 45);
        due("near(0, 8)", x.near(0, 8), 0);
        due("can()", x.can(), 511);
        changeAll(x, 1);
        x.law(3, 1);
        due("back(1), nine guessed", x.back(1), 9);
        due("guess(0, 0), full again", x.guess(0, 0), FULL);
        due("hear(0, 0, true), full again", x.hear(0, 0, true), FULL);
        due("mix(0, 1), full again", x.mix(0, 1), FULL);
        due("near(0, 8)", x.near(0, 8), 1);
        due("name(0, 0)", x.name(0, 0), 5);
        due("name(8, 0)", x.name(8, 0), 5);
        due("pair(0)", x.pair(0), 26 * 5);
        due("pair(4)", x.pair(4), 26 * 5 + 4 * 27);
        due("count(2), images stay", x.count(2), 2);
        due("can(), all but the first and the second", x.can(), 508);
        x.undo(8);
        due("can(), all but the first two still", x.can(), 508);
        due("back(0), an image stays as it was", x.back(0), 0);
    }

    /** To as many as may be; what is told of a name, of letters and of answers is another for each v. */
    private static void changeAll(GuessCalled x, int v) {
        x.law(2, v);
        x.odd(0, 5 + v);
        x.odd(8, 5 + v);
        for (int i = 0; i < 9; i++) {
            x.guess(v, 1 - v);
        }
        for (int i = 0; i < 6; i++) {
            x.hear(v, 1 + v, v != 0);
        }
        for (int i = 0; i < 5; i++) {
            x.mix(5 + v + i, i + 10 * v);
        }
    }

    private static void promise35() {
        of("Promise 35: A SHEET is a new row of CELLS 0: 1.");
        for (int k = 0; k < 4; k++) {
            for (int lane = 0; lane < 3; lane++) {
                GuessCalled x = told(NINE);
                due("sheet(" + k + ", " + lane + ", 0)", x.sheet(k, lane, 0), 1);
                due("lay, no cell", x.lay(k, 0, 1), -12);
                due("sheet(" + k + ", " + lane + ", 40)", x.sheet(k, lane, 40), 1);
                due("lay, the last cell", x.lay(k, 39, 1), 1);
                due("lay, behind the last cell", x.lay(k, 40, 1), -12);
                due("sheet again", x.sheet(k, lane, 40), 1);
                due("read, cells 0", x.read(k, lane, 38, 1), 1);
                due("can(), no for the first", x.can(), 510);
                due("sheet of one cell", x.sheet(k, lane, 1), 1);
                due("lay, the only cell", x.lay(k, 0, 1), 1);
                due("lay, behind the only cell", x.lay(k, 1, 1), -12);
                due("count(4)", x.count(4), k == 0 ? 1 : NONE);
            }
        }
        of("Promise 35: BAD: also n above 40");
        int[][] bad = {
            {MIN, 0, 1}, {-1, 0, 1}, {4, 0, 1}, {MAX, 0, 1}, {0, MIN, 1}, {0, -1, 1}, {0, 3, 1}, {0, MAX, 1},
            {0, 0, 41}, {3, 2, 41}, {0, 0, MAX}, {4, 0, -1}, {0, 3, -1}, {-1, 0, MIN}
        };
        for (int[] b : bad) {
            refused(BUSY, "sheet(" + b[0] + ", " + b[1] + ", " + b[2] + ")", x -> x.sheet(b[0], b[1], b[2]), BAD);
            refused(NEW, "sheet(" + b[0] + ", " + b[1] + ", " + b[2] + ")", x -> x.sheet(b[0], b[1], b[2]), BAD);
        }
        of("Promise 35: -10 - 4.");
        for (int n : new int[] {MIN, -40, -1}) {
            for (int k = 0; k < 4; k++) {
                int of = k;
                refused(BUSY, "sheet(" + k + ", 0, " + n + ")", x -> x.sheet(of, 0, n), -14);
            }
            refused(NEW, "sheet(3, 2, " + n + ")", x -> x.sheet(3, 2, n), -14);
        }
    }

    /** A cell is seen by what it says as the name of a guess whose answer is yes. */
    private static void dueCell(int lane, int v, int name) {
        GuessCalled x = told(NINE);
        x.sheet(0, lane, 2);
        due("lay(0, 0, " + v + ")", x.lay(0, 0, v), 1);
        x.lay(0, 1, 2);
        due("read of " + v + " in lane " + lane, x.read(0, lane, 0, 1), name < 0 ? -20 : 1);
        due("can() by " + v + " in lane " + lane, x.can(), name < 0 ? 511 : 1 << name);
    }

    private static void promise36() {
        of("Promise 36: CELL i of a SHEET becomes v (its lowest bits): 1.");
        int[][] bytes = {{0, 0}, {8, 8}, {127, -1}, {128, -1}, {255, -1}, {256, 0}, {264, 8}, {-1, -1}, {-128, -1}, {-248, 8}, {-256, 0}, {MIN, 0}, {MAX, -1}, {MIN + 8, 8}};
        int[][] shorts = {{8, 8}, {256, -1}, {32767, -1}, {32768, -1}, {65535, -1}, {65536, 0}, {65544, 8}, {-65536, 0}, {-65528, 8}, {-32768, -1}, {MIN, 0}, {MAX, -1}};
        int[][] ints = {{8, 8}, {256, -1}, {65536, -1}, {65544, -1}, {-65536, -1}, {1 << 24, -1}, {MIN, -1}, {MAX, -1}, {-1, -1}};
        for (int[] v : bytes) {
            dueCell(0, v[0], v[1]);
        }
        for (int[] v : shorts) {
            dueCell(1, v[0], v[1]);
        }
        for (int[] v : ints) {
            dueCell(2, v[0], v[1]);
        }
        of("Promise 36: BAD: k; -10 less the FAULT: NULL, INDEX.");
        for (int k : new int[] {MIN, -1, 4, MAX}) {
            for (int i : new int[] {-1, 0, 40}) {
                refused(BUSY, "lay(" + k + ", " + i + ", 1)", x -> x.lay(k, i, 1), BAD);
            }
        }
        for (int i : new int[] {MIN, -1, 0, 39, 40, MAX}) {
            refused(BUSY, "lay(3, " + i + ", 1), nothing", x -> x.lay(3, i, 1), -11);
            refused(NEW, "lay(0, " + i + ", 1), nothing", x -> x.lay(0, i, 1), -11);
        }
        for (int i : new int[] {MIN, -1, 4, 39, 40, MAX}) {
            refused(BUSY, "lay(0, " + i + ", 1)", x -> x.lay(0, i, 1), -12);
        }
        refused(BUSY, "lay(1, 3, 1)", x -> x.lay(1, 3, 1), -12);
        refused(BUSY, "lay(2, 40, 1)", x -> x.lay(2, 40, 1), -12);
        GuessCalled x = made(BUSY);
        due("lay(0, 0, 1)", x.lay(0, 0, 1), 1);
        due("lay(0, 3, 1)", x.lay(0, 3, 1), 1);
        due("lay(2, 39, 1)", x.lay(2, 39, 1), 1);
    }

    private static GuessCalled withSheetOfGuesses(int lane) {
        GuessCalled x = told(NINE);
        x.sheet(1, lane, 40);
        for (int i = 0; i < 40; i += 2) {
            x.lay(1, i, i / 2 % 9);
        }
        return x;
    }

    private static void promise37() {
        of("Promise 37: n (0 to 20) GUESSES (NAME, ANSWER) are read .. from CELL f on, as by guess(): how many came.");
        for (int lane = 0; lane < 3; lane++) {
            GuessCalled x = withSheetOfGuesses(lane);
            due("read(1, lane, 0, 0)", x.read(1, lane, 0, 0), 0);
            due("can()", x.can(), 511);
            due("read(1, lane, 0, 1)", x.read(1, lane, 0, 1), 1);
            due("can()", x.can(), 510);
            due("read(1, lane, 2, 8)", x.read(1, lane, 2, 8), 8);
            due("can()", x.can(), 0);
            due("torn()", x.torn(), 0);
            x.undo(0);
            due("read(1, lane, 38, 1), the last two cells", x.read(1, lane, 38, 1), 1);
            due("torn()", x.torn(), 0);
            due("can()", x.can(), 509);
            x.undo(0);
            due("read(1, lane, 24, 20), eight are whole", x.read(1, lane, 24, 20), 8);
            due("torn(), behind the last cell", x.torn(), 2);
            x.undo(0);
            due("read(1, lane, 22, 9), nine are whole", x.read(1, lane, 22, 9), 9);
            due("torn()", x.torn(), 0);
        }
        of("Promise 37: BAD: k, lane, n");
        int[][] bad = {
            {MIN, 0, 0, 1}, {-1, 0, 0, 1}, {4, 0, 0, 1}, {MAX, 0, 0, 0}, {0, MIN, 0, 1}, {0, -1, 0, 1}, {0, 3, 0, 1}, {0, MAX, 0, 0},
            {0, 0, 0, MIN}, {0, 0, 0, -1}, {0, 0, 0, 21}, {0, 0, 0, MAX}, {3, 0, 0, 21}, {3, 0, 0, -1}, {4, 0, MIN, 0}, {0, 1, 99, 21}
        };
        for (int[] b : bad) {
            String call = "read(" + b[0] + ", " + b[1] + ", " + b[2] + ", " + b[3] + ")";
            refused(BUSY, call, x -> x.read(b[0], b[1], b[2], b[3]), BAD);
            refused(NEW, call, x -> x.read(b[0], b[1], b[2], b[3]), BAD);
        }
    }

    private static void promise37Refused() {
        of("Promise 37: -20 less i: the i-th, whole, is refused by guess() (in whichever way): then none came; the first met.");
        refused(FILLED, "read(0, 0, 0, 1), full", x -> x.read(0, 0, 0, 1), -20);
        refused(FILLED, "read(0, 0, 0, 20), full", x -> x.read(0, 0, 0, 20), -20);
        refused(FILLED, "read(1, 1, 38, 20), full", x -> x.read(1, 1, 38, 20), -20);
        refused(x -> x.sheet(0, 0, 2), "read(0, 0, 0, 1), no names", x -> x.read(0, 0, 0, 1), -20);
        for (int lane = 0; lane < 3; lane++) {
            int of = lane;
            Ahead ahead = x -> {
                tell(x, NINE);
                x.sheet(1, of, 40);
                x.lay(1, 18, 9);
                x.lay(1, 29, 3);
                x.lay(1, 36, -1);
                x.lay(1, 39, -1);
                x.guess(8, 0);
            };
            refused(ahead, "read, the 10th finds no room", x -> x.read(1, of, 0, 9), -28);
            refused(ahead, "read, the last cell but one ahead of no room", x -> x.read(1, of, 2, 20), -28);
            refused(ahead, "read, no such name", x -> x.read(1, of, 18, 1), -20);
            refused(ahead, "read, no such name, the second", x -> x.read(1, of, 16, 20), -21);
            refused(ahead, "read, no such name, the 8th", x -> x.read(1, of, 4, 8), -27);
            refused(ahead, "read, no such answer", x -> x.read(1, of, 28, 1), -20);
            refused(ahead, "read, no such answer, ahead of no cell", x -> x.read(1, of, 20, 20), -24);
            refused(ahead, "read, a name below 0", x -> x.read(1, of, 36, 20), -20);
            refused(ahead, "read, an answer below 0", x -> x.read(1, of, 38, 1), -20);
        }
        GuessCalled x = withSheetOfGuesses(2);
        due("read of twenty, nine fit", x.read(1, 2, 0, 20), -29);
        due("count(0)", x.count(0), 0);
        x.guess(0, 0);
        due("read of nine, eight fit", x.read(1, 2, 0, 9), -28);
        due("count(0)", x.count(0), 1);
        due("read of eight", x.read(1, 2, 0, 8), 8);
        due("read of one more", x.read(1, 2, 0, 1), -20);
        due("read of none, full", x.read(1, 2, 0, 0), 0);
        due("read(1, 2, 39, 1), full, but not whole", x.read(1, 2, 39, 1), 0);
        due("torn()", x.torn(), 2);
        due("count(0)", x.count(0), 9);
    }

    private static void dueTorn(GuessCalled x, int k, int lane, int f, int n, int fault) {
        String call = "read(" + k + ", " + lane + ", " + f + ", " + n + ")";
        due(call, x.read(k, lane, f, n), 0);
        due("torn() behind " + call, x.torn(), fault);
        due("count(0) behind " + call, x.count(0), 0);
    }

    private static void promise37Torn() {
        of("Promise 37: What the machine refuses: those that were whole ahead come (its FAULT is asked by torn()).");
        GuessCalled x = withSheetOfGuesses(1);
        x.sheet(2, 1, 0);
        x.sheet(3, 1, 3);
        for (int f : new int[] {MIN, MIN + 1, -41, -2, -1, 39, 40, 41, MAX - 1, MAX}) {
            dueTorn(x, 1, 1, f, 1, 2);
            dueTorn(x, 1, 1, f, 20, 2);
            dueTorn(x, 1, 1, f, 0, 0);
            dueTorn(x, 0, 1, f, 1, 1);
            dueTorn(x, 1, 0, f, 1, 3);
        }
        dueTorn(x, 2, 1, 0, 1, 2);
        dueTorn(x, 2, 2, 0, 1, 3);
        dueTorn(x, 3, 1, 2, 1, 2);
        dueTorn(x, 3, 0, 0, 20, 3);
        due("read(3, 1, 0, 20), one is whole", x.read(3, 1, 0, 20), 1);
        due("torn(), half a guess", x.torn(), 2);
        due("read(3, 1, 1, 2), one is whole", x.read(3, 1, 1, 2), 1);
        due("torn(), no cell", x.torn(), 2);
        due("read(3, 1, 1, 1), to the last cell", x.read(3, 1, 1, 1), 1);
        due("torn()", x.torn(), 0);
        due("count(0)", x.count(0), 3);
    }

    private static void promise38() {
        of("Promise 38: The FAULT of the latest read() that came to an end; 0.");
        GuessCalled x = withSheetOfGuesses(2);
        due("torn(), no read yet", x.torn(), 0);
        for (int fault = 0; fault <= 3; fault++) {
            int[] sheets = {1, 0, 1, 1};
            int[] lanes = {2, 2, 2, 0};
            int[] from = {0, 0, 40, 0};
            x.undo(0);
            x.read(sheets[fault], lanes[fault], from[fault], 1);
            due("torn()", x.torn(), fault);
            due("read(4, 0, 0, 1)", x.read(4, 0, 0, 1), BAD);
            due("torn(), a refused read comes to no end", x.torn(), fault);
            due("read(1, 2, 0, 21)", x.read(1, 2, 0, 21), BAD);
            due("torn(), a refused read comes to no end", x.torn(), fault);
            x.lay(1, 1, 3);
            due("read(1, 2, 0, 1)", x.read(1, 2, 0, 1), -20);
            due("torn(), a refused read comes to no end", x.torn(), fault);
            x.lay(1, 1, 0);
            due("lay(1, 40, 0)", x.lay(1, 40, 0), -12);
            due("sheet(1, 2, -1)", x.sheet(1, 2, -1), -14);
            due("torn(), no read", x.torn(), fault);
        }
        x.read(1, 2, 0, 0);
        due("torn(), none was read", x.torn(), 0);
        x.read(1, 2, 40, 1);
        x.text();
        due("torn(), a text is no read", x.torn(), 2);
    }

    private static void promise39() {
        of("Promise 39: How many: 0 GUESSED, 1 HEARD, 2 IMAGES, 3 bytes on THE TAPE, 4 CELLS of SHEET 0 (NONE: nothing), 5 ODDS of all NAMES, 6 NAMES that CAN BE.");
        GuessCalled none = new GuessCalled();
        GuessCalled full = made(FILLED);
        int[] nothingThere = {0, 0, 0, 0, NONE, 0, 0};
        int[] asManyAsMayBe = {9, 6, 2, 160, 40, 45, 6};
        for (int what = 0; what <= 6; what++) {
            due("count(" + what + "), nothing there", none.count(what), nothingThere[what]);
            due("count(" + what + "), full", full.count(what), asManyAsMayBe[what]);
        }
        for (int k = 1; k < 4; k++) {
            none.sheet(k, 0, 5);
        }
        due("count(4), other sheets", none.count(4), NONE);
        none.sheet(0, 2, 0);
        due("count(4), no cells", none.count(4), 0);
        none.sheet(0, 1, 1);
        due("count(4), one cell", none.count(4), 1);
        none.keep(1);
        due("count(2), the second alone", none.count(2), 1);
        GuessCalled odds = told(NINE);
        due("count(6), all", odds.count(6), 9);
        for (int n = 0; n < 9; n++) {
            odds.odd(n, 9);
        }
        due("count(5), the most", odds.count(5), 81);
        for (int n = 0; n < 9; n++) {
            odds.odd(n, 1);
        }
        due("count(5), the least of nine", odds.count(5), 9);
        odds.guess(0, 2);
        odds.guess(1, 2);
        due("count(5), though none can be", odds.count(5), 9);
        due("count(6), none can be", odds.count(6), 0);
        of("Promise 39: BAD.");
        for (int what : new int[] {MIN, -1, 7, MAX}) {
            refused(NEW, "count(" + what + ")", x -> x.count(what), BAD);
            refused(BUSY, "count(" + what + ")", x -> x.count(what), BAD);
        }
    }

    public static void main(String[] args) {
        promise33();
        promise34();
        promise35();
        promise36();
        promise37();
        promise37Refused();
        promise37Torn();
        promise38();
        promise39();
        end();
    }
}
