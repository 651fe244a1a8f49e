/** The sentences of promises 10 to 21 (what is changed, answers) that name a boundary, in the document's order. */
public final class AnswerBoundaryTest extends Boundaries {
    private static void promise10() {
        of("Promise 10: ODDS of a NAME become v: what they were. BAD.");
        GuessCalled x = told(NINE);
        due("odd(0, 9)", x.odd(0, 9), 1);
        due("odd(0, 1)", x.odd(0, 1), 9);
        due("odd(8, 1)", x.odd(8, 1), 9);
        due("odd(8, 9)", x.odd(8, 9), 1);
        due("odd(9, 9)", x.odd(9, 9), BAD);
        due("count(5)", x.count(5), 45);
        for (int v : new int[] {MIN, -1, 0, 10, MAX}) {
            refused(BUSY, "odd(0, " + v + ")", y -> y.odd(0, v), BAD);
        }
        for (int n : new int[] {MIN, -1, 5, 9, MAX}) {
            refused(BUSY, "odd(" + n + ", 1)", y -> y.odd(n, 1), BAD);
        }
        refused(NEW, "odd(0, 1)", y -> y.odd(0, 1), BAD);
    }

    private static void promise11() {
        of("Promise 11: The LAW is of a KIND, with a MEASURE: of which KIND it was. BAD.");
        GuessCalled x = told(NINE);
        for (int kind = 0; kind <= 4; kind++) {
            due("law(" + kind + ", 8)", x.law(kind, 8), Math.max(0, kind - 1));
            due("law(" + kind + ", 0)", x.law(kind, 0), kind);
            due("rule(1)", x.rule(1), kind);
            due("rule(2)", x.rule(2), 0);
        }
        for (int kind : new int[] {MIN, -1, 5, MAX}) {
            refused(BUSY, "law(" + kind + ", 0)", y -> y.law(kind, 0), BAD);
            refused(NEW, "law(" + kind + ", 0)", y -> y.law(kind, 0), BAD);
        }
        for (int measure : new int[] {MIN, -1, 9, MAX}) {
            refused(BUSY, "law(1, " + measure + ")", y -> y.law(1, measure), BAD);
            refused(NEW, "law(1, " + measure + ")", y -> y.law(1, measure), BAD);
        }
    }

    private static void promise12() {
        of("Promise 12: A PAIR of LETTERS more: how many there are. BAD (also alike); FULL.");
        GuessCalled x = new GuessCalled();
        due("mix(0, 25)", x.mix(0, 25), 1);
        due("mix(25, 0)", x.mix(25, 0), 2);
        due("mix(0, 25), once more", x.mix(0, 25), 3);
        due("mix(0, 1)", x.mix(0, 1), 4);
        due("mix(24, 25)", x.mix(24, 25), 5);
        due("mix(24, 25), the 6th", x.mix(24, 25), FULL);
        due("pair(4)", x.pair(4), 649);
        for (int l : new int[] {MIN, -1, 26, MAX}) {
            refused(BUSY, "mix(" + l + ", 1)", y -> y.mix(l, 1), BAD);
            refused(BUSY, "mix(1, " + l + ")", y -> y.mix(1, l), BAD);
            refused(BUSY, "mix(" + l + ", " + l + ")", y -> y.mix(l, l), BAD);
        }
        for (int l : new int[] {0, 1, 25}) {
            refused(BUSY, "mix(" + l + ", " + l + ")", y -> y.mix(l, l), BAD);
            refused(NEW, "mix(" + l + ", " + l + ")", y -> y.mix(l, l), BAD);
        }
        refused(FILLED, "mix(0, 1)", y -> y.mix(0, 1), FULL);
        refused(FILLED, "mix(25, 0)", y -> y.mix(25, 0), FULL);
    }

    private static void promise13() {
        of("Promise 13: PAIRS are the first n alone: how many there were. BAD.");
        GuessCalled x = told("pair a z;pair z a;pair a z;pair a b;pair y z;");
        due("part(5), all", x.part(5), 5);
        due("part(4)", x.part(4), 5);
        due("pair(3)", x.pair(3), 1);
        due("pair(4)", x.pair(4), BAD);
        due("mix(3, 4), there is room again", x.mix(3, 4), 5);
        due("part(1)", x.part(1), 5);
        due("pair(0)", x.pair(0), 25);
        due("part(2), more than there are", x.part(2), BAD);
        due("part(0)", x.part(0), 1);
        due("part(0), nothing there", x.part(0), 0);
        for (int n : new int[] {MIN, -1, 4, 5, 6, MAX}) {
            refused(BUSY, "part(" + n + ")", y -> y.part(n), BAD);
        }
        refused(FILLED, "part(6)", y -> y.part(6), BAD);
        refused(FILLED, "part(-1)", y -> y.part(-1), BAD);
        refused(NEW, "part(1)", y -> y.part(1), BAD);
    }

    private static void promise14() {
        of("Promise 14: Whether two NAMES are NEAR (1, 0). BAD.");
        GuessCalled x = told(NINE);
        due("near(8, 8)", x.near(8, 8), 1);
        due("near(0, 8)", x.near(0, 8), 0);
        due("near(9, 0)", x.near(9, 0), BAD);
        due("near(0, 9)", x.near(0, 9), BAD);
        for (int n : new int[] {MIN, -1, 5, 9, MAX}) {
            refused(BUSY, "near(" + n + ", 0)", y -> y.near(n, 0), BAD);
            refused(BUSY, "near(0, " + n + ")", y -> y.near(0, n), BAD);
            refused(BUSY, "near(" + n + ", " + n + ")", y -> y.near(n, n), BAD);
        }
        refused(NEW, "near(0, 0)", y -> y.near(0, 0), BAD);
    }

    private static void promise15() {
        of("Promise 15: GUESSED: a NAME and the ANSWER: how many are. BAD; FULL.");
        GuessCalled x = told(NINE);
        for (int i = 1; i <= 9; i++) {
            due("guess(" + (i < 5 ? 0 : 8) + ", " + i % 3 + ")", x.guess(i < 5 ? 0 : 8, i % 3), i);
        }
        due("guess(0, 0), the 10th", x.guess(0, 0), FULL);
        for (int n : new int[] {MIN, -1, 5, 9, MAX}) {
            refused(BUSY, "guess(" + n + ", 0)", y -> y.guess(n, 0), BAD);
        }
        for (int answer : new int[] {MIN, -1, 3, MAX}) {
            refused(BUSY, "guess(0, " + answer + ")", y -> y.guess(0, answer), BAD);
        }
        for (int answer = 0; answer <= 2; answer++) {
            int told = answer;
            refused(FILLED, "guess(8, " + answer + ")", y -> y.guess(8, told), FULL);
            refused(NEW, "guess(0, " + answer + ")", y -> y.guess(0, told), BAD);
        }
    }

    private static void promise16() {
        of("Promise 16: GUESSED are the first n alone: how many there were. BAD.");
        GuessCalled x = told(NINE);
        for (int i = 0; i < 9; i++) {
            x.guess(i, 0);
        }
        due("undo(9), all", x.undo(9), 9);
        due("undo(8)", x.undo(8), 9);
        due("undo(9), more than there are", x.undo(9), BAD);
        due("guess(0, 0), there is room again", x.guess(0, 0), 9);
        due("undo(0)", x.undo(0), 9);
        due("undo(0), nothing there", x.undo(0), 0);
        due("undo(1), nothing there", x.undo(1), BAD);
        x.guess(0, 0);
        x.guess(8, 0);
        due("undo(1)", x.undo(1), 2);
        due("can(), the first stays", x.can(), 510);
        for (int n : new int[] {MIN, -1, 3, 9, MAX}) {
            refused(BUSY, "undo(" + n + ")", y -> y.undo(n), BAD);
        }
        refused(FILLED, "undo(10)", y -> y.undo(10), BAD);
        refused(FILLED, "undo(-1)", y -> y.undo(-1), BAD);
        refused(NEW, "undo(1)", y -> y.undo(1), BAD);
    }

    private static void promise17() {
        of("Promise 17: HEARD: at a place a LETTER, or not: how many are. BAD; FULL.");
        GuessCalled x = told("name abcdefgz 1;name z 1;");
        due("hear(0, 0, true)", x.hear(0, 0, true), 1);
        due("hear(7, 25, true)", x.hear(7, 25, true), 2);
        due("can()", x.can(), 1);
        due("hear(0, 25, false)", x.hear(0, 25, false), 3);
        due("hear(7, 0, false)", x.hear(7, 0, false), 4);
        due("hear(7, 0, false), once more", x.hear(7, 0, false), 5);
        due("can()", x.can(), 1);
        due("hear(0, 0, false), the 6th", x.hear(0, 0, false), 6);
        due("can()", x.can(), 0);
        due("hear(0, 0, false), the 7th", x.hear(0, 0, false), FULL);
        for (int i : new int[] {MIN, -1, 8, MAX}) {
            refused(BUSY, "hear(" + i + ", 0, true)", y -> y.hear(i, 0, true), BAD);
            refused(BUSY, "hear(" + i + ", 0, false)", y -> y.hear(i, 0, false), BAD);
        }
        for (int l : new int[] {MIN, -1, 26, MAX}) {
            refused(BUSY, "hear(0, " + l + ", true)", y -> y.hear(0, l, true), BAD);
            refused(BUSY, "hear(0, " + l + ", false)", y -> y.hear(0, l, false), BAD);
        }
        refused(FILLED, "hear(0, 1, true)", y -> y.hear(0, 1, true), FULL);
        refused(FILLED, "hear(7, 25, false)", y -> y.hear(7, 25, false), FULL);
    }

    private static void promise18() {
        of("Promise 18: HEARD are the first n alone: how many there were. BAD.");
        GuessCalled x = told("name abcdefgz 1;name z 1;");
        for (int i = 0; i < 6; i++) {
            x.hear(0, 0, i < 5);
        }
        due("forget(6), all", x.forget(6), 6);
        due("forget(5)", x.forget(5), 6);
        due("can()", x.can(), 1);
        due("forget(6), more than there are", x.forget(6), BAD);
        due("hear(0, 0, true), there is room again", x.hear(0, 0, true), 6);
        due("forget(0)", x.forget(0), 6);
        due("forget(0), nothing there", x.forget(0), 0);
        due("forget(1), nothing there", x.forget(1), BAD);
        due("can()", x.can(), 3);
        for (int n : new int[] {MIN, -1, 3, 6, MAX}) {
            refused(BUSY, "forget(" + n + ")", y -> y.forget(n), BAD);
        }
        refused(FILLED, "forget(7)", y -> y.forget(7), BAD);
        refused(FILLED, "forget(-1)", y -> y.forget(-1), BAD);
        refused(NEW, "forget(1)", y -> y.forget(1), BAD);
    }

    private static void promise19() {
        of("Promise 19: NAMES that CAN BE (bits).");
        due("can(), no names", new GuessCalled().can(), 0);
        GuessCalled x = told(NINE);
        due("can(), nine names", x.can(), 511);
        x.guess(8, 2);
        due("can(), the last", x.can(), 256);
        x.guess(0, 2);
        due("can(), none", x.can(), 0);
    }

    private static void promise20() {
        of("Promise 20: How LIKELY a NAME is: 0, 1. BAD; STATE: none CAN BE.");
        GuessCalled x = told(NINE);
        x.guess(8, 2);
        x.guess(0, 2);
        due("likely(0, 0), none can be", x.likely(0, 0), STATE);
        due("likely(8, 1), none can be", x.likely(8, 1), STATE);
        x.undo(1);
        due("likely(8, 0), the last that can be", x.likely(8, 0), 1);
        due("likely(8, 1), the last that can be", x.likely(8, 1), 1);
        due("likely(7, 0)", x.likely(7, 0), 0);
        due("likely(7, 1)", x.likely(7, 1), 1);
        for (int n : new int[] {MIN, -1, 5, 9, MAX}) {
            refused(BUSY, "likely(" + n + ", 0)", y -> y.likely(n, 0), BAD);
        }
        for (int what : new int[] {MIN, -1, 2, MAX}) {
            refused(BUSY, "likely(0, " + what + ")", y -> y.likely(0, what), BAD);
        }
        refused(NONE_LEFT, "likely(0, 0)", y -> y.likely(0, 0), STATE);
        refused(NONE_LEFT, "likely(4, 1)", y -> y.likely(4, 1), STATE);
        refused(NONE_HEARD, "likely(0, 0)", y -> y.likely(0, 0), STATE);
        refused(NEW, "likely(0, 0)", y -> y.likely(0, 0), BAD);
    }

    private static void promise21() {
        of("Promise 21: The first GUESS (from 0 on) by which and by those ahead of it, and by all that was HEARD, no NAME CAN BE.");
        GuessCalled y = told(NINE);
        for (int n = 0; n < 8; n++) {
            y.guess(n, 0);
            due("lied(), one can be", y.lied(), NONE);
        }
        y.guess(8, 0);
        due("lied(), the 9th", y.lied(), 8);
        y.hear(0, 8, false);
        due("lied(), the 8th by what was heard", y.lied(), 7);
        y.hear(0, 25, true);
        due("lied(), the first by what was heard", y.lied(), 0);
        of("Promise 21: NONE: there is no such one.");
        y.undo(0);
        due("lied(), nothing guessed, though none can be", y.lied(), NONE);
        due("can()", y.can(), 0);
        due("lied(), nothing at all", new GuessCalled().lied(), NONE);
        due("lied(), busy", made(BUSY).lied(), NONE);
        due("lied(), none can be", made(NONE_LEFT).lied(), 3);
        due("lied(), none can be by what was heard", made(NONE_HEARD).lied(), 0);
    }

    public static void main(String[] args) {
        promise10();
        promise11();
        promise12();
        promise13();
        promise14();
        promise15();
        promise16();
        promise17();
        promise18();
        promise19();
        promise20();
        promise21();
        end();
    }
}
