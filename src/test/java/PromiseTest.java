/** For each promise of the document: ordinary inputs, the edges that it names, wrong inputs. */
public final class PromiseTest {
    private static final int MIN = Integer.MIN_VALUE, MAX = Integer.MAX_VALUE;
    private static final int BAD = -1, STATE = -2, FULL = -3, NONE = -4;
    private static final String FIVE =
            "name tom 3;name tim 2;name ham 1;name abel 4;name ottokar 2;near letters 1;pair o i;pair m n;maid ton;";
    private static final String NINE =
            "name a 1;name b 2;name c 3;name d 4;name e 5;name f 6;name g 7;name h 8;name i 9;";

    private static int wrong = 0;

    private static void due(int promise, String call, long got, long want) {
        if (got != want) {
            wrong++;
            System.out.println("promise " + promise + ": " + call + " answered " + got + ", due is " + want);
        }
    }

    private static int tell(GuessCalled x, String text) {
        for (int i = 0; i < text.length(); i++) {
            x.feed(text.charAt(i));
        }
        return x.text();
    }

    private static GuessCalled told(String text) {
        GuessCalled x = new GuessCalled();
        if (tell(x, text) < 0) {
            throw new IllegalStateException("the test's own text has a fault: " + text);
        }
        return x;
    }

    private static void dueFault(String text, int fault, int place) {
        GuessCalled x = told(FIVE);
        due(4, "text() of \"" + text + "\"", tell(x, text), -10 - place);
        due(5, "fault() of \"" + text + "\"", x.fault(), fault);
        due(4, "count(3) behind a fault", x.count(3), 0);
        due(4, "rule(0) behind a fault", x.rule(0), 5);
        due(4, "rule(3) behind a fault", x.rule(3), 2);
        due(4, "rule(4) behind a fault", x.rule(4), 3);
    }

    private static void dueLines(String text, int lines) {
        GuessCalled x = told(FIVE);
        due(4, "text() of \"" + text + "\"", tell(x, text), lines);
        due(5, "fault() of \"" + text + "\"", x.fault(), 0);
    }

    private static void constantsAndNewObject() {
        due(1, "BAD", GuessCalled.BAD, -1);
        due(1, "STATE", GuessCalled.STATE, -2);
        due(1, "FULL", GuessCalled.FULL, -3);
        due(1, "NONE", GuessCalled.NONE, -4);
        GuessCalled x = new GuessCalled();
        for (int what = 0; what <= 4; what++) {
            due(1, "rule(" + what + ")", x.rule(what), 0);
        }
        int[] counts = {0, 0, 0, 0, NONE, 0, 0};
        for (int what = 0; what < counts.length; what++) {
            due(1, "count(" + what + ")", x.count(what), counts[what]);
        }
        due(1, "fault()", x.fault(), 0);
        due(1, "torn()", x.torn(), 0);
        due(1, "name(0, 0)", x.name(0, 0), BAD);
        for (int k = 0; k < 4; k++) {
            due(1, "lay(" + k + ", 0, 0)", x.lay(k, 0, 0), -11);
        }
    }

    private static void tape() {
        GuessCalled x = new GuessCalled();
        due(2, "feed(-1)", x.feed(-1), BAD);
        due(2, "feed(128)", x.feed(128), BAD);
        due(2, "feed(MIN)", x.feed(MIN), BAD);
        due(2, "feed(MAX)", x.feed(MAX), BAD);
        due(2, "feed(0)", x.feed(0), 1);
        due(2, "feed(127)", x.feed(127), 2);
        for (int i = 3; i <= 160; i++) {
            due(2, "feed(32)", x.feed(32), i);
        }
        due(2, "the 161st feed(32)", x.feed(32), FULL);
        due(2, "feed(128), full", x.feed(128), BAD);
        due(2, "count(3)", x.count(3), 160);
        due(3, "end(161)", x.end(161), BAD);
        due(3, "end(-1)", x.end(-1), BAD);
        due(3, "end(MIN)", x.end(MIN), BAD);
        due(3, "end(160)", x.end(160), 160);
        due(3, "end(2)", x.end(2), 160);
        due(3, "end(3)", x.end(3), BAD);
        due(3, "end(0)", x.end(0), 2);
        due(3, "end(0) again", x.end(0), 0);
        due(3, "feed behind end", x.feed(110), 1);
        GuessCalled y = new GuessCalled();
        for (char c : "name a 1;zzz".toCharArray()) {
            y.feed(c);
        }
        due(3, "end(9)", y.end(9), 12);
        due(3, "text() of what is kept", y.text(), 1);
    }

    private static void textsThatAreTaken() {
        dueLines("", 0);
        dueLines("     ", 0);
        dueLines(FIVE, 9);
        dueLines(NINE, 9);
        dueLines("name a1;", 1);
        dueLines("  name   a   1  ;  ", 1);
        dueLines("name name 1;name near 2;name pair 3;name maid 4;name letters 5;", 5);
        dueLines("name abcdefgh 09;", 1);
        dueLines("near letters 0;", 1);
        dueLines("near sound 8;name a 1;", 2);
        dueLines("near share 08;", 1);
        dueLines("near start 00;", 1);
        dueLines("pair a b;pair a b;pair b a;pair c d;pair y z;", 5);
        dueLines("maid abcdefgh;", 1);
        dueLines("maid maid;", 1);
        GuessCalled x = told(FIVE);
        x.guess(0, 1);
        x.hear(0, 0, true);
        x.keep(0);
        x.keep(1);
        x.law(3, 7);
        due(4, "text() of nothing", x.text(), 0);
        for (int what = 0; what <= 4; what++) {
            due(4, "rule(" + what + ") behind an empty text", x.rule(what), 0);
        }
        due(4, "count(0)", x.count(0), 0);
        due(4, "count(1)", x.count(1), 0);
        due(4, "count(2)", x.count(2), 0);
        due(4, "back(0)", x.back(0), STATE);
        due(4, "near sound 8", tell(x, "name ab 7;near sound 8;maid xyz;pair z a;"), 4);
        due(4, "rule(1)", x.rule(1), 4);
        due(4, "rule(2)", x.rule(2), 8);
        due(4, "rule(4)", x.rule(4), 3);
        due(4, "pair(0)", x.pair(0), 26 * 25);
        due(4, "name(0, 0)", x.name(0, 0), 7);
        due(4, "name(0, 11)", x.name(0, 11), 1);
        x.sheet(0, 0, 3);
        due(4, "text()", x.text(), 0);
        due(4, "sheets stay", x.count(4), 3);
        String[] kinds = {"letters", "start", "long", "share", "sound"};
        for (int k = 0; k < kinds.length; k++) {
            due(4, kinds[k], tell(x, "near " + kinds[k] + " " + (k + 1) + ";"), 1);
            due(4, "kind of " + kinds[k], x.rule(1), k);
            due(4, "measure of " + kinds[k], x.rule(2), k + 1);
        }
    }

    private static void faultsOfTokens() {
        dueFault("name\ta 1;", 1, 4);
        dueFault("Name a 1;", 1, 0);
        dueFault("name a 123;", 1, 7);
        dueFault("name a 001;", 1, 7);
        dueFault("123", 1, 0);
        dueFault("name 123;", 1, 5);
        dueFault("name a 1:", 1, 8);
        dueFault("name a -1;", 1, 7);
        dueFault("name a 1;\n", 1, 9);
        dueFault("name a 1;\0", 1, 9);
        dueFault("name a/", 1, 6);
        dueFault("name a`", 1, 6);
        dueFault("name a{", 1, 6);
        dueFault("name aZ 1;", 1, 6);
        dueFault(";", 2, 0);
        dueFault("12", 2, 0);
        dueFault("  nam a 1;", 2, 2);
        dueFault("names a 1;", 2, 0);
        dueFault("xame a 1;", 2, 0);
        dueFault("naxe a 1;", 2, 0);
        dueFault("near xong 1;", 2, 5);
        dueFault("abcdefghijk", 2, 0);
        dueFault("name", 2, 4);
        dueFault("name  ", 2, 6);
        dueFault("name a", 2, 6);
        dueFault("name a 1", 2, 8);
        dueFault("name a 1 ", 2, 9);
        dueFault("name a 1;n", 2, 9);
        dueFault("name ;", 2, 5);
        dueFault("name 12;", 2, 5);
        dueFault("name a b;", 2, 7);
        dueFault("name a;", 2, 6);
        dueFault("name a 1 2;", 2, 9);
        dueFault("name a 1 b;", 2, 9);
        dueFault("name a 1;;", 2, 9);
        dueFault("near 1;", 2, 5);
        dueFault("near ;", 2, 5);
        dueFault("near letter 1;", 2, 5);
        dueFault("near lettersletters 1;", 2, 5);
        dueFault("near long;", 2, 9);
        dueFault("near long x;", 2, 10);
        dueFault("near long", 2, 9);
        dueFault("near long 1", 2, 11);
        dueFault("near long 1 1;", 2, 12);
        dueFault("pair 1 a;", 2, 5);
        dueFault("pair a 1;", 2, 7);
        dueFault("pair a;", 2, 6);
        dueFault("pair a b", 2, 8);
        dueFault("pair a b c;", 2, 9);
        dueFault("maid;", 2, 4);
        dueFault("maid 1;", 2, 5);
        dueFault("maid a b;", 2, 7);
    }

    private static void faultsOfWhatIsTold() {
        dueFault("name abcdefghi 1;", 3, 5);
        dueFault("name a 0;", 3, 7);
        dueFault("name a 00;", 3, 7);
        dueFault("name a 10;", 3, 7);
        dueFault("name a 99;", 3, 7);
        dueFault("near long 9;", 3, 10);
        dueFault("near long 10;", 3, 10);
        dueFault("pair ab c;", 3, 5);
        dueFault("pair a bc;", 3, 7);
        dueFault("maid abcdefghi;", 3, 5);
        dueFault("near long 1;near long 1;", 4, 12);
        dueFault("near long 1; near", 4, 13);
        dueFault("maid a;maid b;", 4, 7);
        dueFault("name ab 1;name b 1;name ab", 4, 24);
        dueFault("pair a a;", 4, 7);
        dueFault("pair q q", 4, 7);
        dueFault(NINE + "name a 1;", 5, 81);
        dueFault(NINE + "  name", 5, 83);
        dueFault("pair a b;pair a b;pair a b;pair a b;pair a b;pair", 5, 45);
        dueFault("pair a b;pair a b;pair a b;pair a b;pair a b;name a 1;pair 1", 5, 54);
        GuessCalled x = told(FIVE);
        x.keep(0);
        x.guess(1, 1);
        x.hear(2, 2, false);
        due(4, "a fault at last", tell(x, "name zo 9;near share 3;pair u v;maid zoo;?"), -51);
        due(4, "count(0)", x.count(0), 1);
        due(4, "count(1)", x.count(1), 1);
        due(4, "count(2)", x.count(2), 1);
        due(4, "name(0, 0)", x.name(0, 0), 3);
        due(4, "rule(1)", x.rule(1), 0);
        due(4, "rule(2)", x.rule(2), 1);
        due(4, "pair(1)", x.pair(1), 325);
        due(4, "wrote(0)", x.wrote(0), 19);
        due(5, "fault()", x.fault(), 1);
        x.text();
        due(5, "fault() behind a good text", x.fault(), 0);
    }

    private static void whatThereIs() {
        GuessCalled x = told(FIVE);
        int[] rules = {5, 0, 1, 2, 3};
        for (int what = 0; what < rules.length; what++) {
            due(6, "rule(" + what + ")", x.rule(what), rules[what]);
        }
        for (int what : new int[] {-1, 5, MIN, MAX}) {
            due(6, "rule(" + what + ")", x.rule(what), BAD);
            due(8, "wrote(" + what + ")", x.wrote(what), BAD);
            due(9, "pair(" + what + ")", x.pair(what), BAD);
            due(7, "name(" + what + ", 0)", x.name(what, 0), BAD);
        }
        due(7, "name(3, 0)", x.name(3, 0), 4);
        due(7, "name(4, 1)", x.name(4, 1), 7);
        String last = "ottokar";
        for (int i = 0; i < last.length(); i++) {
            due(7, "name(4, 10 + " + i + ")", x.name(4, 10 + i), last.charAt(i) - 'a');
        }
        for (int what : new int[] {17, 18, 9, 2, -1, MIN, MAX}) {
            due(7, "name(4, " + what + ")", x.name(4, what), BAD);
        }
        due(7, "name(0, 13)", x.name(0, 13), BAD);
        due(8, "wrote(0)", x.wrote(0), 19);
        due(8, "wrote(1)", x.wrote(1), 14);
        due(8, "wrote(2)", x.wrote(2), 13);
        due(8, "wrote(3)", x.wrote(3), BAD);
        due(9, "pair(0)", x.pair(0), 26 * 14 + 8);
        due(9, "pair(1)", x.pair(1), 26 * 12 + 13);
        due(9, "pair(2)", x.pair(2), BAD);
    }

    private static void whatIsChanged() {
        GuessCalled x = told(FIVE);
        due(10, "odd(0, 9)", x.odd(0, 9), 3);
        due(10, "odd(0, 1)", x.odd(0, 1), 9);
        due(10, "odd(0, 0)", x.odd(0, 0), BAD);
        due(10, "odd(0, 10)", x.odd(0, 10), BAD);
        due(10, "odd(5, 1)", x.odd(5, 1), BAD);
        due(10, "odd(-1, 1)", x.odd(-1, 1), BAD);
        due(10, "name(0, 0)", x.name(0, 0), 1);
        due(10, "count(5)", x.count(5), 10);
        due(11, "law(4, 8)", x.law(4, 8), 0);
        due(11, "law(5, 0)", x.law(5, 0), BAD);
        due(11, "law(-1, 0)", x.law(-1, 0), BAD);
        due(11, "law(0, 9)", x.law(0, 9), BAD);
        due(11, "law(0, -1)", x.law(0, -1), BAD);
        due(11, "law(2, 0)", x.law(2, 0), 4);
        due(11, "rule(1)", x.rule(1), 2);
        due(11, "rule(2)", x.rule(2), 0);
        due(12, "mix(0, 25)", x.mix(0, 25), 3);
        due(12, "mix(25, 0)", x.mix(25, 0), 4);
        due(12, "mix(3, 3)", x.mix(3, 3), BAD);
        due(12, "mix(26, 3)", x.mix(26, 3), BAD);
        due(12, "mix(3, 26)", x.mix(3, 26), BAD);
        due(12, "mix(-1, 3)", x.mix(-1, 3), BAD);
        due(12, "mix(3, -1)", x.mix(3, -1), BAD);
        due(12, "mix(1, 2)", x.mix(1, 2), 5);
        due(12, "mix(1, 2), the 6th", x.mix(1, 2), FULL);
        due(12, "mix(1, 1), full", x.mix(1, 1), BAD);
        due(12, "pair(3)", x.pair(3), 650);
        due(13, "part(6)", x.part(6), BAD);
        due(13, "part(-1)", x.part(-1), BAD);
        due(13, "part(5)", x.part(5), 5);
        due(13, "part(1)", x.part(1), 5);
        due(13, "part(2)", x.part(2), BAD);
        due(13, "pair(0)", x.pair(0), 372);
        due(13, "pair(1)", x.pair(1), BAD);
        due(13, "part(0)", x.part(0), 1);
        due(13, "part(0)", x.part(0), 0);
    }

    private static void dueNear(GuessCalled x, int kind, int measure, int n, int m, int want) {
        x.law(kind, measure);
        String call = "near(" + n + ", " + m + ") by law " + kind + ", " + measure;
        due(14, call, x.near(n, m), want);
        due(14, call + ", the other way", x.near(m, n), want);
    }

    private static void near() {
        GuessCalled x = told("name tom 1;name tim 1;name ham 1;name tomtom 1;name aeiou 1;name otto 1;name ottokar 1;");
        dueNear(x, 0, 0, 0, 0, 1);
        dueNear(x, 0, 0, 0, 1, 0);
        dueNear(x, 0, 1, 0, 1, 1);
        dueNear(x, 0, 1, 0, 2, 0);
        dueNear(x, 0, 2, 0, 2, 1);
        dueNear(x, 0, 8, 0, 3, 0);
        dueNear(x, 1, 0, 0, 4, 1);
        dueNear(x, 1, 1, 0, 1, 1);
        dueNear(x, 1, 1, 0, 2, 0);
        dueNear(x, 1, 2, 0, 1, 0);
        dueNear(x, 1, 3, 0, 3, 1);
        dueNear(x, 1, 4, 0, 3, 0);
        dueNear(x, 1, 4, 0, 0, 0);
        dueNear(x, 1, 4, 5, 6, 1);
        dueNear(x, 1, 5, 5, 6, 0);
        dueNear(x, 2, 0, 0, 2, 1);
        dueNear(x, 2, 0, 0, 3, 0);
        dueNear(x, 2, 2, 0, 3, 0);
        dueNear(x, 2, 3, 0, 3, 1);
        dueNear(x, 3, 0, 2, 5, 1);
        dueNear(x, 3, 1, 2, 5, 0);
        dueNear(x, 3, 3, 0, 3, 1);
        dueNear(x, 3, 4, 3, 3, 0);
        dueNear(x, 3, 2, 5, 6, 1);
        dueNear(x, 3, 3, 5, 6, 0);
        dueNear(x, 4, 0, 0, 1, 1);
        dueNear(x, 4, 0, 0, 5, 0);
        dueNear(x, 4, 1, 0, 5, 1);
        dueNear(x, 4, 3, 0, 4, 0);
        dueNear(x, 4, 4, 0, 4, 1);
        due(14, "near(7, 0)", x.near(7, 0), BAD);
        due(14, "near(0, 7)", x.near(0, 7), BAD);
        due(14, "near(-1, 0)", x.near(-1, 0), BAD);
        due(14, "near(0, MIN)", x.near(0, MIN), BAD);
    }

    private static void answers() {
        GuessCalled x = told(FIVE);
        due(19, "can()", x.can(), 31);
        due(15, "guess(5, 0)", x.guess(5, 0), BAD);
        due(15, "guess(-1, 0)", x.guess(-1, 0), BAD);
        due(15, "guess(0, 3)", x.guess(0, 3), BAD);
        due(15, "guess(0, -1)", x.guess(0, -1), BAD);
        for (int i = 1; i <= 9; i++) {
            due(15, "guess(2, 0)", x.guess(2, 0), i);
        }
        due(15, "guess(2, 0), the 10th", x.guess(2, 0), FULL);
        due(15, "guess(9, 0), full", x.guess(9, 0), BAD);
        due(19, "can()", x.can(), 27);
        due(16, "undo(10)", x.undo(10), BAD);
        due(16, "undo(-1)", x.undo(-1), BAD);
        due(16, "undo(9)", x.undo(9), 9);
        due(16, "undo(1)", x.undo(1), 9);
        due(16, "undo(2)", x.undo(2), BAD);
        due(16, "count(0)", x.count(0), 1);
        due(15, "guess(0, 1)", x.guess(0, 1), 2);
        due(19, "can()", x.can(), 2);
        x.undo(1);
        due(15, "guess(0, 2)", x.guess(0, 2), 2);
        due(19, "can()", x.can(), 1);
        x.undo(1);
        due(15, "guess(0, 0)", x.guess(0, 0), 2);
        due(19, "can()", x.can(), 24);
        due(16, "undo(0)", x.undo(0), 2);
        due(19, "can()", x.can(), 31);
        x.guess(0, 1);
        x.law(2, 1);
        due(19, "can() by another law", x.can(), 14);
        x.law(1, 8);
        due(19, "can(), itself not near by the law", x.can(), 0);
        x.undo(0);
        x.guess(0, 0);
        due(19, "can(), no is not for itself", x.can(), 30);
    }

    private static void heard() {
        GuessCalled x = told(FIVE);
        due(17, "hear(8, 0, true)", x.hear(8, 0, true), BAD);
        due(17, "hear(-1, 0, true)", x.hear(-1, 0, true), BAD);
        due(17, "hear(0, 26, true)", x.hear(0, 26, true), BAD);
        due(17, "hear(0, -1, false)", x.hear(0, -1, false), BAD);
        due(17, "hear(0, 19, true)", x.hear(0, 19, true), 1);
        due(19, "can(), t ahead", x.can(), 3);
        due(17, "hear(1, 14, false)", x.hear(1, 14, false), 2);
        due(19, "can(), no o", x.can(), 2);
        due(18, "forget(3)", x.forget(3), BAD);
        due(18, "forget(-1)", x.forget(-1), BAD);
        due(18, "forget(0)", x.forget(0), 2);
        due(18, "forget(0)", x.forget(0), 0);
        due(17, "hear(3, 11, false)", x.hear(3, 11, false), 1);
        due(19, "can(), none behind the end is l", x.can(), 23);
        x.forget(0);
        x.hear(3, 11, true);
        due(19, "can(), l at place 3", x.can(), 8);
        x.forget(0);
        x.hear(7, 17, true);
        due(19, "can(), behind the end of all", x.can(), 0);
        due(18, "forget(1)", x.forget(1), 1);
        due(18, "forget(0)", x.forget(0), 1);
        x.hear(7, 25, false);
        for (int i = 2; i <= 6; i++) {
            due(17, "hear(0, 0, false)", x.hear(0, 0, false), i);
        }
        due(17, "hear, the 7th", x.hear(0, 0, false), FULL);
        due(17, "hear, full and bad", x.hear(0, 26, false), BAD);
        due(19, "can()", x.can(), 23);
        due(18, "forget(6)", x.forget(6), 6);
        GuessCalled y = told("name abcdefgh 1;name abcdefgi 1;");
        y.hear(7, 8, true);
        due(19, "can(), the last place", y.can(), 2);
        due(19, "can(), no names", new GuessCalled().can(), 0);
    }

    private static void likelyAndLied() {
        GuessCalled x = told(FIVE);
        due(20, "likely(0, 0)", x.likely(0, 0), 1);
        due(20, "likely(0, 1)", x.likely(0, 1), 4);
        due(20, "likely(4, 1)", x.likely(4, 1), 6);
        due(20, "likely(5, 0)", x.likely(5, 0), BAD);
        due(20, "likely(-1, 0)", x.likely(-1, 0), BAD);
        due(20, "likely(0, 2)", x.likely(0, 2), BAD);
        due(20, "likely(0, -1)", x.likely(0, -1), BAD);
        due(21, "lied()", x.lied(), NONE);
        x.guess(2, 0);
        due(20, "likely(2, 0)", x.likely(2, 0), 0);
        due(20, "likely(2, 1)", x.likely(2, 1), 1);
        due(20, "likely(3, 0)", x.likely(3, 0), 4);
        due(20, "likely(3, 1)", x.likely(3, 1), 11);
        due(21, "lied()", x.lied(), NONE);
        x.guess(1, 2);
        due(20, "likely(1, 0)", x.likely(1, 0), 1);
        due(20, "likely(1, 1)", x.likely(1, 1), 1);
        x.guess(1, 0);
        x.guess(1, 2);
        due(21, "lied()", x.lied(), 2);
        due(20, "likely(0, 0), none can be", x.likely(0, 0), STATE);
        due(20, "likely(5, 0), none can be", x.likely(5, 0), BAD);
        due(20, "likely(0, 2), none can be", x.likely(0, 2), BAD);
        x.undo(0);
        x.hear(0, 25, true);
        due(21, "lied(), nothing guessed", x.lied(), NONE);
        x.guess(2, 0);
        due(21, "lied() by what was heard", x.lied(), 0);
        x.forget(0);
        x.hear(0, 19, true);
        x.guess(0, 0);
        due(21, "lied()", x.lied(), 1);
        due(21, "lied(), no names", new GuessCalled().lied(), NONE);
        due(20, "likely(0, 0), no names", new GuessCalled().likely(0, 0), BAD);
    }

    private static void nextSureMean() {
        GuessCalled x = told(FIVE);
        x.law(0, 2);
        due(22, "next(0)", x.next(0), 0);
        due(22, "next(1)", x.next(1), 2);
        due(23, "sure(0)", x.sure(0), 3);
        due(24, "mean(0)", x.mean(0), 2);
        due(24, "mean(1)", x.mean(1), 1);
        for (int what : new int[] {-1, 3, MIN, MAX}) {
            due(22, "next(" + what + ")", x.next(what), BAD);
            due(23, "sure(" + what + ")", x.sure(what), BAD);
            due(24, "mean(" + what + ")", x.mean(what), BAD);
        }
        due(22, "next(2)", x.next(2), BAD);
        due(23, "sure(2)", x.sure(2), BAD);
        x.law(0, 0);
        due(24, "mean(2), the likeliest", x.mean(2), 3);
        x.odd(0, 9);
        due(24, "mean(0), other odds of the first", x.mean(0), 2);
        due(24, "mean(1), other odds of the first", x.mean(1), 1);
        due(24, "mean(2), other odds of the first", x.mean(2), 0);
        x.guess(3, 2);
        due(22, "next(0), one can be", x.next(0), 3);
        due(22, "next(1), one can be", x.next(1), 0);
        due(23, "sure(0), one can be", x.sure(0), 1);
        due(23, "sure(1), one can be", x.sure(1), 3);
        due(24, "mean(2), one can be", x.mean(2), 3);
        due(24, "mean(0), one can be", x.mean(0), 1);
        x.guess(3, 0);
        due(22, "next(0), none can be", x.next(0), STATE);
        due(23, "sure(0), none can be", x.sure(0), STATE);
        due(24, "mean(0), none can be", x.mean(0), STATE);
        due(24, "mean(3), none can be", x.mean(3), BAD);
        due(24, "mean(2), no names", new GuessCalled().mean(2), STATE);
    }

    /** The first name can not be his, but is near two of the four others: to guess it parts them. */
    private static void guessesThatCanNotBe() {
        GuessCalled x = told("name kkk 1;name kab 1;name kcd 2;name efg 3;name hij 1;near letters 1;");
        x.guess(0, 0);
        x.law(1, 1);
        x.undo(0);
        x.hear(1, 10, false);
        due(22, "can()", x.can(), 30);
        due(22, "next(0)", x.next(0), 0);
        due(22, "next(1)", x.next(1), 2);
        due(23, "sure(0)", x.sure(0), 3);
        due(23, "sure(1)", x.sure(1), 0);
        due(24, "mean(0)", x.mean(0), 13);
        due(24, "mean(1)", x.mean(1), 7);
        due(24, "mean(2)", x.mean(2), 2);
        due(27, "row(1, 0)", x.row(1, 0), 2);
        due(27, "row(1, 10)", x.row(1, 10), 0);
    }

    private static void lawsAndRows() {
        GuessCalled x = told("name a 1;name b 1;name c 1;near long 0;");
        due(25, "best(0), only b and c sound alike", x.best(0), 40);
        due(25, "best(1)", x.best(1), 2);
        due(26, "laws(1)", x.laws(1), 0);
        due(26, "laws(2)", x.laws(2), 1);
        due(26, "laws(3)", x.laws(3), 45);
        GuessCalled y = told("name ab 1;name ac 1;name de 1;name f 1;");
        due(25, "best(0)", y.best(0), 1);
        due(25, "best(1)", y.best(1), 3);
        due(26, "laws(4)", y.laws(4), 45);
        due(26, "laws(9)", y.laws(9), 45);
        due(26, "laws(0)", y.laws(0), BAD);
        due(26, "laws(10)", y.laws(10), BAD);
        due(25, "best(2)", y.best(2), BAD);
        due(25, "best(-1)", y.best(-1), BAD);
        y.guess(0, 2);
        y.guess(0, 0);
        due(25, "best(1), none can be", y.best(1), 3);
        due(27, "row(1, 0), none can be", y.row(1, 0), STATE);
        due(27, "row(1, 11), none can be", y.row(1, 11), BAD);
        GuessCalled one = told("name solo 5;");
        due(25, "best(0), one name", one.best(0), 0);
        due(25, "best(1), one name", one.best(1), 1);
        due(26, "laws(1), one name", one.laws(1), 45);
        due(27, "row(3, 0), one name", one.row(3, 0), 1);
        due(27, "row(3, 12), one name", one.row(3, 12), 0);
        GuessCalled none = new GuessCalled();
        due(25, "best(0), no names", none.best(0), STATE);
        due(25, "best(2), no names", none.best(2), BAD);
        due(26, "laws(1), no names", none.laws(1), STATE);
        due(26, "laws(0), no names", none.laws(0), BAD);
        GuessCalled z = told(FIVE);
        int[] wrongRows = {0, 0, 4, 0, -1, 0, 1, 11, 2, 12, 3, 13, 1, 9, 1, 1, 1, -1, 1, MAX, 1, MIN};
        for (int i = 0; i < wrongRows.length; i += 2) {
            due(27, "row(" + wrongRows[i] + ", " + wrongRows[i + 1] + ")", z.row(wrongRows[i], wrongRows[i + 1]), BAD);
        }
        int[] rows = {1, 0, 3, 1, 10, 0, 2, 0, 2, 2, 10, 0, 2, 11, 2, 3, 0, 1, 3, 10, 0, 3, 11, 2, 3, 12, 3};
        for (int i = 0; i < rows.length; i += 3) {
            due(27, "row(" + rows[i] + ", " + rows[i + 1] + ")", z.row(rows[i], rows[i + 1]), rows[i + 2]);
        }
    }

    /** Neither the first name can be, nor does it part the others. */
    private static void rowWithoutTheFirst() {
        GuessCalled x = told("name zzz 1;name ab 1;name cd 1;name ef 1;near letters 0;");
        x.hear(0, 25, false);
        due(22, "next(0)", x.next(0), 1);
        due(22, "next(1)", x.next(1), 2);
        due(23, "sure(1)", x.sure(1), 1);
        due(27, "row(1, 0)", x.row(1, 0), 2);
        due(27, "row(1, 10)", x.row(1, 10), 1);
        due(27, "row(2, 0)", x.row(2, 0), 1);
        due(27, "row(2, 10)", x.row(2, 10), 1);
        due(27, "row(2, 11)", x.row(2, 11), 2);
        due(27, "row(3, 0)", x.row(3, 0), 1);
        due(27, "row(3, 10), a guess that parts none", x.row(3, 10), 0);
        due(27, "row(3, 12)", x.row(3, 12), 2);
    }

    private static void twins() {
        GuessCalled x = told(FIVE);
        due(28, "twins()", x.twins(), 4);
        x.guess(0, 0);
        due(28, "twins() of those that can be", x.twins(), 3);
        x.undo(0);
        x.hear(0, 19, true);
        due(28, "twins() of two", x.twins(), 1);
        x.law(0, 2);
        due(28, "twins(), a guess that can not be parts none", x.twins(), 1);
        x.forget(0);
        x.law(2, 1);
        due(28, "twins(), by length", x.twins(), 6);
        x.law(2, 0);
        due(28, "twins(), as long", x.twins(), 4);
        due(28, "twins(), no names", new GuessCalled().twins(), 0);
    }

    private static void maid() {
        GuessCalled x = told(FIVE);
        due(29, "meant()", x.meant(), 3);
        due(30, "slips(0)", x.slips(0), 1);
        due(30, "slips(1)", x.slips(1), 2);
        due(30, "slips(2)", x.slips(2), NONE);
        due(30, "slips(4)", x.slips(4), NONE);
        due(30, "slips(5)", x.slips(5), BAD);
        due(30, "slips(-1)", x.slips(-1), BAD);
        due(31, "more(0)", x.more(0), NONE);
        due(31, "more(2)", x.more(2), BAD);
        due(31, "more(-1)", x.more(-1), BAD);
        GuessCalled y = told("name abba 1;name acca 1;name adda 1;name caac 1;name abca 1;name abbaa 1;name abbd 1;maid abba;");
        due(29, "meant(), as it is", y.meant(), 1);
        due(30, "slips(0), none", y.slips(0), 0);
        due(31, "more(0), of several", y.more(0), 26 + 2);
        due(31, "more(1), with those of now", y.more(1), 3);
        due(12, "mix(2, 1)", y.mix(2, 1), 1);
        due(29, "meant(), the pair the other way", y.meant(), 19);
        due(30, "slips(1)", y.slips(1), 2);
        due(30, "slips(4)", y.slips(4), 1);
        due(31, "more(0), of several the least", y.more(0), 3);
        due(31, "more(1)", y.more(1), 4);
        y.mix(0, 1);
        y.mix(5, 6);
        y.mix(5, 6);
        y.mix(5, 6);
        due(29, "meant()", y.meant(), 19);
        due(31, "more(0), though pairs are full", y.more(0), 2);
        GuessCalled first = told("name tk 1;name kt 1;name kk 1;name ak 1;maid kk;");
        due(31, "more(0), the first name too", first.more(0), 26 * 10 + 19);
        due(31, "more(1), the first name too", first.more(1), 3);
        first.mix(10, 19);
        due(30, "slips(0), at the first place", first.slips(0), 1);
        due(30, "slips(1), at the last place", first.slips(1), 1);
        due(31, "more(0)", first.more(0), 10);
        due(31, "more(1)", first.more(1), 4);
        GuessCalled alone = told("name ab 1;name cd 1;maid ac;");
        due(31, "more(0), the first name alone", alone.more(0), 26 + 2);
        due(31, "more(1), the first name alone", alone.more(1), 1);
        GuessCalled longest = told("name abcdefgh 1;name abcdefgi 2;name zbcdefgh 3;maid abcdefgh;pair i h;");
        due(29, "meant(), eight letters", longest.meant(), 3);
        due(30, "slips(0), eight letters", longest.slips(0), 0);
        due(30, "slips(1), eight letters", longest.slips(1), 1);
        due(31, "more(0), eight letters", longest.more(0), 25);
        GuessCalled nine = told(NINE + "maid i;pair a i;");
        due(29, "meant(), nine names", nine.meant(), 257);
        due(31, "more(0), nine names", nine.more(0), 26 + 8);
        due(31, "more(1), nine names", nine.more(1), 3);
        due(22, "next(1), nine names", nine.next(1), 8);
        due(23, "sure(0), nine names", nine.sure(0), 9);
        due(28, "twins(), nine names", nine.twins(), 36);
        due(27, "row(3, 0), nine names", nine.row(3, 0), 6);
        due(27, "row(3, 12), nine names", nine.row(3, 12), 2);
        GuessCalled none = told("name a 1;");
        due(29, "meant(), nothing written", none.meant(), 0);
        due(30, "slips(0), nothing written", none.slips(0), NONE);
        due(31, "more(1), nothing written", none.more(1), NONE);
        due(31, "more(2), nothing written", none.more(2), BAD);
    }

    private static void play() {
        GuessCalled x = told("name a 1;name b 1;name c 1;near letters 0;");
        // 12345 from seed 0: its bits 16 to 30 are 0, so that the first one is guessed.
        due(32, "play(0, 0, 1, 0)", x.play(0, 0, 1, 0), 1);
        due(32, "play(0, 0, 1, 1)", x.play(0, 0, 1, 1), 1);
        due(32, "play(0, 1, 1, 0)", x.play(0, 1, 1, 0), 1);
        due(32, "play(0, 1, 1, 1)", x.play(0, 1, 1, 1), 0);
        due(32, "play(0, 2, 60, 1)", x.play(0, 2, 60, 1), 1);
        int second = (12345 * 1103515245 + 12345) >>> 16 & 0x7FFF;
        due(32, "play(0, 1, 9, 0)", x.play(0, 1, 9, 0), second % 2 == 0 ? 2 : 3);
        due(32, "play(0, 2, 9, 0)", x.play(0, 2, 9, 0), second % 2 == 1 ? 2 : 3);
        for (int bad : new int[] {-1, 3, MIN, MAX}) {
            due(32, "play(0, " + bad + ", 1, 0)", x.play(0, bad, 1, 0), BAD);
        }
        due(32, "play(0, 0, 0, 0)", x.play(0, 0, 0, 0), BAD);
        due(32, "play(0, 0, 61, 0)", x.play(0, 0, 61, 0), BAD);
        due(32, "play(0, 0, 1, 2)", x.play(0, 0, 1, 2), BAD);
        due(32, "play(0, 0, 1, -1)", x.play(0, 0, 1, -1), BAD);
        due(32, "count(0), nothing is guessed", x.count(0), 0);
        x.guess(0, 2);
        x.guess(0, 0);
        due(32, "play(5, 1, 9, 0), none can be but him", x.play(5, 1, 9, 0), 1);
        due(32, "play(0, 0, 1, 0), no names", new GuessCalled().play(0, 0, 1, 0), BAD);
    }

    private static void images() {
        GuessCalled x = told(FIVE);
        due(34, "back(0)", x.back(0), STATE);
        due(33, "keep(2)", x.keep(2), BAD);
        due(33, "keep(-1)", x.keep(-1), BAD);
        due(34, "back(2)", x.back(2), BAD);
        due(34, "back(-1)", x.back(-1), BAD);
        x.guess(2, 0);
        x.hear(0, 19, true);
        due(33, "keep(0)", x.keep(0), 0);
        due(33, "count(2)", x.count(2), 1);
        x.odd(0, 9);
        x.law(2, 3);
        x.part(0);
        x.mix(7, 8);
        x.undo(0);
        x.guess(1, 2);
        x.guess(1, 1);
        x.forget(0);
        x.hear(1, 1, false);
        due(33, "keep(1)", x.keep(1), 0);
        due(33, "keep(1) again", x.keep(1), 1);
        due(33, "count(2)", x.count(2), 2);
        due(34, "back(0)", x.back(0), 1);
        due(34, "name(0, 0)", x.name(0, 0), 3);
        due(34, "rule(1)", x.rule(1), 0);
        due(34, "rule(2)", x.rule(2), 1);
        due(34, "rule(3)", x.rule(3), 2);
        due(34, "pair(0)", x.pair(0), 372);
        due(34, "near(0, 2)", x.near(0, 2), 0);
        due(34, "can()", x.can(), 3);
        due(34, "count(1)", x.count(1), 1);
        due(34, "back(1)", x.back(1), 2);
        due(34, "name(0, 0)", x.name(0, 0), 9);
        due(34, "rule(1)", x.rule(1), 2);
        due(34, "pair(0)", x.pair(0), 190);
        due(34, "near(0, 2)", x.near(0, 2), 1);
        due(34, "can()", x.can(), 0);
        x.undo(0);
        due(34, "back(1), the image is as it was", x.back(1), 2);
        due(34, "wrote(0)", x.wrote(0), 19);
    }

    private static void sheets() {
        GuessCalled x = told(FIVE);
        due(35, "sheet(4, 0, 1)", x.sheet(4, 0, 1), BAD);
        due(35, "sheet(-1, 0, 1)", x.sheet(-1, 0, 1), BAD);
        due(35, "sheet(0, 3, 1)", x.sheet(0, 3, 1), BAD);
        due(35, "sheet(0, -1, -1)", x.sheet(0, -1, -1), BAD);
        due(35, "sheet(4, 0, -1)", x.sheet(4, 0, -1), BAD);
        due(35, "sheet(0, 0, 41)", x.sheet(0, 0, 41), BAD);
        due(35, "sheet(0, 0, -1)", x.sheet(0, 0, -1), -14);
        due(35, "sheet(0, 0, MIN)", x.sheet(0, 0, MIN), -14);
        due(39, "count(4)", x.count(4), NONE);
        due(35, "sheet(0, 0, 40)", x.sheet(0, 0, 40), 1);
        due(39, "count(4)", x.count(4), 40);
        due(36, "lay(0, 39, 1)", x.lay(0, 39, 1), 1);
        due(36, "lay(0, 40, 1)", x.lay(0, 40, 1), -12);
        due(36, "lay(0, -1, 1)", x.lay(0, -1, 1), -12);
        due(36, "lay(1, 0, 1)", x.lay(1, 0, 1), -11);
        due(36, "lay(1, -1, 1)", x.lay(1, -1, 1), -11);
        due(36, "lay(4, 0, 1)", x.lay(4, 0, 1), BAD);
        due(36, "lay(-1, 0, 1)", x.lay(-1, 0, 1), BAD);
        due(35, "sheet(0, 0, 0)", x.sheet(0, 0, 0), 1);
        due(39, "count(4)", x.count(4), 0);
        due(36, "lay(0, 0, 1)", x.lay(0, 0, 1), -12);
        due(35, "sheet(0, 0, -1)", x.sheet(0, 0, -1), -14);
        due(39, "count(4)", x.count(4), 0);
        dueLowestBits(x, 0, 256 + 2, 0);
        dueLowestBits(x, 0, 65536 + 256 * 7 + 2, 0);
        dueLowestBits(x, 0, 128, BAD);
        dueLowestBits(x, 1, 65536 + 2, 0);
        dueLowestBits(x, 1, 256 + 2, BAD);
        dueLowestBits(x, 2, 65536 + 2, BAD);
        dueLowestBits(x, 2, 2, 0);
        x.sheet(2, 2, 2);
        x.lay(2, 1, 2);
        x.sheet(2, 2, 2);
        due(35, "a new row has cells 0", x.read(2, 2, 0, 1), 1);
        due(35, "can() by no for the first", x.can(), 28);
    }

    /** A cell is seen by what it says as the name of a guess: name 2, or none. */
    private static void dueLowestBits(GuessCalled x, int lane, int v, int fits) {
        x.undo(0);
        x.sheet(3, lane, 2);
        due(36, "lay(3, 0, " + v + ")", x.lay(3, 0, v), 1);
        due(36, "lay(3, 1, 2)", x.lay(3, 1, 2), 1);
        due(36, "read of " + v + " in lane " + lane, x.read(3, lane, 0, 1), fits == BAD ? -20 : 1);
        due(36, "can() by " + v + " in lane " + lane, x.can(), fits == BAD ? 31 : 4);
        x.undo(0);
    }

    private static void reads() {
        GuessCalled x = told(FIVE);
        int[] cells = {2, 0, 1, 1, 0, 2, 5, 0};
        x.sheet(1, 2, cells.length);
        for (int i = 0; i < cells.length; i++) {
            x.lay(1, i, cells[i]);
        }
        due(37, "read(4, 2, 0, 1)", x.read(4, 2, 0, 1), BAD);
        due(37, "read(-1, 2, 0, 1)", x.read(-1, 2, 0, 1), BAD);
        due(37, "read(1, 3, 0, 1)", x.read(1, 3, 0, 1), BAD);
        due(37, "read(1, -1, 0, 1)", x.read(1, -1, 0, 1), BAD);
        due(37, "read(1, 2, 0, 21)", x.read(1, 2, 0, 21), BAD);
        due(37, "read(1, 2, 0, -1)", x.read(1, 2, 0, -1), BAD);
        due(37, "read(1, 2, 0, 3)", x.read(1, 2, 0, 3), 3);
        due(38, "torn()", x.torn(), 0);
        due(37, "can()", x.can(), 1);
        due(37, "read(1, 2, 0, 4)", x.read(1, 2, 0, 4), -23);
        due(37, "read(1, 2, 4, 20)", x.read(1, 2, 4, 20), -21);
        due(37, "count(0)", x.count(0), 3);
        due(37, "read(1, 2, 7, 1)", x.read(1, 2, 7, 1), 0);
        due(38, "torn(), half a guess", x.torn(), 2);
        due(37, "read(1, 2, 0, 4), refused", x.read(1, 2, 0, 4), -23);
        due(38, "torn(), of the one before", x.torn(), 2);
        due(37, "read(1, 2, 0, 21), refused", x.read(1, 2, 0, 21), BAD);
        due(38, "torn(), of the one before", x.torn(), 2);
        due(37, "read(1, 2, 99, 0)", x.read(1, 2, 99, 0), 0);
        due(38, "torn()", x.torn(), 0);
        for (int f : new int[] {-1, -2, 8, 9, MIN, MAX, MAX - 1}) {
            due(37, "read(1, 2, 0, 0)", x.read(1, 2, 0, 0), 0);
            due(37, "read(1, 2, " + f + ", 1)", x.read(1, 2, f, 1), 0);
            due(38, "torn()", x.torn(), 2);
        }
        due(37, "read(1, 1, 0, 1)", x.read(1, 1, 0, 1), 0);
        due(38, "torn(), another lane", x.torn(), 3);
        due(37, "read(2, 1, 0, 1)", x.read(2, 1, 0, 1), 0);
        due(38, "torn(), nothing", x.torn(), 1);
        due(37, "read(2, 1, 0, 0)", x.read(2, 1, 0, 0), 0);
        due(38, "torn(), nothing, and nothing is read of it", x.torn(), 0);
        readsOfNone(x);
        x.undo(0);
        x.lay(1, 6, 3);
        due(37, "read(1, 2, 2, 20)", x.read(1, 2, 2, 20), 3);
        due(38, "torn(), behind the whole ones", x.torn(), 2);
        due(37, "count(0)", x.count(0), 3);
        due(37, "read(1, 2, 0, 4)", x.read(1, 2, 0, 4), 4);
        due(37, "read(1, 2, 0, 4), more than fit", x.read(1, 2, 0, 4), -22);
        due(37, "count(0)", x.count(0), 7);
        due(37, "read(1, 2, 4, 2)", x.read(1, 2, 4, 2), 2);
        due(37, "read(1, 2, 0, 1), full", x.read(1, 2, 0, 1), -20);
        due(37, "read(1, 2, 8, 1), full, torn ahead", x.read(1, 2, 8, 1), 0);
        due(37, "count(0)", x.count(0), 9);
    }

    /** Sheet 1 has cells, sheet 2 has nothing, sheet 3 is a row of no cells: none is asked for one. */
    private static void readsOfNone(GuessCalled x) {
        x.sheet(3, 1, 0);
        for (int k = 1; k <= 3; k++) {
            for (int lane = 0; lane <= 2; lane++) {
                due(37, "read(1, 2, -1, 1)", x.read(1, 2, -1, 1), 0);
                due(38, "torn()", x.torn(), 2);
                due(37, "read(" + k + ", " + lane + ", 0, 0)", x.read(k, lane, 0, 0), 0);
                due(38, "torn(), no guess is read", x.torn(), 0);
            }
        }
        due(37, "read(3, 0, 0, 1)", x.read(3, 0, 0, 1), 0);
        due(38, "torn(), another lane ahead of no such cell", x.torn(), 3);
    }

    private static void counts() {
        GuessCalled x = told(FIVE);
        x.guess(2, 0);
        x.guess(2, 0);
        x.hear(7, 0, false);
        x.keep(1);
        x.feed(1);
        x.feed(2);
        x.feed(3);
        x.sheet(0, 1, 7);
        x.odd(1, 9);
        int[] want = {2, 1, 1, 3, 7, 19, 4};
        for (int what = 0; what < want.length; what++) {
            due(39, "count(" + what + ")", x.count(what), want[what]);
        }
        for (int what : new int[] {-1, 7, MIN, MAX}) {
            due(39, "count(" + what + ")", x.count(what), BAD);
        }
    }

    public static void main(String[] args) {
        constantsAndNewObject();
        tape();
        textsThatAreTaken();
        faultsOfTokens();
        faultsOfWhatIsTold();
        whatThereIs();
        whatIsChanged();
        near();
        answers();
        heard();
        likelyAndLied();
        nextSureMean();
        guessesThatCanNotBe();
        lawsAndRows();
        rowWithoutTheFirst();
        twins();
        maid();
        play();
        images();
        sheets();
        reads();
        counts();
        System.out.println(wrong == 0 ? "all answers are as due" : wrong + " answers are not as due");
        if (wrong != 0) {
            System.exit(1);
        }
    }
}
