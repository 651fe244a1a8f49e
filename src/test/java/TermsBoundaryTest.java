/** The sentences of "Terms" that name a boundary, each with a test of its own, in the document's order. */
public final class TermsBoundaryTest extends Boundaries {
    private static final int ALL_REFUSED = 33;
    private static final String LIKE_AT_SOME_PLACES =
            "name abcdefgh 1;name ijklmnop 1;name abcdefgx 1;name xbcdefgh 1;name abcdefg 1;name a 1;name b 1;";
    private static final String LIKE_BY_SOME_LETTERS =
            "name aaaaaaaa 1;name aaaaaaa 1;name zzza 1;name azzz 1;name bcdfghyw 1;name eiouaeio 1;name aeiouxyz 1;";

    private static void termsTheFirstThatFits() {
        of("Terms: Answers: BAD -1 .. STATE -2 (as told), FULL -3, NONE -4 (there is none), the first that fits");
        refused(FILLED, "feed(128), full", x -> x.feed(128), BAD);
        refused(FILLED, "feed(-1), full", x -> x.feed(-1), BAD);
        refused(FILLED, "mix(3, 3), full", x -> x.mix(3, 3), BAD);
        refused(FILLED, "mix(26, 3), full", x -> x.mix(26, 3), BAD);
        refused(FILLED, "guess(9, 0), full", x -> x.guess(9, 0), BAD);
        refused(FILLED, "guess(0, 3), full", x -> x.guess(0, 3), BAD);
        refused(FILLED, "hear(8, 0, true), full", x -> x.hear(8, 0, true), BAD);
        refused(FILLED, "hear(0, 26, false), full", x -> x.hear(0, 26, false), BAD);
        refused(NONE_LEFT, "likely(5, 0), none can be", x -> x.likely(5, 0), BAD);
        refused(NONE_LEFT, "likely(0, 2), none can be", x -> x.likely(0, 2), BAD);
        refused(NONE_LEFT, "next(2), none can be", x -> x.next(2), BAD);
        refused(NONE_LEFT, "sure(2), none can be", x -> x.sure(2), BAD);
        refused(NONE_LEFT, "mean(3), none can be", x -> x.mean(3), BAD);
        refused(NONE_LEFT, "row(0, 0), none can be", x -> x.row(0, 0), BAD);
        refused(NONE_LEFT, "row(1, 11), none can be", x -> x.row(1, 11), BAD);
        refused(NEW, "best(2), no names", x -> x.best(2), BAD);
        refused(NEW, "laws(0), no names", x -> x.laws(0), BAD);
        refused(NEW, "laws(10), no names", x -> x.laws(10), BAD);
        refused(NEW, "more(2), none", x -> x.more(2), BAD);
        refused(NEW, "back(2), none kept", x -> x.back(2), BAD);
        refused(NEW, "likely(0, 0), no names", x -> x.likely(0, 0), BAD);
    }

    /** Refused one behind another, they leave all as it was. */
    private static void termsWhatIsRefused() {
        of("Terms: what is refused changes nothing (but THE TAPE, as told)");
        refused(NEW, "all that is refused", TermsBoundaryTest::refuseAll, ALL_REFUSED);
        refused(BUSY, "all that is refused", TermsBoundaryTest::refuseAll, ALL_REFUSED);
        refused(NONE_LEFT, "all that is refused", TermsBoundaryTest::refuseAll, ALL_REFUSED);
        refused(FILLED, "what finds no room", TermsBoundaryTest::refuseAllForRoom, 5);
        faulty("name a 1;near sound 3;pair a b;maid abc;name a 1;", 4, 45);
        due("feed(32), the tape is empty", behindAFault().feed(32), 1);
        due("count(0), what was guessed stays", behindAFault().count(0), 2);
    }

    private static GuessCalled behindAFault() {
        GuessCalled x = made(BUSY);
        tell(x, "?");
        return x;
    }

    /** How many of these answer below 0. */
    private static long refuseAll(GuessCalled x) {
        long[] answers = {
            x.feed(128), x.end(161), x.rule(5), x.name(9, 0), x.wrote(8), x.pair(5), x.odd(0, 0), x.odd(9, 1), x.law(5, 0),
            x.law(0, 9), x.mix(0, 0), x.part(6), x.near(0, 9), x.guess(9, 0), x.guess(0, 3), x.undo(10), x.hear(8, 0, true),
            x.hear(0, 26, false), x.forget(7), x.likely(0, 2), x.next(2), x.sure(2), x.mean(3), x.best(2), x.laws(10),
            x.row(4, 0), x.slips(9), x.more(2), x.play(0, 0, 61, 0), x.keep(2), x.back(1), x.sheet(0, 0, -1), x.lay(3, 0, 1)
        };
        return countBelow0(answers);
    }

    private static long refuseAllForRoom(GuessCalled x) {
        return countBelow0(new long[] {x.feed(32), x.mix(0, 1), x.guess(0, 0), x.hear(0, 1, true), x.read(0, 0, 0, 1)});
    }

    private static long countBelow0(long[] answers) {
        long below = 0;
        for (long answer : answers) {
            below += answer < 0 ? 1 : 0;
        }
        return below;
    }

    private static void termsFractions() {
        of("Terms: Fractions are in lowest terms, the denominator above 0 (0 is 0 by 1).");
        GuessCalled x = told("name a 9;name b 9;name c 9;");
        due("likely(0, 0), 9 of 27", x.likely(0, 0), 1);
        due("likely(0, 1), 9 of 27", x.likely(0, 1), 3);
        due("mean(0), 54 by 27", x.mean(0), 2);
        due("mean(1), 54 by 27", x.mean(1), 1);
        x.odd(2, 8);
        due("likely(2, 0), 8 of 26", x.likely(2, 0), 4);
        due("likely(2, 1), 8 of 26", x.likely(2, 1), 13);
        due("mean(0), 51 by 26", x.mean(0), 51);
        due("mean(1), 51 by 26", x.mean(1), 26);
        x.guess(0, 0);
        due("likely(0, 0), it can not be", x.likely(0, 0), 0);
        due("likely(0, 1), it can not be", x.likely(0, 1), 1);
        due("likely(1, 0), nothing to divide by", x.likely(1, 0), 9);
        due("likely(1, 1), nothing to divide by", x.likely(1, 1), 17);
        x.guess(1, 2);
        due("likely(1, 0), 9 of 9", x.likely(1, 0), 1);
        due("likely(1, 1), 9 of 9", x.likely(1, 1), 1);
        due("mean(0), 9 by 9", x.mean(0), 1);
        due("mean(1), 9 by 9", x.mean(1), 1);
        due("likely(2, 1), 0 of 9", x.likely(2, 1), 1);
    }

    private static void termsNames() {
        of("Terms: NAMES (9 at most), by order");
        GuessCalled x = taken(NINE, 9);
        due("rule(0)", x.rule(0), 9);
        for (int n = 0; n < 9; n++) {
            due("name(" + n + ", 10)", x.name(n, 10), n);
        }
        due("rule(0), one", taken("name a 1;", 1).rule(0), 1);
        due("rule(0), none", taken("near long 1;", 1).rule(0), 0);
        faulty(NINE + "name j 1;", 5, 81);
        of("Terms: each of 1 to 8 LETTERS (0 a to 25 z), at places from 0");
        GuessCalled y = taken("name z 1;name abcdefgz 1;", 2);
        due("name(0, 1)", y.name(0, 1), 1);
        due("name(0, 10)", y.name(0, 10), 25);
        due("name(1, 1)", y.name(1, 1), 8);
        due("name(1, 10)", y.name(1, 10), 0);
        due("name(1, 17)", y.name(1, 17), 25);
        faulty("name abcdefghi 1;", 3, 5);
        faulty("name  1;", 2, 6);
        of("Terms: no two alike");
        taken("name ab 1;name abc 1;name a 1;name bb 1;name ac 1;name ba 1;", 6);
        taken("name abcdefgh 1;name abcdefgi 1;name bbcdefgh 1;", 3);
        faulty("name ab 1;name ab 1;", 4, 15);
        faulty("name abcdefgh 1;name b 1;name abcdefgh 2;", 4, 30);
        faulty("name a 1;name b 1;name c 1;name d 1;name e 1;name f 1;name g 1;name h 1;name h 1;", 4, 77);
        of("Terms: with ODDS (1 to 9)");
        due("name(0, 0)", taken("name a 1;", 1).name(0, 0), 1);
        due("name(0, 0)", taken("name a 9;", 1).name(0, 0), 9);
        due("name(0, 0)", taken("name a 01;", 1).name(0, 0), 1);
        due("name(0, 0)", taken("name a 09;", 1).name(0, 0), 9);
        faulty("name a 0;", 3, 7);
        faulty("name a 00;", 3, 7);
        faulty("name a 10;", 3, 7);
        faulty("name a 99;", 3, 7);
    }

    private static void termsLawPairsMaid() {
        of("Terms: A LAW: a KIND and a MEASURE (0 to 8); letters with 0 at first.");
        due("rule(2)", taken("near sound 0;", 1).rule(2), 0);
        due("rule(2)", taken("near sound 8;", 1).rule(2), 8);
        due("rule(2)", taken("near sound 00;", 1).rule(2), 0);
        due("rule(2)", taken("near sound 08;", 1).rule(2), 8);
        faulty("near sound 9;", 3, 11);
        faulty("near sound 09;", 3, 11);
        faulty("near sound 10;", 3, 11);
        faulty("near sound 99;", 3, 11);
        due("rule(1) at first", new GuessCalled().rule(1), 0);
        due("rule(2) at first", new GuessCalled().rule(2), 0);
        GuessCalled x = told("near share 5;");
        tell(x, "name ab 1;name cb 1;name ab");
        due("rule(1) behind a text with a fault", x.rule(1), 3);
        tell(x, "name ab 1;name cb 1;");
        due("rule(1) by a text that tells none", x.rule(1), 0);
        due("rule(2) by a text that tells none", x.rule(2), 0);
        due("near(0, 1) by a text that tells none", x.near(0, 1), 0);
        due("near(0, 0) by a text that tells none", x.near(0, 0), 1);
        of("Terms: PAIRS (5 at most) of LETTERS that the maid takes for one another.");
        due("rule(3)", taken(FIVE_PAIRS, 5).rule(3), 5);
        due("rule(3)", taken("name a 1;", 1).rule(3), 0);
        faulty(FIVE_PAIRS + "pair c d;", 5, 45);
        GuessCalled y = told("pair a b;pair a b;pair a b;pair a b;");
        due("mix(0, 1), the 5th", y.mix(0, 1), 5);
        due("mix(0, 1), the 6th", y.mix(0, 1), FULL);
        of("Terms: What she WROTE: 0 to 8 LETTERS (none at first).");
        due("rule(4) at first", new GuessCalled().rule(4), 0);
        due("rule(4), one", taken("maid z;", 1).rule(4), 1);
        due("rule(4), eight", taken("maid abcdefgz;", 1).rule(4), 8);
        due("rule(4) by a text that tells none", taken("name a 1;", 1).rule(4), 0);
        faulty("maid abcdefghi;", 3, 5);
        faulty("maid ;", 2, 5);
    }

    private static void dueNear(GuessCalled x, int kind, int measure, int n, int m, int want) {
        x.law(kind, measure);
        String by = " by law " + kind + ", " + measure;
        due("near(" + n + ", " + m + ")" + by, x.near(n, m), want);
        due("near(" + m + ", " + n + ")" + by, x.near(m, n), want);
    }

    /** Near by the last measure that is told, and by none on its other side. */
    private static void dueNearFrom(GuessCalled x, int kind, int n, int m, int least) {
        for (int measure = 0; measure <= 8; measure++) {
            dueNear(x, kind, measure, n, m, measure >= least ? 1 : 0);
        }
    }

    private static void dueNearTo(GuessCalled x, int kind, int n, int m, int greatest) {
        for (int measure = 0; measure <= 8; measure++) {
            dueNear(x, kind, measure, n, m, measure <= greatest ? 1 : 0);
        }
    }

    private static void termsKinds() {
        of("Terms: 0 letters: they are as long, and unlike at no more places than MEASURE");
        GuessCalled x = told(LIKE_AT_SOME_PLACES);
        dueNearFrom(x, 0, 0, 1, 8);
        dueNearFrom(x, 0, 0, 2, 1);
        dueNearFrom(x, 0, 0, 3, 1);
        dueNearFrom(x, 0, 2, 3, 2);
        dueNearFrom(x, 0, 0, 0, 0);
        dueNearFrom(x, 0, 0, 4, 9);
        dueNearFrom(x, 0, 5, 6, 1);
        of("Terms: 1 start: both have as many LETTERS as MEASURE, and the same ones at these first places");
        x = told(LIKE_AT_SOME_PLACES);
        dueNearTo(x, 1, 0, 0, 8);
        dueNearTo(x, 1, 0, 2, 7);
        dueNearTo(x, 1, 0, 4, 7);
        dueNearTo(x, 1, 4, 4, 7);
        dueNearTo(x, 1, 0, 3, 0);
        dueNearTo(x, 1, 0, 5, 1);
        dueNearTo(x, 1, 5, 5, 1);
        dueNearTo(x, 1, 5, 6, 0);
        of("Terms: 2 long: their lengths are unlike by MEASURE at most");
        x = told(LIKE_AT_SOME_PLACES);
        dueNearFrom(x, 2, 0, 5, 7);
        dueNearFrom(x, 2, 0, 4, 1);
        dueNearFrom(x, 2, 4, 5, 6);
        dueNearFrom(x, 2, 0, 1, 0);
        dueNearFrom(x, 2, 5, 5, 0);
        of("Terms: 3 share: as many LETTERS as MEASURE, or more (of each LETTER one counts), are in both");
        dueNearTo(x, 3, 0, 0, 8);
        dueNearTo(x, 3, 0, 1, 0);
        dueNearTo(x, 3, 0, 2, 7);
        dueNearTo(x, 3, 0, 5, 1);
        GuessCalled y = told(LIKE_BY_SOME_LETTERS);
        dueNearTo(y, 3, 0, 1, 1);
        dueNearTo(y, 3, 0, 0, 1);
        dueNearTo(y, 3, 2, 3, 2);
        dueNearTo(y, 3, 0, 4, 0);
        of("Terms: 4 sound: how many of their LETTERS are a, e, i, o, u is unlike by MEASURE at most.");
        y = told(LIKE_BY_SOME_LETTERS);
        dueNearFrom(y, 4, 0, 4, 8);
        dueNearFrom(y, 4, 5, 4, 8);
        dueNearFrom(y, 4, 1, 4, 7);
        dueNearFrom(y, 4, 0, 5, 0);
        dueNearFrom(y, 4, 2, 3, 0);
        dueNearFrom(y, 4, 6, 4, 5);
        dueNearFrom(y, 4, 4, 4, 0);
    }

    private static void termsTape() {
        of("Terms: THE TAPE has 160 bytes, places from 0.");
        String all = NINE + FIVE_PAIRS + "near long 0;maid a;";
        GuessCalled x = taken(all + blanks(160 - all.length()), 16);
        due("rule(0)", x.rule(0), 9);
        due("rule(3)", x.rule(3), 5);
        due("rule(4)", x.rule(4), 1);
        due("rule(1), the last byte ends a line", taken(blanks(147) + "near sound 3;", 1).rule(1), 4);
        faulty(blanks(148) + "near sound 3", 2, 160);
        faulty("?" + blanks(159), 1, 0);
        faulty(blanks(159) + "?", 1, 159);
        faulty(blanks(159) + ";", 2, 159);
        faulty(blanks(156) + "name", 2, 160);
        faulty(blanks(159) + "n", 2, 159);
    }

    private static void termsTokens() {
        of("Terms: TOKENS, each as long as may be, blanks (32) between");
        taken("name a1;", 1);
        taken("   name   a   1   ;   ", 1);
        taken("name a 1;name b 2;", 2);
        taken(" ", 0);
        faulty("namea 1;", 2, 0);
        faulty("name a b1;", 2, 7);
        faulty("near long 11;", 3, 10);
        faulty("name" + (char) 31 + "a 1;", 1, 4);
        faulty("name" + (char) 33 + "a 1;", 1, 4);
        faulty("name\ta 1;", 1, 4);
        faulty("name a 1;\n", 1, 9);
        of("Terms: words (a .. z)");
        taken("name a 1;name z 1;", 2);
        faulty("name `", 1, 5);
        faulty("name {", 1, 5);
        faulty("name A 1;", 1, 5);
        faulty("name Z 1;", 1, 5);
        faulty("name a` 1;", 1, 6);
        faulty("name z{ 1;", 1, 6);
        of("Terms: NUMBERS (1 or 2 figures)");
        taken("near long 0;", 1);
        taken("name a 9;", 1);
        taken("near long 08;", 1);
        faulty("near long /;", 1, 10);
        faulty("near long :;", 1, 10);
        faulty("near long 008;", 1, 10);
        faulty("near long 1/;", 1, 11);
        faulty("near long 1:;", 1, 11);
        faulty("near long -1;", 1, 10);
        of("Terms: one ; .");
        faulty("name a 1:", 1, 8);
        faulty("name a 1<", 1, 8);
        faulty("name a 1;;", 2, 9);
        faulty(";", 2, 0);
    }

    private static void termsGrammar() {
        of("Terms: text: { line }");
        taken("", 0);
        due("rule(0) of no line", taken("", 0).rule(0), 0);
        taken("name a 1;", 1);
        of("Terms: line: name w N ; | near K N ; | pair w w ; | maid w ;");
        faulty("nam a 1;", 2, 0);
        faulty("names a 1;", 2, 0);
        faulty("nears long 1;", 2, 0);
        faulty("pai a b;", 2, 0);
        faulty("maide a;", 2, 0);
        faulty("fame a 1;", 2, 0);
        faulty("dear long 1;", 2, 0);
        faulty("hair a b;", 2, 0);
        faulty("paid a;", 2, 0);
        faulty("name a 1 1;", 2, 9);
        faulty("near long 1 1;", 2, 12);
        faulty("pair a b c;", 2, 9);
        faulty("maid a b;", 2, 7);
        of("Terms: K: letters | start | long | share | sound");
        String[] kinds = {"letters", "start", "long", "share", "sound"};
        for (int k = 0; k < kinds.length; k++) {
            due("rule(1) by " + kinds[k], taken("near " + kinds[k] + " 1;", 1).rule(1), k);
            faulty("near " + kinds[k] + "s 1;", 2, 5);
            faulty("near " + kinds[k].substring(1) + " 1;", 2, 5);
            faulty("near x" + kinds[k].substring(1) + " 1;", 2, 5);
            faulty("near " + kinds[k].substring(0, kinds[k].length() - 1) + " 1;", 2, 5);
        }
        of("Terms: w: any word");
        taken("name name 1;name near 1;name pair 1;name maid 1;name letters 1;maid maid;", 6);
    }

    private static void termsFaults() {
        of("Terms: FAULTS, the first met as it is read (a TOKEN is read when the one before has been taken)");
        faulty("name abcdefghi?", 3, 5);
        faulty("name a 10?", 3, 7);
        faulty("near x?", 2, 5);
        faulty("near long 9?", 3, 10);
        faulty("pair ab ?", 3, 5);
        faulty("pair a a?", 4, 7);
        faulty("name a 1;name a ?", 4, 14);
        faulty("near long 1;near ?", 4, 12);
        faulty("maid a;maid ?", 4, 7);
        faulty(NINE + "name ?", 5, 81);
        faulty(NINE + "name a", 5, 81);
        faulty(FIVE_PAIRS + "pair ?", 5, 45);
        faulty("names ?", 2, 0);
        of("Terms: 1 no TOKEN, a NUMBER that is too long (its first byte).");
        faulty("\0", 1, 0);
        faulty((char) 127 + "", 1, 0);
        faulty("  ?", 1, 2);
        faulty("100", 1, 0);
        faulty("name a 100;", 1, 7);
        faulty("name a 000000000;", 1, 7);
        faulty("name 100;", 1, 5);
        of("Terms: 2 a TOKEN that can not stand there (a word that begins no line, is no K; or the end: the length).");
        faulty("12", 2, 0);
        faulty("x", 2, 0);
        faulty("abcdefghijklmn", 2, 0);
        faulty("near abcdefghijklmn 1;", 2, 5);
        faulty("name", 2, 4);
        faulty("name  ", 2, 6);
        faulty("name a", 2, 6);
        faulty("name a 1", 2, 8);
        faulty("name a 1 ", 2, 9);
        faulty("near", 2, 4);
        faulty("near long", 2, 9);
        faulty("near long 1", 2, 11);
        faulty("pair", 2, 4);
        faulty("pair a", 2, 6);
        faulty("pair a b", 2, 8);
        faulty("maid", 2, 4);
        faulty("maid a", 2, 6);
        faulty("name ;", 2, 5);
        faulty("name 1;", 2, 5);
        faulty("name a;", 2, 6);
        faulty("near 1;", 2, 5);
        faulty("near long;", 2, 9);
        faulty("near long x;", 2, 10);
        faulty("pair 1 a;", 2, 5);
        faulty("pair a 1;", 2, 7);
        faulty("pair a;", 2, 6);
        faulty("maid 1;", 2, 5);
        faulty("maid a 1;", 2, 7);
    }

    private static void termsFaultsOfWhatIsTold() {
        of("Terms: 3 a NUMBER out of its bounds, a word that is too long (its first byte).");
        taken("pair a b;", 1);
        faulty("pair ab c;", 3, 5);
        faulty("pair a bc;", 3, 7);
        faulty("  name abcdefghi 1;", 3, 7);
        faulty("name a  10;", 3, 8);
        of("Terms: 4 near, maid for the second time (its word)");
        taken("near long 1;maid a;", 2);
        faulty("near long 1; near long 1;", 4, 13);
        faulty("near long 1;name a 1;near", 4, 21);
        faulty("maid a; maid a;", 4, 8);
        faulty("maid a;near long 1;maid", 4, 19);
        of("Terms: a NAME that is told already, the second LETTER of a PAIR that is the first one (it).");
        taken("pair a b;pair b a;pair a b;", 3);
        faulty("name a 1;name  a 2;", 4, 15);
        faulty("pair a  a;", 4, 8);
        faulty("pair z z", 4, 7);
        of("Terms: 5 the 10th name, the 6th pair (its word).");
        faulty(NINE + "  name", 5, 83);
        faulty(NINE + "near long 1;name x 1;", 5, 93);
        faulty(FIVE_PAIRS + "  pair", 5, 47);
        faulty(FIVE_PAIRS + "maid a;pair a b;", 5, 52);
    }

    private static void termsATextThatIsTaken() {
        of("Terms: A text that is taken tells all, in place of what there was; nothing is GUESSED, HEARD; IMAGES are gone.");
        GuessCalled x = told("name a 1;name b 1;near share 3;pair a b;maid abc;");
        x.guess(1, 0);
        x.hear(0, 0, false);
        x.keep(0);
        x.sheet(0, 0, 40);
        for (String text : new String[] {"", "name a 1;", "name a 1;", ""}) {
            tell(x, text);
            dueToldAnew(x, text.length() / 9);
            tell(x, "name q 9;near sound 3;pair a b;maid abc;?");
            dueToldAnew(x, text.length() / 9);
            x.guess(0, 0);
            x.hear(0, 0, true);
            x.law(2, 3);
            x.mix(0, 1);
            x.keep(0);
            x.keep(1);
        }
        tell(x, "maid abc;");
        tell(x, "name a 1;");
        tell(x, "name a 1;");
        dueToldAnew(x, 1);
    }

    private static void dueToldAnew(GuessCalled x, int names) {
        due("rule(0)", x.rule(0), names);
        for (int what = 1; what <= 4; what++) {
            due("rule(" + what + ")", x.rule(what), 0);
        }
        for (int what = 0; what <= 3; what++) {
            due("count(" + what + ")", x.count(what), 0);
        }
        due("back(0)", x.back(0), STATE);
        due("back(1)", x.back(1), STATE);
        due("can()", x.can(), (1 << names) - 1);
        due("count(4), sheets stay", x.count(4), 40);
    }

    private static void termsCanBe() {
        of("Terms: at a place (0 to 7) a LETTER, or not that one (none behind the end of a NAME)");
        GuessCalled x = told("name ab 1;name abc 1;name abcdefgh 1;");
        int[] there = {7, 7, 6, 4, 4, 4, 4, 4};
        for (int i = 0; i < there.length; i++) {
            x.forget(0);
            x.hear(i, i, true);
            due("can(), its letter at place " + i, x.can(), there[i]);
            x.forget(0);
            x.hear(i, i, false);
            due("can(), not its letter at place " + i, x.can(), 7 - there[i]);
            x.forget(0);
            x.hear(i, 25, false);
            due("can(), not z at place " + i, x.can(), 7);
            x.forget(0);
            x.hear(i, 0, false);
            due("can(), not a at place " + i, x.can(), i == 0 ? 0 : 7);
        }
        of("Terms: each ANSWER is as it has to be (2 just for it; 1 just for others that are NEAR)");
        int[][] laws = {{0, 0}, {0, 8}, {1, 8}, {2, 0}, {3, 8}};
        int[] nearTheFirst = {0, 14, 0, 14, 0};
        GuessCalled y = told("name a 1;name b 1;name c 1;name d 1;");
        for (int l = 0; l < laws.length; l++) {
            y.law(laws[l][0], laws[l][1]);
            int[] left = {14 - nearTheFirst[l], nearTheFirst[l], 1};
            for (int answer = 0; answer <= 2; answer++) {
                y.undo(0);
                y.guess(0, answer);
                due("can() by answer " + answer + ", law " + laws[l][0] + ", " + laws[l][1], y.can(), left[answer]);
            }
        }
    }

    private static void termsGuessedAndHeard() {
        of("Terms: GUESSED (9): a NAME, the ANSWER: 0 no, 1 near, 2 yes.");
        GuessCalled x = told(NINE + "near long 0;");
        int[] left = {0, 510, 1};
        for (int answer = 0; answer <= 2; answer++) {
            x.undo(0);
            due("guess(0, " + answer + ")", x.guess(0, answer), 1);
            due("can() by " + answer, x.can(), left[answer]);
        }
        for (int i = 2; i <= 9; i++) {
            due("guess(0, 2)", x.guess(0, 2), i);
        }
        due("guess(0, 2), the 10th", x.guess(0, 2), FULL);
        due("can()", x.can(), 1);
        of("Terms: HEARD (6)");
        GuessCalled y = new GuessCalled();
        for (int i = 1; i <= 6; i++) {
            due("hear(7, 25, true)", y.hear(7, 25, true), i);
        }
        due("hear(7, 25, true), the 7th", y.hear(7, 25, true), FULL);
        due("count(1)", y.count(1), 6);
    }

    private static void termsFinding() {
        of("Terms: It is LIKELY by its ODDS among all that CAN BE.");
        GuessCalled x = told("name a 9;name b 1;name c 8;");
        due("likely(1, 0)", x.likely(1, 0), 1);
        due("likely(1, 1)", x.likely(1, 1), 18);
        x.guess(0, 0);
        due("likely(1, 1), two can be", x.likely(1, 1), 9);
        x.guess(2, 0);
        due("likely(1, 1), it alone can be", x.likely(1, 1), 1);
        of("Terms: guess behind guess (any of the NAMES, each when the ANSWER to the one before is known) till the ANSWER is yes.");
        GuessCalled y = told("name kkk 1;name kab 1;name kcd 2;name efg 3;name hij 1;near start 1;");
        y.hear(1, 10, false);
        due("can(), the first can not be", y.can(), 30);
        due("sure(1), the first, which can not be", y.sure(1), 0);
        due("next(0), the first, which can not be", y.next(0), 0);
        due("row(1, 10), the first, which can not be", y.row(1, 10), 0);
        of("Terms: SURELY in n: there is a way by which none of them takes more than n.");
        due("sure(0)", y.sure(0), 3);
        due("laws(1), one name", told("name a 1;").laws(1), 45);
        due("laws(1), two names", told("name a 1;name b 1;").laws(1), 0);
        due("laws(2), two names", told("name a 1;name b 1;").laws(2), 45);
        of("Terms: THE MEAN: guesses that it takes, by ODDS.");
        due("mean(0), 13 by 7", y.mean(0), 13);
        due("mean(1), 13 by 7", y.mean(1), 7);
        due("mean(0), 1 by 1", told("name a 9;").mean(0), 1);
        of("Terms: A ROW of guesses told beforehand PARTS NAMES that would be answered unlike by it.");
        due("row(1, 0), each is answered in its own way", told("name ab 1;name ac 1;name de 1;near letters 1;").row(1, 0), 1);
        due("row(1, 0), no two others are answered unlike", told("name ab 1;name ac 1;name de 1;near letters 0;").row(1, 0), 2);
    }

    private static void termsMeant() {
        of("Terms: MEANT can be a NAME by the maid, if it is as long as what she WROTE");
        due("meant()", told("name a 1;name aa 1;name aaa 1;maid aa;").meant(), 2);
        due("meant(), eight letters", told("name aaaaaaaa 1;name aaaaaaa 1;maid aaaaaaaa;").meant(), 1);
        due("meant(), none written", told("name a 1;name aa 1;").meant(), 0);
        of("Terms: and at each place has the same LETTER or one of a PAIR with it");
        GuessCalled x = told("name aba 1;name abb 1;name bba 1;name acb 1;name cba 1;maid aba;pair b a;");
        due("meant()", x.meant(), 7);
        due("mix(1, 2)", x.mix(1, 2), 2);
        due("meant(), not by two pairs at one place", x.meant(), 15);
        due("part(0)", x.part(0), 2);
        due("meant(), no pair", x.meant(), 1);
        of("Terms: SLIPS are places that are unlike.");
        due("slips(0)", x.slips(0), 0);
        x.mix(0, 1);
        due("slips(1), the last place", x.slips(1), 1);
        due("slips(2), the first place", x.slips(2), 1);
        x.mix(2, 1);
        due("slips(3), two places by two pairs", x.slips(3), 2);
    }

    private static void termsSheets() {
        of("Terms: SHEETS 0 to 3 are rows of BYTES (lane 0), SHORTS (1), INTS (2) with 0 to 40 CELLS, or nothing (at first).");
        int[][] greatest = {{127, 128}, {32767, 32768}, {MAX, MAX}};
        for (int lane = 0; lane < 3; lane++) {
            GuessCalled x = told(NINE);
            for (int k = 0; k < 4; k++) {
                due("lay(" + k + ", 0, 0), nothing", x.lay(k, 0, 0), -11);
                due("sheet(" + k + ", " + lane + ", 0)", x.sheet(k, lane, 0), 1);
                due("lay(" + k + ", 0, 0), no cell", x.lay(k, 0, 0), -12);
                due("sheet(" + k + ", " + lane + ", 40)", x.sheet(k, lane, 40), 1);
                due("lay(" + k + ", 39, 0)", x.lay(k, 39, 0), 1);
                due("lay(" + k + ", 40, 0)", x.lay(k, 40, 0), -12);
                due("lay, the greatest", x.lay(k, 0, greatest[lane][0]), 1);
                due("lay, one more", x.lay(k, 0, greatest[lane][1]), 1);
                due("sheet(" + k + ", " + lane + ", 41)", x.sheet(k, lane, 41), BAD);
            }
        }
        of("Terms: A FAULT is what the machine finds: 1 NULL (nothing), 2 INDEX, 3 CAST (another lane), 4 SIZE (below 0).");
        GuessCalled x = told(NINE);
        x.sheet(1, 1, 2);
        int[][] reads = {{0, 0, 0, 1}, {0, 2, 99, 1}, {1, 1, -1, 2}, {1, 1, 1, 2}, {1, 1, 2, 2}, {1, 0, 0, 3}, {1, 2, 0, 3}, {1, 2, 2, 3}};
        for (int[] r : reads) {
            due("read(" + r[0] + ", " + r[1] + ", " + r[2] + ", 1)", x.read(r[0], r[1], r[2], 1), 0);
            due("torn()", x.torn(), r[3]);
        }
        due("read(1, 1, 0, 1)", x.read(1, 1, 0, 1), 1);
        due("torn()", x.torn(), 0);
        due("sheet(0, 0, -1)", x.sheet(0, 0, -1), -14);
        due("sheet(0, 0, 0)", x.sheet(0, 0, 0), 1);
    }

    public static void main(String[] args) {
        termsTheFirstThatFits();
        termsWhatIsRefused();
        termsFractions();
        termsNames();
        termsLawPairsMaid();
        termsKinds();
        termsTape();
        termsTokens();
        termsGrammar();
        termsFaults();
        termsFaultsOfWhatIsTold();
        termsATextThatIsTaken();
        termsGuessedAndHeard();
        termsCanBe();
        termsFinding();
        termsMeant();
        termsSheets();
        end();
    }
}
