import java.util.Arrays;

/**
 * A little man has one of some names; who guesses is told yes, near or no.
 * The document (DOC.md) says what each public method answers, as promises 1 to 39.
 *
 * Sets of names are bits of an int (name n is bit n), so that each way of asking on is a walk over
 * at most 512 sets. All rows are made once with the object: no call makes another object.
 */
public final class GuessCalled {
    public static final int BAD = -1, STATE = -2, FULL = -3, NONE = -4;

    private static final int TAPE_BYTES = 160;
    private static final int GREATEST_BYTE = 127;
    private static final int MOST_NAMES = 9;
    private static final int MOST_LETTERS = 8;
    private static final int ALPHABET = 26;
    private static final int GREATEST_ODDS = 9;
    private static final int KINDS = 5;
    private static final int MEASURES = 9;
    private static final int MOST_PAIRS = 5;
    private static final int MOST_GUESSED = 9;
    private static final int MOST_HEARD = 6;
    private static final int IMAGES = 2;
    private static final int SHEETS = 4;
    private static final int LANES = 3;
    private static final int MOST_CELLS = 40;
    private static final int MOST_READ = 20;
    private static final int LONGEST_ROW = 3;
    private static final int LONGEST_PLAY = 60;

    /* Far more than Euclid's way takes with any two ints. */
    private static final int MOST_STEPS = 64;
    /* Above the cost of finding him among any names. */
    private static final int UNSETTLED = 1 << 20;

    private static final int NO = 0, NEAR = 1, YES = 2;

    private static final int LETTERS = 0, START = 1, LONG = 2, SHARE = 3, SOUND = 4;

    private static final int NULL_FAULT = 1, INDEX_FAULT = 2, CAST_FAULT = 3, SIZE_FAULT = 4;
    private static final int FAULT_BASE = -10;
    private static final int REFUSED_BASE = -20;

    private final byte[] tape = new byte[TAPE_BYTES];
    private int taped;
    private int textFault;
    private int readFault;
    private final Reader reader = new Reader();

    private Names names = new Names();
    private Moment now = new Moment();
    /* A text is read into these, so that one with a fault leaves what was told. */
    private Names draftNames = new Names();
    private Moment draft = new Moment();

    private final Moment[] images = new Moment[IMAGES];
    private final boolean[] kept = new boolean[IMAGES];
    private final Sheet[] sheets = new Sheet[SHEETS];

    /* Of each name the set of those near it by the law (itself too, if the law says so). */
    private final int[] nearTo = new int[MOST_NAMES];

    private final Search surest = new Search(false);
    private final Search soonest = new Search(true);
    private final RowSearch rows = new RowSearch();

    /* In how many guesses each law finds him; names stay till the next text, so these do too. */
    private final int[] guessesByLaw = new int[KINDS * MEASURES];
    private final int[] nearByLaw = new int[MOST_NAMES];
    private boolean lawsWeighed;

    private final int[] pairWanted = new int[MOST_NAMES];

    public GuessCalled() {
        for (int k = 0; k < IMAGES; k++) {
            images[k] = new Moment();
        }
        for (int k = 0; k < SHEETS; k++) {
            sheets[k] = new Sheet();
        }
    }

    // ---- the text, what there is

    public int feed(int c) {
        if (!within(c, 0, GREATEST_BYTE)) {
            return BAD;
        }
        if (taped >= TAPE_BYTES) {
            return FULL;
        }
        tape[taped] = (byte) c;
        taped++;
        return taped;
    }

    public int end(int n) {
        if (!within(n, 0, taped)) {
            return BAD;
        }
        int had = taped;
        taped = n;
        return had;
    }

    public int text() {
        draftNames.clear();
        draft.clear();
        int lines = reader.readLines(tape, taped, draftNames, draft);
        taped = 0;
        textFault = reader.fault;
        if (textFault != 0) {
            return FAULT_BASE - reader.start;
        }
        takeDraft();
        return lines;
    }

    public int fault() {
        return textFault;
    }

    public int rule(int what) {
        switch (what) {
            case 0:
                return names.size;
            case 1:
                return now.kind;
            case 2:
                return now.measure;
            case 3:
                return now.pairs;
            case 4:
                return names.written;
            default:
                return BAD;
        }
    }

    public int name(int n, int what) {
        if (!isName(n)) {
            return BAD;
        }
        if (what == 0) {
            return now.odds[n];
        }
        if (what == 1) {
            return names.lengths[n];
        }
        if (!within(what, 10, 10 + names.lengths[n] - 1)) {
            return BAD;
        }
        return names.letterAt(n, what - 10);
    }

    public int wrote(int i) {
        return within(i, 0, names.written - 1) ? names.wrote[i] : BAD;
    }

    public int pair(int k) {
        return within(k, 0, now.pairs - 1) ? pairCode(now.pairFirsts[k], now.pairSeconds[k]) : BAD;
    }

    // ---- what is changed

    public int odd(int n, int v) {
        if (!isName(n) || !within(v, 1, GREATEST_ODDS)) {
            return BAD;
        }
        int were = now.odds[n];
        now.odds[n] = v;
        return were;
    }

    public int law(int kind, int measure) {
        if (!within(kind, 0, KINDS - 1) || !within(measure, 0, MEASURES - 1)) {
            return BAD;
        }
        int was = now.kind;
        now.kind = kind;
        now.measure = measure;
        applyLaw();
        return was;
    }

    public int mix(int a, int b) {
        if (!isLetter(a) || !isLetter(b) || a == b) {
            return BAD;
        }
        if (now.pairs >= MOST_PAIRS) {
            return FULL;
        }
        now.addPair(a, b);
        return now.pairs;
    }

    public int part(int n) {
        if (!within(n, 0, now.pairs)) {
            return BAD;
        }
        int were = now.pairs;
        now.pairs = n;
        return were;
    }

    // ---- answers

    public int near(int n, int m) {
        if (!isName(n) || !isName(m)) {
            return BAD;
        }
        return has(nearTo[n], m) ? 1 : 0;
    }

    public int guess(int n, int answer) {
        if (!isName(n) || !within(answer, NO, YES)) {
            return BAD;
        }
        if (now.guessed >= MOST_GUESSED) {
            return FULL;
        }
        now.addGuess(n, answer);
        return now.guessed;
    }

    public int undo(int n) {
        if (!within(n, 0, now.guessed)) {
            return BAD;
        }
        int were = now.guessed;
        now.guessed = n;
        return were;
    }

    public int hear(int i, int l, boolean is) {
        if (!within(i, 0, MOST_LETTERS - 1) || !isLetter(l)) {
            return BAD;
        }
        if (now.heard >= MOST_HEARD) {
            return FULL;
        }
        now.addHeard(i, l, is);
        return now.heard;
    }

    public int forget(int n) {
        if (!within(n, 0, now.heard)) {
            return BAD;
        }
        int were = now.heard;
        now.heard = n;
        return were;
    }

    public int can() {
        return possible();
    }

    public long likely(int n, int what) {
        if (!isName(n) || !within(what, 0, 1)) {
            return BAD;
        }
        int left = possible();
        if (left == 0) {
            return STATE;
        }
        return fraction(has(left, n) ? now.odds[n] : 0, oddsOf(left), what);
    }

    public int lied() {
        int left = possibleByHeard();
        for (int g = 0; g < now.guessed; g++) {
            left &= answeredSo(now.guessNames[g], now.guessAnswers[g]);
            if (left == 0) {
                return g;
            }
        }
        return NONE;
    }

    // ---- the next guess

    public int next(int what) {
        if (!within(what, 0, 1)) {
            return BAD;
        }
        int left = possible();
        if (left == 0) {
            return STATE;
        }
        int best = 0;
        int fewest = MOST_NAMES + 1;
        for (int g = 0; g < names.size; g++) {
            int byNo = Integer.bitCount(left & answeredSo(g, NO));
            int byNear = Integer.bitCount(left & answeredSo(g, NEAR));
            int worst = Math.max(byNo, byNear);
            if (worst < fewest) {
                fewest = worst;
                best = g;
            }
        }
        return what == 0 ? best : fewest;
    }

    public int sure(int what) {
        if (!within(what, 0, 1)) {
            return BAD;
        }
        int left = possible();
        if (left == 0) {
            return STATE;
        }
        int fewest = surest.leastCost(nearTo, now.odds, names.size, left);
        return what == 0 ? fewest : surest.first;
    }

    public long mean(int what) {
        if (!within(what, 0, 2)) {
            return BAD;
        }
        int left = possible();
        if (left == 0) {
            return STATE;
        }
        int cost = soonest.leastCost(nearTo, now.odds, names.size, left);
        return what == 2 ? soonest.first : fraction(cost, oddsOf(left), what);
    }

    public int best(int what) {
        if (!within(what, 0, 1)) {
            return BAD;
        }
        if (names.size == 0) {
            return STATE;
        }
        weighLaws();
        int best = 0;
        for (int l = 1; l < KINDS * MEASURES; l++) {
            if (guessesByLaw[l] < guessesByLaw[best]) {
                best = l;
            }
        }
        return what == 0 ? best / MEASURES * 10 + best % MEASURES : guessesByLaw[best];
    }

    public int laws(int n) {
        if (!within(n, 1, MOST_NAMES)) {
            return BAD;
        }
        if (names.size == 0) {
            return STATE;
        }
        weighLaws();
        int enough = 0;
        for (int l = 0; l < KINDS * MEASURES; l++) {
            if (guessesByLaw[l] <= n) {
                enough++;
            }
        }
        return enough;
    }

    public int row(int n, int what) {
        if (!within(n, 1, LONGEST_ROW) || what != 0 && !within(what, 10, 10 + n - 1)) {
            return BAD;
        }
        int left = possible();
        if (left == 0) {
            return STATE;
        }
        rows.find(nearTo, names.size, left, n);
        return what == 0 ? rows.least : rows.best[what - 10];
    }

    public int twins() {
        int left = possible();
        int twins = 0;
        for (int a = 0; a < names.size; a++) {
            for (int b = a + 1; b < names.size; b++) {
                if (has(left, a) && has(left, b) && onlyTheirOwnGuessParts(a, b)) {
                    twins++;
                }
            }
        }
        return twins;
    }

    // ---- the maid

    public int meant() {
        int set = 0;
        for (int n = 0; n < names.size; n++) {
            if (wantedPair(n) == 0) {
                set |= 1 << n;
            }
        }
        return set;
    }

    public int slips(int n) {
        if (!isName(n)) {
            return BAD;
        }
        if (wantedPair(n) != 0) {
            return NONE;
        }
        int slips = 0;
        for (int i = 0; i < names.written; i++) {
            if (names.letterAt(n, i) != names.wrote[i]) {
                slips++;
            }
        }
        return slips;
    }

    public int more(int what) {
        if (!within(what, 0, 1)) {
            return BAD;
        }
        int meantNow = 0;
        for (int n = 0; n < names.size; n++) {
            pairWanted[n] = wantedPair(n);
            if (pairWanted[n] == 0) {
                meantNow++;
            }
        }
        int most = 0;
        int best = 0;
        for (int n = 0; n < names.size; n++) {
            int wanted = pairWanted[n];
            int won = wanted > 0 ? namesThatWant(wanted) : 0;
            if (won > most || won == most && won > 0 && wanted < best) {
                most = won;
                best = wanted;
            }
        }
        if (most == 0) {
            return NONE;
        }
        return what == 0 ? best : meantNow + most;
    }

    // ---- by a seed

    public int play(int seed, int name, int n, int what) {
        if (!isName(name) || !within(n, 1, LONGEST_PLAY) || !within(what, 0, 1)) {
            return BAD;
        }
        int left = possible() | 1 << name;
        int made = 0;
        boolean found = false;
        while (made < n && !found) {
            seed = seed * 1103515245 + 12345;
            int guessed = nameAt(left, seed >>> 16 & 0x7FFF);
            made++;
            found = guessed == name;
            left &= answeredSo(guessed, answer(nearTo[guessed], guessed, name));
        }
        if (what == 0) {
            return made;
        }
        return found ? 1 : 0;
    }

    // ---- images, sheets

    public int keep(int k) {
        if (!within(k, 0, IMAGES - 1)) {
            return BAD;
        }
        boolean was = kept[k];
        images[k].copy(now);
        kept[k] = true;
        return was ? 1 : 0;
    }

    public int back(int k) {
        if (!within(k, 0, IMAGES - 1)) {
            return BAD;
        }
        if (!kept[k]) {
            return STATE;
        }
        now.copy(images[k]);
        applyLaw();
        return now.guessed;
    }

    public int sheet(int k, int lane, int n) {
        if (!within(k, 0, SHEETS - 1) || !within(lane, 0, LANES - 1) || n > MOST_CELLS) {
            return BAD;
        }
        if (n < 0) {
            return FAULT_BASE - SIZE_FAULT;
        }
        sheets[k].renew(lane, n);
        return 1;
    }

    public int lay(int k, int i, int v) {
        if (!within(k, 0, SHEETS - 1)) {
            return BAD;
        }
        int fault = sheets[k].faultAt(i);
        if (fault != 0) {
            return FAULT_BASE - fault;
        }
        sheets[k].put(i, v);
        return 1;
    }

    public int read(int k, int lane, int f, int n) {
        if (!within(k, 0, SHEETS - 1) || !within(lane, 0, LANES - 1) || !within(n, 0, MOST_READ)) {
            return BAD;
        }
        Sheet sheet = sheets[k];
        int before = now.guessed;
        int fault = 0;
        int came = 0;
        for (int i = 0; i < n && fault == 0; i++) {
            int at = f + 2 * i;
            fault = sheet.faultOfGuessAt(at, lane);
            if (fault == 0) {
                if (guess(sheet.cells[at], sheet.cells[at + 1]) < 0) {
                    now.guessed = before;
                    return REFUSED_BASE - i;
                }
                came++;
            }
        }
        readFault = fault;
        return came;
    }

    public int torn() {
        return readFault;
    }

    public int count(int what) {
        switch (what) {
            case 0:
                return now.guessed;
            case 1:
                return now.heard;
            case 2:
                return (kept[0] ? 1 : 0) + (kept[1] ? 1 : 0);
            case 3:
                return taped;
            case 4:
                return sheets[0].lane == Sheet.NOTHING ? NONE : sheets[0].size;
            case 5:
                return oddsOf(allNames());
            case 6:
                return Integer.bitCount(possible());
            default:
                return BAD;
        }
    }

    // ---- what the calls share

    private static boolean within(int v, int least, int greatest) {
        return v >= least && v <= greatest;
    }

    private static boolean isLetter(int l) {
        return within(l, 0, ALPHABET - 1);
    }

    private static boolean has(int set, int n) {
        return (set >>> n & 1) != 0;
    }

    private static int pairCode(int a, int b) {
        return ALPHABET * a + b;
    }

    /** Part 0 (above) or 1 (below) of a fraction in lowest terms; below is more than 0. */
    private static long fraction(int above, int below, int what) {
        int divisor = greatestDivisor(above, below);
        if (divisor == 0) {
            return 0;
        }
        return what == 0 ? above / divisor : below / divisor;
    }

    private static int greatestDivisor(int above, int below) {
        int a = above;
        int b = below;
        for (int step = 0; step < MOST_STEPS && a != 0; step++) {
            int rest = b % a;
            b = a;
            a = rest;
        }
        return b;
    }

    private static int answer(int nearGuessed, int guessed, int called) {
        if (guessed == called) {
            return YES;
        }
        return has(nearGuessed, called) ? NEAR : NO;
    }

    /** The name at a place among those of a set, the place taken modulo how many they are. */
    private static int nameAt(int set, int place) {
        int size = Integer.bitCount(set);
        if (size == 0) {
            return 0;
        }
        int rest = set;
        for (int skip = place % size; skip > 0; skip--) {
            rest &= rest - 1;
        }
        return Integer.numberOfTrailingZeros(rest);
    }

    private boolean isName(int n) {
        return within(n, 0, names.size - 1);
    }

    private int allNames() {
        return (1 << names.size) - 1;
    }

    private void takeDraft() {
        Names oldNames = names;
        names = draftNames;
        draftNames = oldNames;
        Moment old = now;
        now = draft;
        draft = old;
        kept[0] = false;
        kept[1] = false;
        lawsWeighed = false;
        applyLaw();
    }

    private void applyLaw() {
        names.fillNear(now.kind, now.measure, nearTo);
    }

    /** The names by which a guess has that answer. */
    private int answeredSo(int guessed, int answer) {
        int itself = 1 << guessed;
        if (answer == YES) {
            return itself;
        }
        int set = answer == NEAR ? nearTo[guessed] : ~nearTo[guessed];
        return set & ~itself & allNames();
    }

    private int possible() {
        int left = possibleByHeard();
        for (int g = 0; g < now.guessed; g++) {
            left &= answeredSo(now.guessNames[g], now.guessAnswers[g]);
        }
        return left;
    }

    private int possibleByHeard() {
        int left = allNames();
        for (int h = 0; h < now.heard; h++) {
            int at = names.withLetterAt(now.heardPlaces[h], now.heardLetters[h]);
            left &= now.heardIs[h] == 1 ? at : ~at;
        }
        return left;
    }

    private int oddsOf(int set) {
        int sum = 0;
        for (int n = 0; n < names.size; n++) {
            if (has(set, n)) {
                sum += now.odds[n];
            }
        }
        return sum;
    }

    private void weighLaws() {
        if (lawsWeighed) {
            return;
        }
        for (int l = 0; l < KINDS * MEASURES; l++) {
            names.fillNear(l / MEASURES, l % MEASURES, nearByLaw);
            guessesByLaw[l] = surest.leastCost(nearByLaw, now.odds, names.size, allNames());
        }
        lawsWeighed = true;
    }

    private boolean onlyTheirOwnGuessParts(int a, int b) {
        for (int g = 0; g < names.size; g++) {
            if (g != a && g != b && has(nearTo[g], a) != has(nearTo[g], b)) {
                return false;
            }
        }
        return true;
    }

    private boolean takenForOneAnother(int a, int b) {
        for (int k = 0; k < now.pairs; k++) {
            int first = now.pairFirsts[k];
            int second = now.pairSeconds[k];
            if (first == a && second == b || first == b && second == a) {
                return true;
            }
        }
        return false;
    }

    /** 0 if a name can be meant as it is, else the one pair that it wants for that; BAD if one is not enough. */
    private int wantedPair(int n) {
        if (names.lengths[n] != names.written) {
            return BAD;
        }
        int wanted = 0;
        for (int i = 0; i < names.written; i++) {
            int a = names.letterAt(n, i);
            int b = names.wrote[i];
            if (a != b && !takenForOneAnother(a, b)) {
                int code = pairCode(Math.min(a, b), Math.max(a, b));
                if (wanted != 0 && wanted != code) {
                    return BAD;
                }
                wanted = code;
            }
        }
        return wanted;
    }

    private int namesThatWant(int pair) {
        int sum = 0;
        for (int n = 0; n < names.size; n++) {
            if (pairWanted[n] == pair) {
                sum++;
            }
        }
        return sum;
    }

    /** The names and what the maid wrote: what a text alone changes. */
    private static final class Names {
        private int size;
        private final int[] lengths = new int[MOST_NAMES];
        private final int[] letters = new int[MOST_NAMES * MOST_LETTERS];
        private final int[] letterSets = new int[MOST_NAMES];
        private final int[] vowels = new int[MOST_NAMES];
        private int written;
        private final int[] wrote = new int[MOST_LETTERS];

        private void clear() {
            size = 0;
            written = 0;
        }

        private int letterAt(int n, int i) {
            return letters[n * MOST_LETTERS + i];
        }

        private void addName(byte[] tape, int start, int length) {
            int set = 0;
            int sounding = 0;
            for (int i = 0; i < length; i++) {
                int letter = tape[start + i] - 'a';
                letters[size * MOST_LETTERS + i] = letter;
                set |= 1 << letter;
                if (isVowel(tape[start + i])) {
                    sounding++;
                }
            }
            lengths[size] = length;
            letterSets[size] = set;
            vowels[size] = sounding;
            size++;
        }

        private void writeDown(byte[] tape, int start, int length) {
            for (int i = 0; i < length; i++) {
                wrote[i] = tape[start + i] - 'a';
            }
            written = length;
        }

        private boolean isTold(byte[] tape, int start, int length) {
            for (int n = 0; n < size; n++) {
                if (isSpelled(n, tape, start, length)) {
                    return true;
                }
            }
            return false;
        }

        private boolean isSpelled(int n, byte[] tape, int start, int length) {
            if (lengths[n] != length) {
                return false;
            }
            for (int i = 0; i < length; i++) {
                if (letterAt(n, i) != tape[start + i] - 'a') {
                    return false;
                }
            }
            return true;
        }

        private int withLetterAt(int place, int letter) {
            int set = 0;
            for (int n = 0; n < size; n++) {
                if (place < lengths[n] && letterAt(n, place) == letter) {
                    set |= 1 << n;
                }
            }
            return set;
        }

        private void fillNear(int kind, int measure, int[] nearTo) {
            for (int n = 0; n < size; n++) {
                int set = 0;
                for (int m = 0; m < size; m++) {
                    if (areNear(kind, measure, n, m)) {
                        set |= 1 << m;
                    }
                }
                nearTo[n] = set;
            }
        }

        private boolean areNear(int kind, int measure, int n, int m) {
            switch (kind) {
                case LETTERS:
                    return lengths[n] == lengths[m] && unlikePlaces(n, m, lengths[n]) <= measure;
                case START:
                    return lengths[n] >= measure && lengths[m] >= measure && unlikePlaces(n, m, measure) == 0;
                case LONG:
                    return Math.abs(lengths[n] - lengths[m]) <= measure;
                case SHARE:
                    return Integer.bitCount(letterSets[n] & letterSets[m]) >= measure;
                case SOUND:
                    return Math.abs(vowels[n] - vowels[m]) <= measure;
                default:
                    return false;
            }
        }

        private int unlikePlaces(int n, int m, int places) {
            int unlike = 0;
            for (int i = 0; i < places; i++) {
                if (letterAt(n, i) != letterAt(m, i)) {
                    unlike++;
                }
            }
            return unlike;
        }

        private static boolean isVowel(int c) {
            return c == 'a' || c == 'e' || c == 'i' || c == 'o' || c == 'u';
        }
    }

    /** What an image holds: odds, the law, pairs, what was guessed and heard. */
    private static final class Moment {
        private final int[] odds = new int[MOST_NAMES];
        private int kind;
        private int measure;
        private int pairs;
        private final int[] pairFirsts = new int[MOST_PAIRS];
        private final int[] pairSeconds = new int[MOST_PAIRS];
        private int guessed;
        private final int[] guessNames = new int[MOST_GUESSED];
        private final int[] guessAnswers = new int[MOST_GUESSED];
        private int heard;
        private final int[] heardPlaces = new int[MOST_HEARD];
        private final int[] heardLetters = new int[MOST_HEARD];
        private final int[] heardIs = new int[MOST_HEARD];

        private void clear() {
            kind = LETTERS;
            measure = 0;
            pairs = 0;
            guessed = 0;
            heard = 0;
        }

        private void copy(Moment from) {
            System.arraycopy(from.odds, 0, odds, 0, MOST_NAMES);
            kind = from.kind;
            measure = from.measure;
            pairs = from.pairs;
            System.arraycopy(from.pairFirsts, 0, pairFirsts, 0, MOST_PAIRS);
            System.arraycopy(from.pairSeconds, 0, pairSeconds, 0, MOST_PAIRS);
            guessed = from.guessed;
            System.arraycopy(from.guessNames, 0, guessNames, 0, MOST_GUESSED);
            System.arraycopy(from.guessAnswers, 0, guessAnswers, 0, MOST_GUESSED);
            heard = from.heard;
            System.arraycopy(from.heardPlaces, 0, heardPlaces, 0, MOST_HEARD);
            System.arraycopy(from.heardLetters, 0, heardLetters, 0, MOST_HEARD);
            System.arraycopy(from.heardIs, 0, heardIs, 0, MOST_HEARD);
        }

        private void addPair(int a, int b) {
            pairFirsts[pairs] = a;
            pairSeconds[pairs] = b;
            pairs++;
        }

        private void addGuess(int n, int answer) {
            guessNames[guessed] = n;
            guessAnswers[guessed] = answer;
            guessed++;
        }

        private void addHeard(int place, int letter, boolean is) {
            heardPlaces[heard] = place;
            heardLetters[heard] = letter;
            heardIs[heard] = is ? 1 : 0;
            heard++;
        }
    }

    /** Reads a text token by token; a fault is of the token that was read last, at its start. */
    private static final class Reader {
        private static final int END = 0, WORD = 1, NUMBER = 2, STOP = 3;
        private static final int NO_TOKEN = 1, MISPLACED = 2, OUT_OF_BOUNDS = 3, TOLD_ALREADY = 4, TOO_MANY = 5;
        private static final int MOST_FIGURES = 2;

        private byte[] tape;
        private int length;
        private Names names;
        private Moment moment;
        private int at;
        private int token;
        private int start;
        private int value;
        private int fault;
        private boolean lawTold;
        private boolean maidTold;

        /** How many lines there are, up to the fault if there is one. */
        private int readLines(byte[] bytes, int size, Names intoNames, Moment intoMoment) {
            tape = bytes;
            length = size;
            names = intoNames;
            moment = intoMoment;
            at = 0;
            fault = 0;
            lawTold = false;
            maidTold = false;
            int lines = 0;
            while (lines < length && take() && token != END && takeLine()) {
                lines++;
            }
            return lines;
        }

        private boolean takeLine() {
            if (token != WORD) {
                return refuse(MISPLACED);
            }
            if (isWord("name")) {
                return takeName() && takeStop();
            }
            if (isWord("near")) {
                return takeLaw() && takeStop();
            }
            if (isWord("pair")) {
                return takePair() && takeStop();
            }
            if (isWord("maid")) {
                return takeMaid() && takeStop();
            }
            return refuse(MISPLACED);
        }

        private boolean takeName() {
            if (names.size >= MOST_NAMES) {
                return refuse(TOO_MANY);
            }
            if (!takeWord(MOST_LETTERS)) {
                return false;
            }
            if (names.isTold(tape, start, at - start)) {
                return refuse(TOLD_ALREADY);
            }
            names.addName(tape, start, at - start);
            if (!takeNumber(1, GREATEST_ODDS)) {
                return false;
            }
            moment.odds[names.size - 1] = value;
            return true;
        }

        private boolean takeLaw() {
            if (lawTold) {
                return refuse(TOLD_ALREADY);
            }
            lawTold = true;
            if (!takeWord(TAPE_BYTES)) {
                return false;
            }
            int kind = kindOfWord();
            if (kind < 0) {
                return refuse(MISPLACED);
            }
            if (!takeNumber(0, MEASURES - 1)) {
                return false;
            }
            moment.kind = kind;
            moment.measure = value;
            return true;
        }

        private boolean takePair() {
            if (moment.pairs >= MOST_PAIRS) {
                return refuse(TOO_MANY);
            }
            if (!takeWord(1)) {
                return false;
            }
            int first = tape[start] - 'a';
            if (!takeWord(1)) {
                return false;
            }
            int second = tape[start] - 'a';
            if (first == second) {
                return refuse(TOLD_ALREADY);
            }
            moment.addPair(first, second);
            return true;
        }

        private boolean takeMaid() {
            if (maidTold) {
                return refuse(TOLD_ALREADY);
            }
            maidTold = true;
            if (!takeWord(MOST_LETTERS)) {
                return false;
            }
            names.writeDown(tape, start, at - start);
            return true;
        }

        private boolean takeWord(int mostLetters) {
            if (!take()) {
                return false;
            }
            if (token != WORD) {
                return refuse(MISPLACED);
            }
            return at - start <= mostLetters || refuse(OUT_OF_BOUNDS);
        }

        private boolean takeNumber(int least, int greatest) {
            if (!take()) {
                return false;
            }
            if (token != NUMBER) {
                return refuse(MISPLACED);
            }
            value = 0;
            for (int i = start; i < at; i++) {
                value = value * 10 + (tape[i] - '0');
            }
            return within(value, least, greatest) || refuse(OUT_OF_BOUNDS);
        }

        private boolean takeStop() {
            return take() && (token == STOP || refuse(MISPLACED));
        }

        private boolean take() {
            skipAll(' ', ' ');
            start = at;
            if (at >= length) {
                token = END;
                return true;
            }
            if (tape[at] == ';') {
                at++;
                token = STOP;
                return true;
            }
            skipAll('a', 'z');
            if (at > start) {
                token = WORD;
                return true;
            }
            skipAll('0', '9');
            token = NUMBER;
            return within(at - start, 1, MOST_FIGURES) || refuse(NO_TOKEN);
        }

        private void skipAll(int least, int greatest) {
            while (at < length && tape[at] >= least && tape[at] <= greatest) {
                at++;
            }
        }

        private boolean refuse(int why) {
            fault = why;
            return false;
        }

        private boolean isWord(String word) {
            if (at - start != word.length()) {
                return false;
            }
            for (int i = 0; i < word.length(); i++) {
                if (tape[start + i] != word.charAt(i)) {
                    return false;
                }
            }
            return true;
        }

        private int kindOfWord() {
            if (isWord("letters")) {
                return LETTERS;
            }
            if (isWord("start")) {
                return START;
            }
            if (isWord("long")) {
                return LONG;
            }
            if (isWord("share")) {
                return SHARE;
            }
            return isWord("sound") ? SOUND : -1;
        }
    }

    /**
     * The least cost of finding him among some names: guesses at the worst, or, in the mean, the
     * sum of guesses times odds. What was asked last is kept, as one search serves several calls
     * and laws that hold the same names for near.
     */
    private static final class Search {
        private final boolean inTheMean;
        private final int[] nearTo = new int[MOST_NAMES];
        private final int[] odds = new int[MOST_NAMES];
        private final int[] costs = new int[1 << MOST_NAMES];
        private int size;
        private int among;
        private int first;

        private Search(boolean inTheMean) {
            this.inTheMean = inTheMean;
        }

        private int leastCost(int[] near, int[] theirOdds, int names, int set) {
            if (!within(names, 0, MOST_NAMES) || !within(set, 0, (1 << names) - 1)) {
                return 0;
            }
            if (!isAsBefore(near, theirOdds, names, set)) {
                System.arraycopy(near, 0, nearTo, 0, names);
                System.arraycopy(theirOdds, 0, odds, 0, names);
                size = names;
                among = set;
                settleAll();
            }
            return costs[set];
        }

        private boolean isAsBefore(int[] near, int[] theirOdds, int names, int set) {
            if (names != size || set != among) {
                return false;
            }
            for (int n = 0; n < names; n++) {
                if (near[n] != nearTo[n] || theirOdds[n] != odds[n]) {
                    return false;
                }
            }
            return true;
        }

        /** Each set among the names comes behind all its parts, the whole last. */
        private void settleAll() {
            int sets = 1 << Integer.bitCount(among);
            int set = 0;
            for (int i = 1; i < sets; i++) {
                set = set - among & among;
                settle(set);
            }
        }

        private void settle(int set) {
            int least = UNSETTLED;
            for (int g = 0; g < size; g++) {
                int others = set & ~(1 << g);
                int near = others & nearTo[g];
                int far = others & ~nearTo[g];
                // A guess that leaves all of them leads nowhere.
                if (near != set && far != set) {
                    int cost = inTheMean ? costs[near] + costs[far] : Math.max(costs[near], costs[far]);
                    if (cost < least) {
                        least = cost;
                        first = g;
                    }
                }
            }
            costs[set] = least + (inTheMean ? oddsOfSet(set) : 1);
        }

        private int oddsOfSet(int set) {
            int sum = 0;
            for (int n = 0; n < size; n++) {
                if (has(set, n)) {
                    sum += odds[n];
                }
            }
            return sum;
        }
    }

    /**
     * The row of guesses whose greatest part is least. Parts do not ask in which order guesses
     * stand, so the first of the best rows is one that goes upwards: only such are tried. A guess
     * told twice parts no more than once, so a shorter row is tried as three, the last told again.
     */
    private static final class RowSearch {
        private static final int WAYS_OF_ANSWERING = 27;

        private final int[] best = new int[LONGEST_ROW];
        private final int[] parts = new int[WAYS_OF_ANSWERING];
        private int least;

        private void find(int[] nearTo, int size, int among, int guesses) {
            least = MOST_NAMES + 1;
            for (int a = 0; a < size; a++) {
                int lastOfB = guesses > 1 ? size - 1 : a;
                for (int b = a; b <= lastOfB; b++) {
                    int lastOfC = guesses > 2 ? size - 1 : b;
                    for (int c = b; c <= lastOfC; c++) {
                        weigh(nearTo, size, among, a, b, c);
                    }
                }
            }
        }

        private void weigh(int[] nearTo, int size, int among, int a, int b, int c) {
            Arrays.fill(parts, 0);
            int greatest = 0;
            for (int n = 0; n < size; n++) {
                if (has(among, n)) {
                    int answers = answer(nearTo[a], a, n) * 9 + answer(nearTo[b], b, n) * 3 + answer(nearTo[c], c, n);
                    parts[answers]++;
                    greatest = Math.max(greatest, parts[answers]);
                }
            }
            if (greatest < least) {
                least = greatest;
                best[0] = a;
                best[1] = b;
                best[2] = c;
            }
        }
    }

    /** A row of cells of a lane, or nothing. */
    private static final class Sheet {
        private static final int NOTHING = -1;
        private static final int BYTES = 0, SHORTS = 1;

        private int lane = NOTHING;
        private int size;
        private final int[] cells = new int[MOST_CELLS];

        private void renew(int newLane, int newSize) {
            lane = newLane;
            size = newSize;
            Arrays.fill(cells, 0);
        }

        private void put(int i, int v) {
            cells[i] = lane == BYTES ? (byte) v : lane == SHORTS ? (short) v : v;
        }

        private int faultAt(int i) {
            if (lane == NOTHING) {
                return NULL_FAULT;
            }
            return within(i, 0, size - 1) ? 0 : INDEX_FAULT;
        }

        /** Asked for each guess, so that a read of none finds no fault, not even of the lane. */
        private int faultOfGuessAt(int i, int asLane) {
            if (lane != NOTHING && lane != asLane) {
                return CAST_FAULT;
            }
            int fault = faultAt(i);
            return fault != 0 ? fault : faultAt(i + 1);
        }
    }
}
