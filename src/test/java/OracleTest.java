import java.math.BigInteger;
import java.util.ArrayList;
import java.util.Arrays;
import java.util.HashMap;
import java.util.HashSet;
import java.util.List;
import java.util.Map;
import java.util.Random;
import java.util.Set;
import java.util.TreeSet;

/**
 * Runs of calls by a fixed seed, each answer against a plain model that follows the document's
 * words: names as Strings, sets as Sets, each search by trying all. It shares no code with the class.
 */
public final class OracleTest {
    private static final int RUNS = 500;
    private static final int CALLS = 512;
    private static final long SEED = 20261118L;

    private static final class Fault extends Exception {
        private static final long serialVersionUID = 1L;
        final int kind, place;

        Fault(int kind, int place) {
            this.kind = kind;
            this.place = place;
        }
    }

    private static final class World {
        List<String> names = new ArrayList<>();
        List<Integer> odds = new ArrayList<>();
        int kind, measure;
        List<String> pairs = new ArrayList<>();
        String wrote = "";
        List<int[]> guessed = new ArrayList<>();
        List<Object[]> heard = new ArrayList<>();

        World image() {
            World w = new World();
            w.names = names;
            w.odds = new ArrayList<>(odds);
            w.kind = kind;
            w.measure = measure;
            w.pairs = new ArrayList<>(pairs);
            w.wrote = wrote;
            w.guessed = new ArrayList<>(guessed);
            w.heard = new ArrayList<>(heard);
            return w;
        }
    }

    /** The grammar of a text, token by token. */
    private static final class Text {
        final String s;
        int at, start, lines;
        String token;
        boolean lawTold, maidTold;
        final World w = new World();

        Text(String s) {
            this.s = s;
        }

        void take() throws Fault {
            while (at < s.length() && s.charAt(at) == ' ') {
                at++;
            }
            start = at;
            String rest = s.substring(at);
            if (rest.isEmpty()) {
                token = "";
            } else if (rest.startsWith(";")) {
                token = ";";
            } else if (rest.matches("(?s)[a-z].*")) {
                token = rest.replaceAll("(?s)[^a-z].*", "");
            } else if (rest.matches("(?s)[0-9].*")) {
                token = rest.replaceAll("(?s)[^0-9].*", "");
                if (token.length() > 2) {
                    throw new Fault(1, start);
                }
            } else {
                throw new Fault(1, start);
            }
            at += token.length();
        }

        String word(int most) throws Fault {
            take();
            need(token.matches("[a-z]+"), 2);
            need(token.length() <= most, 3);
            return token;
        }

        int number(int least, int most) throws Fault {
            take();
            need(token.matches("[0-9]+"), 2);
            int v = Integer.parseInt(token);
            need(v >= least && v <= most, 3);
            return v;
        }

        void need(boolean good, int kind) throws Fault {
            if (!good) {
                throw new Fault(kind, start);
            }
        }

        void line() throws Fault {
            switch (token) {
                case "name" -> {
                    need(w.names.size() < 9, 5);
                    String called = word(8);
                    need(!w.names.contains(called), 4);
                    w.names.add(called);
                    w.odds.add(number(1, 9));
                }
                case "near" -> {
                    need(!lawTold, 4);
                    lawTold = true;
                    w.kind = Arrays.asList("letters", "start", "long", "share", "sound").indexOf(word(999));
                    need(w.kind >= 0, 2);
                    w.measure = number(0, 8);
                }
                case "pair" -> {
                    need(w.pairs.size() < 5, 5);
                    String first = word(1);
                    String second = word(1);
                    need(!first.equals(second), 4);
                    w.pairs.add(first + second);
                }
                case "maid" -> {
                    need(!maidTold, 4);
                    maidTold = true;
                    w.wrote = word(8);
                }
                default -> need(false, 2);
            }
            take();
            need(token.equals(";"), 2);
            lines++;
        }

        World all() throws Fault {
            for (take(); !token.isEmpty(); take()) {
                line();
            }
            return w;
        }
    }

    private static final class Model {
        World w = new World();
        StringBuilder tape = new StringBuilder();
        int fault, torn;
        World[] images = new World[2];
        Object[] sheets = new Object[4];
        Map<String, Integer> sureOfAll = new HashMap<>();

        static boolean in(int v, int least, int most) {
            return least <= v && v <= most;
        }

        boolean isName(int n) {
            return in(n, 0, w.names.size() - 1);
        }

        int feed(int c) {
            if (!in(c, 0, 127)) {
                return -1;
            }
            if (tape.length() == 160) {
                return -3;
            }
            return tape.append((char) c).length();
        }

        int end(int n) {
            int had = tape.length();
            if (!in(n, 0, had)) {
                return -1;
            }
            tape.setLength(n);
            return had;
        }

        int text() {
            Text t = new Text(tape.toString());
            tape = new StringBuilder();
            try {
                w = t.all();
                images = new World[2];
                fault = 0;
                return t.lines;
            } catch (Fault f) {
                fault = f.kind;
                return -10 - f.place;
            }
        }

        int rule(int what) {
            int[] all = {w.names.size(), w.kind, w.measure, w.pairs.size(), w.wrote.length()};
            return in(what, 0, 4) ? all[what] : -1;
        }

        int name(int n, int what) {
            if (!isName(n)) {
                return -1;
            }
            String s = w.names.get(n);
            if (what == 0) {
                return w.odds.get(n);
            }
            if (what == 1) {
                return s.length();
            }
            return in(what, 10, 9 + s.length()) ? s.charAt(what - 10) - 'a' : -1;
        }

        int wrote(int i) {
            return in(i, 0, w.wrote.length() - 1) ? w.wrote.charAt(i) - 'a' : -1;
        }

        int pair(int k) {
            return in(k, 0, w.pairs.size() - 1) ? (w.pairs.get(k).charAt(0) - 'a') * 26 + w.pairs.get(k).charAt(1) - 'a' : -1;
        }

        int odd(int n, int v) {
            return isName(n) && in(v, 1, 9) ? w.odds.set(n, v) : -1;
        }

        int law(int kind, int measure) {
            if (!in(kind, 0, 4) || !in(measure, 0, 8)) {
                return -1;
            }
            int was = w.kind;
            w.kind = kind;
            w.measure = measure;
            return was;
        }

        int mix(int a, int b) {
            if (!in(a, 0, 25) || !in(b, 0, 25) || a == b) {
                return -1;
            }
            if (w.pairs.size() == 5) {
                return -3;
            }
            w.pairs.add("" + (char) ('a' + a) + (char) ('a' + b));
            return w.pairs.size();
        }

        static int cut(List<?> list, int n) {
            int were = list.size();
            if (!in(n, 0, were)) {
                return -1;
            }
            list.subList(n, were).clear();
            return were;
        }

        static Set<Character> lettersOf(String s) {
            Set<Character> set = new TreeSet<>();
            for (char c : s.toCharArray()) {
                set.add(c);
            }
            return set;
        }

        static boolean areNear(String a, String b, int kind, int measure) {
            if (kind == 0) {
                if (a.length() != b.length()) {
                    return false;
                }
                int unlike = 0;
                for (int i = 0; i < a.length(); i++) {
                    unlike += a.charAt(i) == b.charAt(i) ? 0 : 1;
                }
                return unlike <= measure;
            }
            if (kind == 1) {
                return a.length() >= measure && b.length() >= measure && a.substring(0, measure).equals(b.substring(0, measure));
            }
            if (kind == 2) {
                return Math.abs(a.length() - b.length()) <= measure;
            }
            if (kind == 3) {
                Set<Character> both = lettersOf(a);
                both.retainAll(lettersOf(b));
                return both.size() >= measure;
            }
            return Math.abs(a.replaceAll("[^aeiou]", "").length() - b.replaceAll("[^aeiou]", "").length()) <= measure;
        }

        int answer(int guess, int called, int kind, int measure) {
            return guess == called ? 2 : areNear(w.names.get(guess), w.names.get(called), kind, measure) ? 1 : 0;
        }

        int answer(int guess, int called) {
            return answer(guess, called, w.kind, w.measure);
        }

        int near(int n, int m) {
            return !isName(n) || !isName(m) ? -1 : areNear(w.names.get(n), w.names.get(m), w.kind, w.measure) ? 1 : 0;
        }

        int guess(int n, int answer) {
            if (!isName(n) || !in(answer, 0, 2)) {
                return -1;
            }
            if (w.guessed.size() == 9) {
                return -3;
            }
            w.guessed.add(new int[] {n, answer});
            return w.guessed.size();
        }

        int hear(int i, int l, boolean is) {
            if (!in(i, 0, 7) || !in(l, 0, 25)) {
                return -1;
            }
            if (w.heard.size() == 6) {
                return -3;
            }
            w.heard.add(new Object[] {i, (char) ('a' + l), is});
            return w.heard.size();
        }

        List<Integer> everyName() {
            List<Integer> all = new ArrayList<>();
            for (int n = 0; n < w.names.size(); n++) {
                all.add(n);
            }
            return all;
        }

        List<Integer> canBe(int guesses) {
            List<Integer> left = new ArrayList<>();
            for (int n : everyName()) {
                boolean can = true;
                for (int[] g : w.guessed.subList(0, guesses)) {
                    can &= answer(g[0], n) == g[1];
                }
                for (Object[] h : w.heard) {
                    int i = (Integer) h[0];
                    String s = w.names.get(n);
                    boolean there = i < s.length() && s.charAt(i) == (Character) h[1];
                    can &= there == (Boolean) h[2];
                }
                if (can) {
                    left.add(n);
                }
            }
            return left;
        }

        List<Integer> canBe() {
            return canBe(w.guessed.size());
        }

        static int bits(List<Integer> set) {
            int bits = 0;
            for (int n : set) {
                bits += 1 << n;
            }
            return bits;
        }

        static long lowest(long a, long b, int what) {
            long d = BigInteger.valueOf(a).gcd(BigInteger.valueOf(b)).longValue();
            return what == 0 ? a / d : b / d;
        }

        int oddsOf(List<Integer> set) {
            int sum = 0;
            for (int n : set) {
                sum += w.odds.get(n);
            }
            return sum;
        }

        long likely(int n, int what) {
            if (!isName(n) || !in(what, 0, 1)) {
                return -1;
            }
            List<Integer> left = canBe();
            if (left.isEmpty()) {
                return -2;
            }
            return lowest(left.contains(n) ? w.odds.get(n) : 0, oddsOf(left), what);
        }

        int lied() {
            for (int g = 0; g < w.guessed.size(); g++) {
                if (canBe(g + 1).isEmpty()) {
                    return g;
                }
            }
            return -4;
        }

        List<Integer> part(List<Integer> set, int g, int answer, int kind, int measure) {
            List<Integer> part = new ArrayList<>();
            for (int n : set) {
                if (answer(g, n, kind, measure) == answer) {
                    part.add(n);
                }
            }
            return part;
        }

        int next(int what) {
            List<Integer> left = canBe();
            if (!in(what, 0, 1) || left.isEmpty()) {
                return in(what, 0, 1) ? -2 : -1;
            }
            int[] worst = new int[w.names.size()];
            for (int g : everyName()) {
                worst[g] = Math.max(part(left, g, 0, w.kind, w.measure).size(), part(left, g, 1, w.kind, w.measure).size());
            }
            int fewest = Arrays.stream(worst).min().getAsInt();
            int g = 0;
            while (worst[g] != fewest) {
                g++;
            }
            return what == 0 ? g : fewest;
        }

        /** Whether some way finds each of a set in n guesses: asked of n and set, not of the least. */
        boolean surely(List<Integer> set, int n, int kind, int measure, Map<String, Boolean> known) {
            if (set.isEmpty()) {
                return true;
            }
            if (n == 0) {
                return false;
            }
            String key = n + ":" + set;
            if (!known.containsKey(key)) {
                boolean can = false;
                for (int g : everyName()) {
                    can = can || surelyBy(g, set, n, kind, measure, known);
                }
                known.put(key, can);
            }
            return known.get(key);
        }

        boolean surelyBy(int g, List<Integer> set, int n, int kind, int measure, Map<String, Boolean> known) {
            return surely(part(set, g, 0, kind, measure), n - 1, kind, measure, known)
                    && surely(part(set, g, 1, kind, measure), n - 1, kind, measure, known);
        }

        int sureIn(List<Integer> set, int kind, int measure, Map<String, Boolean> known) {
            int n = 0;
            while (!surely(set, n, kind, measure, known)) {
                n++;
            }
            return n;
        }

        int sure(int what) {
            List<Integer> left = canBe();
            if (!in(what, 0, 1) || left.isEmpty()) {
                return in(what, 0, 1) ? -2 : -1;
            }
            Map<String, Boolean> known = new HashMap<>();
            int n = sureIn(left, w.kind, w.measure, known);
            int g = 0;
            while (!surelyBy(g, left, n, w.kind, w.measure, known)) {
                g++;
            }
            return what == 0 ? n : g;
        }

        long cost(List<Integer> set, Map<List<Integer>, Long> known) {
            if (set.isEmpty()) {
                return 0;
            }
            if (!known.containsKey(set)) {
                long least = Long.MAX_VALUE;
                for (int g : everyName()) {
                    least = Math.min(least, costBy(g, set, known));
                }
                known.put(set, least);
            }
            return known.get(set);
        }

        long costBy(int g, List<Integer> set, Map<List<Integer>, Long> known) {
            List<Integer> no = part(set, g, 0, w.kind, w.measure);
            List<Integer> near = part(set, g, 1, w.kind, w.measure);
            if (no.size() == set.size() || near.size() == set.size()) {
                return Long.MAX_VALUE;
            }
            return oddsOf(set) + cost(no, known) + cost(near, known);
        }

        long mean(int what) {
            List<Integer> left = canBe();
            if (!in(what, 0, 2) || left.isEmpty()) {
                return in(what, 0, 2) ? -2 : -1;
            }
            Map<List<Integer>, Long> known = new HashMap<>();
            long least = cost(left, known);
            int g = 0;
            while (costBy(g, left, known) != least) {
                g++;
            }
            return what == 2 ? g : lowest(least, oddsOf(left), what);
        }

        int sureByLaw(int kind, int measure) {
            String key = w.names + " " + kind + " " + measure;
            return sureOfAll.computeIfAbsent(key, k -> sureIn(everyName(), kind, measure, new HashMap<>()));
        }

        int best(int what) {
            if (!in(what, 0, 1) || w.names.isEmpty()) {
                return in(what, 0, 1) ? -2 : -1;
            }
            int fewest = 99;
            int law = -1;
            for (int kind = 0; kind < 5; kind++) {
                for (int measure = 0; measure < 9; measure++) {
                    int n = sureByLaw(kind, measure);
                    if (n < fewest) {
                        fewest = n;
                        law = 10 * kind + measure;
                    }
                }
            }
            return what == 0 ? law : fewest;
        }

        int laws(int n) {
            if (!in(n, 1, 9) || w.names.isEmpty()) {
                return in(n, 1, 9) ? -2 : -1;
            }
            int sum = 0;
            for (int kind = 0; kind < 5; kind++) {
                for (int measure = 0; measure < 9; measure++) {
                    sum += sureByLaw(kind, measure) <= n ? 1 : 0;
                }
            }
            return sum;
        }

        int row(int n, int what) {
            if (!in(n, 1, 3) || what != 0 && !in(what, 10, 9 + n)) {
                return -1;
            }
            List<Integer> left = canBe();
            if (left.isEmpty()) {
                return -2;
            }
            int least = 99;
            int[] best = null;
            int size = w.names.size();
            int rows = (int) Math.pow(size, n);
            for (int r = 0; r < rows; r++) {
                int[] row = new int[n];
                for (int k = n - 1, rest = r; k >= 0; k--, rest /= size) {
                    row[k] = rest % size;
                }
                Map<String, Integer> parts = new HashMap<>();
                for (int called : left) {
                    StringBuilder answers = new StringBuilder();
                    for (int g : row) {
                        answers.append(answer(g, called));
                    }
                    parts.merge(answers.toString(), 1, Integer::sum);
                }
                int greatest = parts.values().stream().max(Integer::compare).get();
                if (greatest < least) {
                    least = greatest;
                    best = row;
                }
            }
            return what == 0 ? least : best[what - 10];
        }

        int twins() {
            List<Integer> left = canBe();
            int sum = 0;
            for (int a : left) {
                for (int b : left) {
                    if (a < b && everyName().stream().allMatch(g -> g == a || g == b || answer(g, a) == answer(g, b))) {
                        sum++;
                    }
                }
            }
            return sum;
        }

        boolean canBeMeant(String s, List<String> pairs) {
            if (s.length() != w.wrote.length()) {
                return false;
            }
            for (int i = 0; i < s.length(); i++) {
                char a = s.charAt(i);
                char b = w.wrote.charAt(i);
                if (a != b && !pairs.contains("" + a + b) && !pairs.contains("" + b + a)) {
                    return false;
                }
            }
            return true;
        }

        int meantBits(List<String> pairs) {
            int bits = 0;
            for (int n : everyName()) {
                bits += canBeMeant(w.names.get(n), pairs) ? 1 << n : 0;
            }
            return bits;
        }

        int slips(int n) {
            if (!isName(n)) {
                return -1;
            }
            if (!canBeMeant(w.names.get(n), w.pairs)) {
                return -4;
            }
            int sum = 0;
            for (int i = 0; i < w.wrote.length(); i++) {
                sum += w.wrote.charAt(i) == w.names.get(n).charAt(i) ? 0 : 1;
            }
            return sum;
        }

        int more(int what) {
            if (!in(what, 0, 1)) {
                return -1;
            }
            int most = Integer.bitCount(meantBits(w.pairs));
            int best = -4;
            for (int a = 0; a < 26; a++) {
                for (int b = a + 1; b < 26; b++) {
                    List<String> pairs = new ArrayList<>(w.pairs);
                    pairs.add("" + (char) ('a' + a) + (char) ('a' + b));
                    int meant = Integer.bitCount(meantBits(pairs));
                    if (meant > most) {
                        most = meant;
                        best = 26 * a + b;
                    }
                }
            }
            return best < 0 || what == 0 ? best : most;
        }

        int play(int seed, int name, int n, int what) {
            if (!isName(name) || !in(n, 1, 60) || !in(what, 0, 1)) {
                return -1;
            }
            TreeSet<Integer> set = new TreeSet<>(canBe());
            set.add(name);
            List<Integer> left = new ArrayList<>(set);
            BigInteger s = BigInteger.valueOf(seed);
            for (int made = 1; made <= n; made++) {
                s = s.multiply(BigInteger.valueOf(1103515245)).add(BigInteger.valueOf(12345)).mod(BigInteger.ONE.shiftLeft(32));
                int g = left.get(s.shiftRight(16).mod(BigInteger.ONE.shiftLeft(15)).intValue() % left.size());
                if (g == name) {
                    return what == 0 ? made : 1;
                }
                left = part(left, g, answer(g, name), w.kind, w.measure);
            }
            return what == 0 ? n : 0;
        }

        int keep(int k) {
            if (!in(k, 0, 1)) {
                return -1;
            }
            int was = images[k] == null ? 0 : 1;
            images[k] = w.image();
            return was;
        }

        int back(int k) {
            if (!in(k, 0, 1)) {
                return -1;
            }
            if (images[k] == null) {
                return -2;
            }
            w = images[k].image();
            return w.guessed.size();
        }

        int sheet(int k, int lane, int n) {
            if (!in(k, 0, 3) || !in(lane, 0, 2) || n > 40) {
                return -1;
            }
            try {
                sheets[k] = lane == 0 ? new byte[n] : lane == 1 ? new short[n] : new int[n];
                return 1;
            } catch (NegativeArraySizeException e) {
                return -14;
            }
        }

        int lay(int k, int i, int v) {
            if (!in(k, 0, 3)) {
                return -1;
            }
            try {
                if (sheets[k] instanceof byte[] b) {
                    b[i] = (byte) v;
                } else if (sheets[k] instanceof short[] s) {
                    s[i] = (short) v;
                } else {
                    ((int[]) sheets[k])[i] = v;
                }
                return 1;
            } catch (NullPointerException e) {
                return -11;
            } catch (ArrayIndexOutOfBoundsException e) {
                return -12;
            }
        }

        /** Here the machine itself finds the faults, as the document tells them. */
        int read(int k, int lane, int f, int n) {
            if (!in(k, 0, 3) || !in(lane, 0, 2) || !in(n, 0, 20)) {
                return -1;
            }
            int before = w.guessed.size();
            int came = 0;
            int found = 0;
            try {
                for (; came < n; came++) {
                    byte[] b = lane == 0 ? (byte[]) sheets[k] : null;
                    short[] s = lane == 1 ? (short[]) sheets[k] : null;
                    int[] v = lane == 2 ? (int[]) sheets[k] : null;
                    int i = f + 2 * came;
                    int called = lane == 0 ? b[i] : lane == 1 ? s[i] : v[i];
                    int answer = lane == 0 ? b[i + 1] : lane == 1 ? s[i + 1] : v[i + 1];
                    if (guess(called, answer) < 0) {
                        cut(w.guessed, before);
                        return -20 - came;
                    }
                }
            } catch (NullPointerException e) {
                found = 1;
            } catch (ArrayIndexOutOfBoundsException e) {
                found = 2;
            } catch (ClassCastException e) {
                found = 3;
            }
            torn = found;
            return came;
        }

        int count(int what) {
            return switch (what) {
                case 0 -> w.guessed.size();
                case 1 -> w.heard.size();
                case 2 -> (images[0] == null ? 0 : 1) + (images[1] == null ? 0 : 1);
                case 3 -> tape.length();
                case 4 -> sheets[0] == null ? -4 : java.lang.reflect.Array.getLength(sheets[0]);
                case 5 -> oddsOf(everyName());
                case 6 -> canBe().size();
                default -> -1;
            };
        }
    }

    private static final Random RANDOM = new Random(SEED);
    private static final List<String> TRACE = new ArrayList<>();
    private static final Set<String> MET = new HashSet<>();
    private static GuessCalled x;
    private static Model m;
    private static int calls;
    private static int wrong;

    private static void due(String call, long got, long want) {
        calls++;
        TRACE.add(call + " " + got);
        MET.add(call.substring(0, call.indexOf('(')) + (want < 0 ? want > -10 ? " " + want : " below -9" : ""));
        if (got != want) {
            wrong++;
            if (wrong <= 5) {
                int from = Math.max(0, TRACE.size() - 400);
                System.out.println(TRACE.subList(from, TRACE.size()) + ", due is " + want);
            }
        }
    }

    private static int upTo(int n) {
        return RANDOM.nextInt(n + 1);
    }

    private static boolean seldom(int oneIn) {
        return RANDOM.nextInt(oneIn) == 0;
    }

    /** Mostly within bounds, at times just outside, seldom far outside. */
    private static int about(int least, int most) {
        if (seldom(12)) {
            int[] odd = {least - 1, most + 1, least - 2, most + 2, Integer.MIN_VALUE, Integer.MAX_VALUE, -least, 1 << 30};
            return odd[RANDOM.nextInt(odd.length)];
        }
        return least + RANDOM.nextInt(Math.max(1, most - least + 1));
    }

    private static int aName() {
        return about(0, Math.max(0, m.w.names.size() - 1));
    }

    private static String aWord(int most, String letters) {
        StringBuilder b = new StringBuilder();
        int size = 1 + upTo(most - 1);
        for (int i = 0; i < size; i++) {
            b.append(letters.charAt(RANDOM.nextInt(letters.length())));
        }
        return b.toString();
    }

    private static String blanks() {
        return seldom(8) ? "  " : " ";
    }

    private static String aLine(String letters, int longest) {
        String figure = String.valueOf(seldom(25) ? upTo(120) : 1 + upTo(7));
        int sort = upTo(9);
        String stop = seldom(60) ? "" : seldom(30) ? " ; " : ";";
        if (sort < 7) {
            return "name" + blanks() + aWord(seldom(60) ? 9 : longest, letters) + blanks() + figure + stop;
        }
        if (sort == 7) {
            String[] kinds = {"letters", "start", "long", "share", "sound"};
            return "near" + blanks() + (seldom(40) ? aWord(6, "longstar") : kinds[upTo(4)]) + " " + figure + stop;
        }
        if (sort == 8) {
            return "pair " + aWord(seldom(40) ? 2 : 1, letters) + " " + aWord(seldom(40) ? 2 : 1, letters) + stop;
        }
        return "maid " + aWord(seldom(60) ? 9 : longest, letters) + stop;
    }

    private static void feedText() {
        String letters = seldom(2) ? "abct" : seldom(2) ? "aeiomnt" : "abcdefghijklmnopqrstuvwxyz";
        int longest = 1 + upTo(seldom(2) ? 7 : 3);
        int lines = upTo(14);
        StringBuilder b = new StringBuilder();
        for (int i = 0; i < lines; i++) {
            String line = aLine(letters, longest);
            if (b.length() + line.length() > 160 && !seldom(30)) {
                break;
            }
            b.append(line);
        }
        if (seldom(20) && b.length() > 0) {
            b.setCharAt(RANDOM.nextInt(b.length()), (char) RANDOM.nextInt(128));
        }
        for (int i = 0; i < b.length(); i++) {
            due("feed(" + (int) b.charAt(i) + ")", x.feed(b.charAt(i)), m.feed(b.charAt(i)));
        }
        due("text()", x.text(), m.text());
        due("fault()", x.fault(), m.fault);
    }

    private static void compareTold() {
        for (int what = -1; what <= 5; what++) {
            due("rule(" + what + ")", x.rule(what), m.rule(what));
        }
        for (int n = 0; n < m.w.names.size(); n++) {
            for (int what : new int[] {0, 1, 10, 13, 17}) {
                due("name(" + n + ", " + what + ")", x.name(n, what), m.name(n, what));
            }
        }
    }

    private static void callOfAnswers() {
        int n = aName();
        int a = about(0, 2);
        int i = about(0, 7);
        int l = seldom(3) ? about(0, 25) : upTo(5);
        boolean is = seldom(5);
        int what = about(0, 1);
        switch (upTo(9)) {
            case 0 -> due("near(" + n + ", " + a + ")", x.near(n, a), m.near(n, a));
            case 1 -> due("guess(" + n + ", " + a + ")", x.guess(n, a), m.guess(n, a));
            case 2 -> {
                int him = upTo(8);
                int told = m.isName(him) && m.isName(n) ? m.answer(n, him) : 0;
                due("guess(" + n + ", " + told + ")", x.guess(n, told), m.guess(n, told));
            }
            case 3 -> due("undo(" + i + ")", x.undo(i), Model.cut(m.w.guessed, i));
            case 4 -> due("undo(0)", x.undo(0), Model.cut(m.w.guessed, 0));
            case 5 -> due("hear(" + i + ", " + l + ", " + is + ")", x.hear(i, l, is), m.hear(i, l, is));
            case 6 -> due("forget(" + a + ")", x.forget(a), Model.cut(m.w.heard, a));
            case 7 -> due("can()", x.can(), Model.bits(m.canBe()));
            case 8 -> due("likely(" + n + ", " + what + ")", x.likely(n, what), m.likely(n, what));
            default -> due("lied()", x.lied(), m.lied());
        }
    }

    private static void callOfSearch() {
        int what = about(0, 1);
        int three = about(0, 2);
        int n = about(1, 9);
        int k = about(1, 3);
        int of = seldom(3) ? 0 : 10 + about(0, 2);
        switch (upTo(6)) {
            case 0 -> due("next(" + what + ")", x.next(what), m.next(what));
            case 1 -> due("sure(" + what + ")", x.sure(what), m.sure(what));
            case 2 -> due("mean(" + three + ")", x.mean(three), m.mean(three));
            case 3 -> due("best(" + what + ")", x.best(what), m.best(what));
            case 4 -> due("laws(" + n + ")", x.laws(n), m.laws(n));
            case 5 -> due("row(" + k + ", " + of + ")", x.row(k, of), m.row(k, of));
            default -> due("twins()", x.twins(), m.twins());
        }
    }

    private static void callOfChange() {
        int n = aName();
        int v = about(1, 9);
        int a = seldom(2) ? upTo(4) : about(0, 25);
        int b = seldom(2) ? upTo(4) : about(0, 25);
        int kind = about(0, 4);
        int measure = seldom(2) ? upTo(3) : about(0, 8);
        int k = about(0, 1);
        switch (upTo(11)) {
            case 0 -> due("odd(" + n + ", " + v + ")", x.odd(n, v), m.odd(n, v));
            case 1, 2 -> due("law(" + kind + ", " + measure + ")", x.law(kind, measure), m.law(kind, measure));
            case 3 -> due("mix(" + a + ", " + b + ")", x.mix(a, b), m.mix(a, b));
            case 4 -> due("part(" + kind + ")", x.part(kind), Model.cut(m.w.pairs, kind));
            case 5 -> due("meant()", x.meant(), m.meantBits(m.w.pairs));
            case 6 -> due("slips(" + n + ")", x.slips(n), m.slips(n));
            case 7 -> due("more(" + k + ")", x.more(k), m.more(k));
            case 8 -> due("keep(" + k + ")", x.keep(k), m.keep(k));
            case 9 -> due("back(" + k + ")", x.back(k), m.back(k));
            case 10 -> due("wrote(" + measure + ")", x.wrote(measure), m.wrote(measure));
            default -> due("pair(" + kind + ")", x.pair(kind), m.pair(kind));
        }
    }

    private static void callOfSheets() {
        int k = seldom(2) ? 0 : about(0, 3);
        int lane = seldom(2) ? 0 : about(0, 2);
        int size = about(0, 40);
        int i = seldom(2) ? about(0, 7) : about(0, 40);
        int v = seldom(10) ? RANDOM.nextInt() : about(0, 2) + (seldom(8) ? 256 : 0) + (seldom(8) ? 65536 : 0);
        int n = seldom(2) ? about(0, 20) : upTo(4);
        int seed = RANDOM.nextInt();
        int name = aName();
        int most = seldom(2) ? about(1, 60) : 1 + upTo(3);
        int what = about(0, 1);
        switch (upTo(9)) {
            case 0 -> due("sheet(" + k + ", " + lane + ", " + size + ")", x.sheet(k, lane, size), m.sheet(k, lane, size));
            case 1, 2, 3 -> due("lay(" + k + ", " + i + ", " + v + ")", x.lay(k, i, v), m.lay(k, i, v));
            case 4, 5, 6 -> {
                due("read(" + k + ", " + lane + ", " + i + ", " + n + ")", x.read(k, lane, i, n), m.read(k, lane, i, n));
                due("torn()", x.torn(), m.torn);
            }
            case 7 -> due("count(" + what + ")", x.count(what), m.count(what));
            case 8 -> due("play(" + seed + ", " + name + ", " + most + ", " + what + ")",
                    x.play(seed, name, most, what), m.play(seed, name, most, what));
            default -> {
                int whatever = about(0, 6);
                due("count(" + whatever + ")", x.count(whatever), m.count(whatever));
            }
        }
    }

    private static void callOfTape() {
        int c = about(0, 127);
        int n = seldom(2) ? about(0, m.tape.length()) : about(0, 160);
        switch (upTo(3)) {
            case 0 -> due("feed(" + c + ")", x.feed(c), m.feed(c));
            case 1 -> due("end(" + n + ")", x.end(n), m.end(n));
            case 2 -> {
                due("end(0)", x.end(0), m.end(0));
                feedText();
            }
            default -> due("fault()", x.fault(), m.fault);
        }
    }

    private static void oneRun() {
        x = new GuessCalled();
        m = new Model();
        TRACE.clear();
        calls = 0;
        feedText();
        while (calls < CALLS) {
            int sort = upTo(60);
            if (sort == 0) {
                callOfTape();
            } else if (sort == 1) {
                compareTold();
            } else if (sort < 25) {
                callOfAnswers();
            } else if (sort < 37) {
                callOfSearch();
            } else if (sort < 49) {
                callOfChange();
            } else {
                callOfSheets();
            }
        }
    }

    public static void main(String[] args) {
        int runs = args.length > 0 ? Integer.parseInt(args[0]) : RUNS;
        for (int r = 0; r < runs; r++) {
            oneRun();
        }
        if (args.length > 1) {
            System.out.println(new TreeSet<>(MET));
        }
        System.out.println(wrong == 0 ? runs + " runs: all answers are as due" : wrong + " answers are not as due");
        if (wrong != 0) {
            System.exit(1);
        }
    }
}
