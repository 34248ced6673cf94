import java.util.ArrayList;
import java.util.Arrays;
import java.util.HashSet;
import java.util.List;
import java.util.Random;
import java.util.Set;

/**
 * Long mixed runs, each answer held against a model that tries out all there is, straight from the document's words:
 * every way to give PUPILS to TEACHERS, every set of ASKS. The seed is fixed, so every run of the test is the same.
 */
public final class ModelTest {
    private static final int BEYOND = -1000001;
    private static final int FULL = -1000002;
    private static final int KIND = -1000003;
    private static final int NONE = -1000004;
    private static final int STATE = -1000005;
    private static final int MISSING = -1000006;
    private static final int SIZE = -1000007;
    private static final String[] CALLS = {"pupil", "teacher", "as", "of", "here", "friend", "wish", "saw", "ill",
        "terms", "level", "may", "classing", "noon", "worth", "set", "lift", "slope", "stop", "meeting", "serves",
        "stranded", "name", "hand", "back", "left", "ask", "hours", "book", "open", "choice", "choose", "sheet",
        "write", "copy", "read", "told"};

    private static final class P {
        int kind, age, tongues, low = 0, high = 9, friend = -1, wish = -1, had = -1, handed = -1;
        boolean here = true;
        final List<Integer> named = new ArrayList<>();
    }

    private static final class T {
        int kind, tongues;
        boolean ill;
    }

    private record Edge(int from, int to, int skill, boolean[] stopped) { }

    private static final class A {
        int teacher, from, to, pay;
        boolean booked;
    }

    private static final class Model {
        final List<P> ps = new ArrayList<>();
        final List<T> ts = new ArrayList<>();
        final List<Edge> lifts = new ArrayList<>();
        final List<Edge> slopes = new ArrayList<>();
        final List<A> asks = new ArrayList<>();
        final long[][] sheets = new long[4][];
        final int[] bits = new int[4];
        int most = 6, spread = 90, keep = 2, wish = 1, meet = 0, first = 2, last = 4, found = 0;

        int answer(int call, int[] a) {
            int answer = switch (CALLS[call]) {
                case "pupil" -> pupil(a[0], a[1], a[2]);
                case "teacher" -> teacher(a[0], a[1]);
                case "as" -> as(a[0], a[1] != 0, a[2]);
                case "of" -> of(a[0], a[1]);
                case "here" -> here(a[0], a[1] != 0);
                case "friend" -> friend(a[0], a[1]);
                case "wish" -> wish(a[0], a[1]);
                case "saw" -> saw(a[0], a[1], a[2]);
                case "ill" -> ill(a[0], a[1] != 0);
                case "terms" -> terms(a[0], a[1], a[2], a[3]);
                case "level" -> level(a[0]);
                case "may" -> may(a[0], a[1]);
                case "classing" -> classing();
                case "noon" -> noon();
                case "worth" -> worth();
                case "set" -> in(a[0], ts) ? taught(a[0]) : BEYOND;
                case "lift" -> lift(a[0], a[1]);
                case "slope" -> slope(a[0], a[1], a[2]);
                case "stop" -> stop(a[0], a[1] != 0);
                case "meeting" -> meeting(a[0]);
                case "serves" -> serves(a[0]);
                case "stranded" -> stranded(a[0], a[1]);
                case "name" -> name(a[0], a[1]);
                case "hand" -> hand(a[0], a[1]);
                case "back" -> back(a[0]);
                case "left" -> left();
                case "ask" -> ask(a[0], a[1], a[2], a[3]);
                case "hours" -> hours(a[0], a[1]);
                case "book" -> book(a[0]);
                case "open" -> open(a[0]);
                case "choice" -> choice(a[0], a[1] != 0);
                case "choose" -> choose(a[0]);
                case "sheet" -> sheet(a[0], a[1], a[2]);
                case "write" -> { yield write(a[0], a[1], a[2]); }
                case "copy" -> copy(a[0], a[1], a[2], a[3], a[4]);
                case "read" -> read(a[0]);
                default -> told(a[0]);
            };
            // What a write answers may look like a finding: it is one only where the act was refused.
            if (answer < -1000000 && !(CALLS[call].equals("write") && wrote)) {
                found++;
                if (CALLS[call].equals("told") && a[0] == 6) {
                    throw new IllegalStateException("told(6) never answers a finding");
                }
            }
            wrote = false;
            return answer;
        }

        boolean wrote;

        static boolean in(int i, List<?> list) {
            return 0 <= i && i < list.size();
        }

        static boolean in(int v, int low, int high) {
            return low <= v && v <= high;
        }

        int pupil(int kind, int age, int tongues) {
            if (!in(kind, 0, 3) || !in(age, 3, 90) || !in(tongues, 1, 15)) return BEYOND;
            if (ps.size() == 10) return FULL;
            P p = new P();
            p.kind = kind;
            p.age = age;
            p.tongues = tongues;
            ps.add(p);
            return ps.size() - 1;
        }

        int teacher(int kind, int tongues) {
            if (!in(kind, 0, 3) || !in(tongues, 1, 15)) return BEYOND;
            if (ts.size() == 5) return FULL;
            T t = new T();
            t.kind = kind;
            t.tongues = tongues;
            ts.add(t);
            return ts.size() - 1;
        }

        int as(int one, boolean teacher, int kind) {
            if (!in(one, teacher ? ts : ps) || !in(kind, 0, 3)) return BEYOND;
            int is = teacher ? ts.get(one).kind : ps.get(one).kind;
            boolean under = kind == 0 || kind == is || is == 3 && kind == (teacher ? 2 : 1);
            return under ? one : KIND;
        }

        int of(int pupil, int what) {
            if (!in(pupil, ps) || !in(what, 0, 9)) return BEYOND;
            P p = ps.get(pupil);
            return new int[] {p.kind, p.age, p.tongues, p.low, p.high, p.here ? 1 : 0, p.friend, p.wish, p.had,
                p.handed}[what];
        }

        int here(int pupil, boolean is) {
            if (!in(pupil, ps)) return BEYOND;
            boolean was = ps.get(pupil).here;
            ps.get(pupil).here = is;
            return was == is ? 0 : 1;
        }

        int friend(int pupil, int other) {
            if (!in(pupil, ps) || other != -1 && !in(other, ps) || pupil == other) return BEYOND;
            int was = ps.get(pupil).friend;
            ps.get(pupil).friend = other;
            return was;
        }

        int wish(int pupil, int teacher) {
            if (!in(pupil, ps) || teacher != -1 && !in(teacher, ts)) return BEYOND;
            int was = ps.get(pupil).wish;
            ps.get(pupil).wish = teacher;
            return was;
        }

        int saw(int pupil, int low, int high) {
            if (!in(pupil, ps) || !in(low, 0, 9) || !in(high, 0, 9) || low > high) return BEYOND;
            P p = ps.get(pupil);
            if (low > p.high || high < p.low) return STATE;
            p.low = Math.max(low, p.low);
            p.high = Math.min(high, p.high);
            return p.high - p.low;
        }

        int ill(int teacher, boolean is) {
            if (!in(teacher, ts)) return BEYOND;
            boolean was = ts.get(teacher).ill;
            ts.get(teacher).ill = is;
            return was == is ? 0 : 1;
        }

        int terms(int m, int s, int k, int w) {
            if (!in(m, 1, 10) || !in(s, 0, 90) || !in(k, 0, 9) || !in(w, 0, 9)) return BEYOND;
            most = m;
            spread = s;
            keep = k;
            wish = w;
            return 1;
        }

        List<P> members(int set) {
            List<P> list = new ArrayList<>();
            for (int i = 0; i < ps.size(); i++) {
                if ((set & 1 << i) != 0) list.add(ps.get(i));
            }
            return list;
        }

        boolean badSet(int set) {
            return set == 0 || (set & -(1 << ps.size())) != 0;
        }

        int level(int set) {
            if (badSet(set)) return BEYOND;
            int level = members(set).stream().mapToInt(p -> p.low).max().getAsInt();
            return members(set).stream().anyMatch(p -> p.high < level) ? NONE : level;
        }

        int may(int teacher, int set) {
            if (!in(teacher, ts) || badSet(set)) return BEYOND;
            T t = ts.get(teacher);
            List<P> list = members(set);
            if (t.ill) return 1;
            if (list.stream().anyMatch(p -> (p.tongues & t.tongues) == 0)) return 2;
            int level = level(set);
            if (level == NONE) return 3;
            boolean tiny = list.stream().anyMatch(p -> p.kind == 3);
            if (list.size() > (tiny ? most / 2 : most)) return 4;
            for (P p : list) {
                for (P q : list) {
                    if (p.age - q.age > spread) return 5;
                }
            }
            for (P p : list) {
                if (p.friend >= 0 && ps.get(p.friend).here && !list.contains(ps.get(p.friend))) return 6;
            }
            boolean master = t.kind == 2 || t.kind == 3;
            boolean racer = list.stream().anyMatch(p -> p.kind == 2);
            if (t.kind == 1 && level > 3 || (level >= 8 || racer) && !master) return 7;
            return 0;
        }

        int taught(int t) {
            int set = 0;
            for (int p = 0; p < ps.size(); p++) {
                if (ps.get(p).had == t) set |= 1 << p;
            }
            return set;
        }

        /** The best sets (one a TEACHER), or null. */
        int[] best(boolean noon) {
            boolean[][] fit = new boolean[ts.size()][1 << ps.size()];
            for (int t = 0; t < ts.size(); t++) {
                for (int set = 1; set < 1 << ps.size(); set++) {
                    fit[t][set] = may(t, set) == 0;
                }
            }
            int[][] winner = new int[1][];
            tryAll(0, new int[ts.size()], fit, noon, winner);
            return winner[0];
        }

        void tryAll(int p, int[] sets, boolean[][] fit, boolean noon, int[][] winner) {
            if (p == ps.size()) {
                for (int t = 0; t < sets.length; t++) {
                    if (sets[t] != 0 && !fit[t][sets[t]]) return;
                }
                if (winner[0] == null || Arrays.compare(rank(sets, noon), rank(winner[0], noon)) < 0) {
                    winner[0] = sets.clone();
                }
                return;
            }
            if (!ps.get(p).here) {
                tryAll(p + 1, sets, fit, noon, winner);
                return;
            }
            for (int t = 0; t < sets.length; t++) {
                sets[t] |= 1 << p;
                tryAll(p + 1, sets, fit, noon, winner);
                sets[t] &= ~(1 << p);
            }
        }

        int[] rank(int[] sets, boolean noon) {
            int[] rank = new int[sets.length + 2];
            int classes = (int) Arrays.stream(sets).filter(set -> set != 0).count();
            rank[0] = noon ? moved(sets) : classes;
            rank[1] = noon ? classes : -worth(sets);
            System.arraycopy(sets, 0, rank, 2, sets.length);
            return rank;
        }

        int worth(int[] sets) {
            int sum = 0;
            for (int t = 0; t < sets.length; t++) {
                for (P p : members(sets[t])) {
                    sum += (p.had == t ? keep : 0) + (p.wish == t ? wish : 0);
                }
            }
            return sum;
        }

        int moved(int[] sets) {
            int sum = 0;
            for (int t = 0; t < sets.length; t++) {
                for (P p : members(sets[t])) {
                    if (p.had != t) sum++;
                }
            }
            return sum;
        }

        void install(int[] sets) {
            for (int p = 0; p < ps.size(); p++) {
                ps.get(p).had = -1;
                for (int t = 0; t < sets.length; t++) {
                    if ((sets[t] & 1 << p) != 0) ps.get(p).had = t;
                }
            }
        }

        int classing() {
            int[] sets = best(false);
            if (sets == null) return NONE;
            install(sets);
            return classes();
        }

        int classes() {
            Set<Integer> used = new HashSet<>();
            for (P p : ps) {
                if (p.had >= 0) used.add(p.had);
            }
            return used.size();
        }

        int noon() {
            int[] sets = best(true);
            if (sets == null) return NONE;
            int moved = moved(sets);
            install(sets);
            return moved;
        }

        int worth() {
            int[] sets = best(false);
            return sets == null ? NONE : worth(sets);
        }

        int lift(int from, int to) {
            if (!in(from, 0, 5) || !in(to, 0, 5) || from == to) return BEYOND;
            if (lifts.size() == 6) return FULL;
            lifts.add(new Edge(from, to, 0, new boolean[1]));
            return lifts.size() - 1;
        }

        int slope(int from, int to, int skill) {
            if (!in(from, 0, 5) || !in(to, 0, 5) || from == to || !in(skill, 0, 9)) return BEYOND;
            if (slopes.size() == 8) return FULL;
            slopes.add(new Edge(from, to, skill, new boolean[1]));
            return slopes.size() - 1;
        }

        int stop(int lift, boolean is) {
            if (!in(lift, lifts)) return BEYOND;
            boolean was = lifts.get(lift).stopped[0];
            lifts.get(lift).stopped[0] = is;
            return was == is ? 0 : 1;
        }

        int meeting(int place) {
            if (!in(place, 0, 5)) return BEYOND;
            int was = meet;
            meet = place;
            return was;
        }

        /** Which place can be come to from which, by Warshall's rule. */
        boolean[][] ways(int level) {
            boolean[][] to = new boolean[6][6];
            for (int p = 0; p < 6; p++) to[p][p] = true;
            for (Edge e : lifts) {
                if (!e.stopped[0]) to[e.from][e.to] = true;
            }
            for (Edge e : slopes) {
                if (e.skill <= level) to[e.from][e.to] = true;
            }
            for (int k = 0; k < 6; k++) {
                for (int i = 0; i < 6; i++) {
                    for (int j = 0; j < 6; j++) {
                        if (to[i][k] && to[k][j]) to[i][j] = true;
                    }
                }
            }
            return to;
        }

        int serves(int set) {
            int level = level(set);
            if (level < 0) return level;
            boolean[][] to = ways(level);
            int serving = 0;
            for (int i = 0; i < slopes.size(); i++) {
                Edge e = slopes.get(i);
                if (e.skill <= level && to[meet][e.from] && to[e.to][meet]) serving |= 1 << i;
            }
            return serving;
        }

        int stranded(int set, int lift) {
            int level = level(set);
            if (level == BEYOND || !in(lift, lifts)) return BEYOND;
            if (level == NONE) return NONE;
            boolean[][] now = ways(level);
            boolean was = lifts.get(lift).stopped[0];
            lifts.get(lift).stopped[0] = true;
            boolean[][] then = ways(level);
            lifts.get(lift).stopped[0] = was;
            int places = 0;
            for (int p = 0; p < 6; p++) {
                if (now[meet][p] && now[p][meet] && !then[p][meet]) places |= 1 << p;
            }
            return places;
        }

        boolean child(int pupil) {
            return ps.get(pupil).kind % 2 == 1;
        }

        int name(int pupil, int hand) {
            if (!in(pupil, ps) || !in(hand, 0, 99)) return BEYOND;
            if (!child(pupil)) return KIND;
            List<Integer> named = ps.get(pupil).named;
            if (named.contains(hand)) return SIZE;
            if (named.size() == 3) return FULL;
            named.add(hand);
            return named.size();
        }

        int hand(int pupil, int hand) {
            if (!in(pupil, ps) || !in(hand, 0, 99)) return BEYOND;
            if (!child(pupil)) return KIND;
            if (ps.get(pupil).handed != -1) return STATE;
            if (!ps.get(pupil).named.contains(hand)) return NONE;
            ps.get(pupil).handed = hand;
            return 1;
        }

        int back(int pupil) {
            if (!in(pupil, ps)) return BEYOND;
            if (!child(pupil)) return KIND;
            int was = ps.get(pupil).handed;
            if (was == -1) return STATE;
            ps.get(pupil).handed = -1;
            return was;
        }

        int left() {
            int set = 0;
            for (int p = 0; p < ps.size(); p++) {
                if (child(p) && ps.get(p).here && ps.get(p).handed == -1) set |= 1 << p;
            }
            return set;
        }

        int ask(int teacher, int from, int to, int pay) {
            if (!in(teacher, ts) || !in(from, 0, 7) || !in(to, 0, 7) || from > to || !in(pay, 0, 1000)) return BEYOND;
            if (asks.size() == 10) return FULL;
            A a = new A();
            a.teacher = teacher;
            a.from = from;
            a.to = to;
            a.pay = pay;
            asks.add(a);
            return asks.size() - 1;
        }

        int hours(int f, int l) {
            if (!in(f, 0, 7) || !in(l, 0, 7) || f > l) return BEYOND;
            first = f;
            last = l;
            return 1;
        }

        static boolean common(int from, int to, int f, int l) {
            for (int hour = 0; hour < 8; hour++) {
                if (in(hour, from, to) && in(hour, f, l)) return true;
            }
            return false;
        }

        boolean free(int ask) {
            A a = asks.get(ask);
            if (ts.get(a.teacher).ill) return false;
            if (taught(a.teacher) != 0 && common(a.from, a.to, first, last)) return false;
            for (A b : asks) {
                if (b != a && b.booked && b.teacher == a.teacher && common(a.from, a.to, b.from, b.to)) return false;
            }
            return true;
        }

        int book(int ask) {
            if (!in(ask, asks)) return BEYOND;
            if (asks.get(ask).booked) return STATE;
            if (!free(ask)) return NONE;
            asks.get(ask).booked = true;
            return asks.get(ask).pay;
        }

        int open(int ask) {
            if (!in(ask, asks)) return BEYOND;
            boolean was = asks.get(ask).booked;
            asks.get(ask).booked = false;
            return was ? 1 : 0;
        }

        /** Books one behind the other, with none BOOKED at first, and puts all back as it was. */
        int payOf(int teacher, int set) {
            boolean[] was = new boolean[asks.size()];
            for (int i = 0; i < was.length; i++) {
                was[i] = asks.get(i).booked;
                if (asks.get(i).teacher == teacher) asks.get(i).booked = false;
            }
            int pay = 0;
            for (int i = 0; i < was.length && pay >= 0; i++) {
                if ((set & 1 << i) != 0) {
                    pay = asks.get(i).teacher == teacher && free(i) ? pay + asks.get(i).pay : -1;
                    asks.get(i).booked = true;
                }
            }
            for (int i = 0; i < was.length; i++) asks.get(i).booked = was[i];
            return pay;
        }

        int choice(int teacher, boolean pay) {
            if (!in(teacher, ts)) return BEYOND;
            int best = 0;
            for (int set = 1; set < 1 << asks.size(); set++) {
                if (payOf(teacher, set) > payOf(teacher, best)) best = set;
            }
            return pay ? payOf(teacher, best) : best;
        }

        int choose(int teacher) {
            int set = choice(teacher, false);
            if (set == BEYOND) return BEYOND;
            for (int i = 0; i < asks.size(); i++) {
                if (asks.get(i).teacher == teacher) asks.get(i).booked = (set & 1 << i) != 0;
            }
            return (int) asks.stream().filter(a -> a.teacher == teacher && a.booked).count();
        }

        int sheet(int s, int b, int n) {
            if (!in(s, 0, 3) || b != 0 && b != 8 && b != 16 && b != 32) return BEYOND;
            if (n < 0) return SIZE;
            if (n > 10) return BEYOND;
            sheets[s] = b == 0 ? null : new long[n];
            bits[s] = b;
            return b == 0 ? 0 : n;
        }

        int write(int s, int i, int v) {
            if (!in(s, 0, 3)) return BEYOND;
            if (sheets[s] == null) return MISSING;
            if (!in(i, 0, sheets[s].length - 1)) return BEYOND;
            int was = (int) sheets[s][i];
            long span = 1L << bits[s];
            long low = Math.floorMod((long) v, span);
            sheets[s][i] = low >= span / 2 ? low - span : low;
            wrote = true;
            return was;
        }

        int copy(int s, int from, int t, int to, int n) {
            if (!in(s, 0, 3) || !in(t, 0, 3)) return BEYOND;
            if (sheets[s] == null || sheets[t] == null) return MISSING;
            if (bits[s] != bits[t]) return KIND;
            if (from < 0 || to < 0 || n < 0) return BEYOND;
            if ((long) from + n > sheets[s].length || (long) to + n > sheets[t].length) return BEYOND;
            long[] were = sheets[s].clone();
            for (int i = 0; i < n; i++) sheets[t][to + i] = were[from + i];
            return n;
        }

        int read(int s) {
            if (!in(s, 0, 3)) return BEYOND;
            if (sheets[s] == null) return MISSING;
            if (sheets[s].length > ps.size()) return BEYOND;
            for (long v : sheets[s]) {
                if (v < 0 || v > 99) return BEYOND;
            }
            for (int i = 0; i < sheets[s].length; i++) {
                if (saw(i, (int) sheets[s][i] / 10, (int) sheets[s][i] % 10) < 0) return i;
            }
            return sheets[s].length;
        }

        int told(int what) {
            return switch (what) {
                case 0 -> ps.size();
                case 1 -> ts.size();
                case 2 -> classes();
                case 3 -> lifts.size();
                case 4 -> slopes.size();
                case 5 -> (int) asks.stream().filter(a -> a.booked).count();
                case 6 -> found;
                default -> BEYOND;
            };
        }
    }

    private static int ask(SnowSchool x, int call, int[] a) {
        return switch (CALLS[call]) {
            case "pupil" -> x.pupil(a[0], a[1], a[2]);
            case "teacher" -> x.teacher(a[0], a[1]);
            case "as" -> x.as(a[0], a[1] != 0, a[2]);
            case "of" -> x.of(a[0], a[1]);
            case "here" -> x.here(a[0], a[1] != 0);
            case "friend" -> x.friend(a[0], a[1]);
            case "wish" -> x.wish(a[0], a[1]);
            case "saw" -> x.saw(a[0], a[1], a[2]);
            case "ill" -> x.ill(a[0], a[1] != 0);
            case "terms" -> x.terms(a[0], a[1], a[2], a[3]);
            case "level" -> x.level(a[0]);
            case "may" -> x.may(a[0], a[1]);
            case "classing" -> x.classing();
            case "noon" -> x.noon();
            case "worth" -> x.worth();
            case "set" -> x.set(a[0]);
            case "lift" -> x.lift(a[0], a[1]);
            case "slope" -> x.slope(a[0], a[1], a[2]);
            case "stop" -> x.stop(a[0], a[1] != 0);
            case "meeting" -> x.meeting(a[0]);
            case "serves" -> x.serves(a[0]);
            case "stranded" -> x.stranded(a[0], a[1]);
            case "name" -> x.name(a[0], a[1]);
            case "hand" -> x.hand(a[0], a[1]);
            case "back" -> x.back(a[0]);
            case "left" -> x.left();
            case "ask" -> x.ask(a[0], a[1], a[2], a[3]);
            case "hours" -> x.hours(a[0], a[1]);
            case "book" -> x.book(a[0]);
            case "open" -> x.open(a[0]);
            case "choice" -> x.choice(a[0], a[1] != 0);
            case "choose" -> x.choose(a[0]);
            case "sheet" -> x.sheet(a[0], a[1], a[2]);
            case "write" -> x.write(a[0], a[1], a[2]);
            case "copy" -> x.copy(a[0], a[1], a[2], a[3], a[4]);
            case "read" -> x.read(a[0]);
            default -> x.told(a[0]);
        };
    }

    /** Arguments of each call: i is a PUPIL, t a TEACHER, and so on; see draw. */
    private static final String[] SHAPES = {"kal", "kl", "ibk", "iw", "ib", "if", "iT", "igg", "tb", "mdzz", "S", "tS",
        "", "", "", "t", "pp", "ppg", "jb", "p", "S", "Sj", "ih", "ih", "i", "", "toor", "oo", "q", "q", "tb", "t",
        "sBn", "sNv", "sNsNn", "s", "w"};

    /** PUPILS and TEACHERS of a run at most; plain: alike ones and small classes, so that there are many CLASSINGS. */
    private record Size(int pupils, int teachers, int skillsWidth, boolean plain) { }

    private static int draw(char shape, Random r, Model m, Size size) {
        if (r.nextInt(60) == 0) {
            int[] odd = {-1, -2, 10, 11, 16, 32, 91, 100, 1001, 1 << 20, Integer.MIN_VALUE, Integer.MAX_VALUE, -1000001};
            return odd[r.nextInt(odd.length)];
        }
        return switch (shape) {
            case 'k' -> size.plain && r.nextInt(4) != 0 ? 0 : r.nextInt(4);
            case 'a' -> r.nextInt(3) == 0 ? 3 + r.nextInt(88) : 15 + r.nextInt(10);
            case 'l' -> size.plain ? 1 + 2 * r.nextInt(8) : 1 + r.nextInt(15);
            case 'i' -> r.nextInt(Math.max(1, m.ps.size()) + (r.nextInt(20) == 0 ? 1 : 0));
            case 'f' -> r.nextInt(3) == 0 || size.plain ? -1 : r.nextInt(Math.max(1, m.ps.size()));
            case 't' -> r.nextInt(Math.max(1, m.ts.size()) + (r.nextInt(20) == 0 ? 1 : 0));
            case 'T' -> r.nextInt(m.ts.size() + 1) - 1;
            case 'b' -> r.nextInt(2);
            case 'w' -> r.nextInt(11);
            case 'g' -> r.nextInt(10);
            case 'm' -> 1 + r.nextInt(size.plain ? 4 : 10);
            case 'd' -> size.plain || r.nextBoolean() ? 90 : r.nextInt(91);
            case 'z' -> r.nextInt(10);
            case 'S' -> r.nextInt((1 << m.ps.size()) + (r.nextInt(20) == 0 ? 1 : 0));
            case 'p' -> r.nextInt(6);
            case 'j' -> r.nextInt(Math.max(1, m.lifts.size()));
            case 'h' -> r.nextInt(6);
            case 'o' -> r.nextInt(8);
            case 'r' -> r.nextInt(3) * 50 + r.nextInt(2);
            case 'q' -> r.nextInt(Math.max(1, m.asks.size()));
            case 's' -> r.nextInt(4);
            case 'B' -> new int[] {0, 8, 8, 16, 32}[r.nextInt(5)];
            case 'n' -> r.nextInt(5) == 0 ? r.nextInt(12) - 1 : r.nextInt(4);
            case 'N' -> r.nextInt(4);
            default -> r.nextInt(5) == 0 ? r.nextInt() : r.nextInt(10) == 0 ? -1000001 : r.nextInt(100);
        };
    }

    private static int[] arguments(int call, Random r, Model m, Size size) {
        String shape = SHAPES[call];
        int[] a = new int[shape.length()];
        for (int i = 0; i < a.length; i++) {
            a[i] = draw(shape.charAt(i), r, m, size);
        }
        if (CALLS[call].equals("saw") && r.nextInt(10) != 0) {
            a[1] = Math.max(0, Math.min(9, a[1]) - size.skillsWidth);
            a[2] = Math.min(9, a[1] + size.skillsWidth + r.nextInt(3));
        }
        boolean hours = CALLS[call].equals("ask") || CALLS[call].equals("hours");
        int first = CALLS[call].equals("ask") ? 1 : 0;
        if (hours && r.nextInt(10) != 0 && a[first] <= 7) {
            a[first + 1] = Math.min(7, a[first] + r.nextInt(3));
        }
        return a;
    }

    /** PUPILS and TEACHERS early, classes often: else most of a run would be refused. */
    private static int pick(int step, Random r, Model m, Size size) {
        if (step < 30) {
            if (m.ps.size() < size.pupils && r.nextInt(3) != 0) return 0;
            if (m.ts.size() < size.teachers && r.nextInt(2) != 0) return 1;
        }
        int call = r.nextInt(CALLS.length);
        if (call == 0 && m.ps.size() >= size.pupils && size.pupils < 10) return 14;
        if (call == 1 && m.ts.size() >= size.teachers && size.teachers < 5) return 13;
        return call;
    }

    private static int wrong;
    private static long asked;
    private static final int[] classings = new int[7];

    private static void run(int number, Size size, int calls, Random r) {
        SnowSchool x = new SnowSchool();
        Model m = new Model();
        StringBuilder told = new StringBuilder();
        for (int step = 0; step < calls; step++) {
            int call = pick(step, r, m, size);
            int[] a = arguments(call, r, m, size);
            int want = m.answer(call, a);
            int got = ask(x, call, a);
            asked++;
            told.append(CALLS[call]).append(Arrays.toString(a)).append(" -> ").append(got).append('\n');
            if (CALLS[call].equals("classing")) {
                classings[want < 0 ? 6 : want]++;
            }
            if (got != want) {
                wrong++;
                System.out.println("run " + number + ": " + CALLS[call] + Arrays.toString(a) + " answered " + got
                        + ", due is " + want + (wrong == 1 ? ", behind\n" + told : ""));
                return;
            }
        }
        look(number, x, m);
    }

    /** All that can be told at the end. */
    private static void look(int number, SnowSchool x, Model m) {
        for (int p = 0; p < m.ps.size(); p++) {
            for (int what = 0; what < 10; what++) {
                same(number, "of(" + p + ", " + what + ")", x.of(p, what), m.of(p, what));
            }
        }
        for (int t = 0; t < m.ts.size(); t++) {
            same(number, "set(" + t + ")", x.set(t), m.taught(t));
        }
        for (int what = 0; what < 7; what++) {
            same(number, "told(" + what + ")", x.told(what), m.told(what));
        }
    }

    private static void same(int number, String call, int got, int want) {
        asked++;
        if (got != want) {
            wrong++;
            System.out.println("run " + number + ": " + call + " answered " + got + " at the end, due is " + want);
        }
    }

    public static void main(String[] args) {
        Random r = new Random(20261118);
        int number = 0;
        for (int i = 0; i < 3000 && wrong < 5; i++) {
            run(number++, new Size(2 + r.nextInt(5), 1 + r.nextInt(4), r.nextInt(10), r.nextBoolean()), 160, r);
        }
        for (int i = 0; i < 1000 && wrong < 5; i++) {
            run(number++, new Size(5 + r.nextInt(2), 5, 9, true), 200, r);
        }
        for (int i = 0; i < 40 && wrong < 5; i++) {
            run(number++, new Size(7 + r.nextInt(2), 3, 5, i % 2 == 0), 250, r);
        }
        for (int i = 0; i < 6 && wrong < 5; i++) {
            run(number++, new Size(10, 5, 9, true), 60, r);
        }
        System.out.println(asked + " answers held against the model, " + wrong + " not as due; classings of 0 to 5"
                + " classes, and none: " + Arrays.toString(classings));
        if (wrong != 0) {
            System.exit(1);
        }
    }
}
