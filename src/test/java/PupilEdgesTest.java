/** Promises 2 to 11, edge by edge: what is just within a bound, what is just beyond it, and what is refused. */
public final class PupilEdgesTest {
    private static final int BEYOND = Edges.BEYOND;
    private static final int MIN = Edges.MIN;
    private static final int MAX = Edges.MAX;
    private static final Edges EDGES = new Edges();
    private static final Edges.Deed BUSY = Edges.BUSY;
    private static final Edges.Deed FULL_HOUSE = Edges.FULL_HOUSE;
    private static final Edges.Deed KINDS = Edges::makeOneOfEachKind;

    /** Numbers that no PUPIL of the busy school has: 32 and 64 would be 0 to a shift. */
    private static final int[] NO_PUPIL = {-1, -2, 6, 7, 10, 31, 32, 64, MIN, MAX};
    private static final int[] NO_TEACHER = {-2, 3, 4, 5, 31, 32, 64, MIN, MAX};
    private static final int[] NO_KIND = {-1, 4, 5, 32, MIN, MAX};
    private static final int[] NO_TONGUES = {0, -1, -15, 16, 17, 31, 32, MIN, MAX};
    private static final int[] NO_AGE = {2, 0, -1, -3, 91, 1000, MIN, MAX};

    private static void pupil() {
        EDGES.promise(2);
        for (int kind = 0; kind < 4; kind++) {
            int k = kind;
            EDGES.answers("a PUPIL of kind " + kind, 6, BUSY, x -> x.pupil(k, 20, 1));
            EDGES.answers("its kind is " + kind, kind, BUSY.then(x -> x.pupil(k, 20, 1)), x -> x.of(6, 0));
        }
        for (int age : new int[] {3, 4, 89, 90}) {
            EDGES.answers("a PUPIL of age " + age, 6, BUSY, x -> x.pupil(3, age, 1));
            EDGES.answers("its AGE is " + age, age, BUSY.then(x -> x.pupil(3, age, 1)), x -> x.of(6, 1));
        }
        for (int tongues = 1; tongues < 16; tongues++) {
            int set = tongues;
            EDGES.answers("a PUPIL of tongues " + tongues, tongues, x -> x.pupil(0, 20, set), x -> x.of(0, 2));
        }
        for (int kind : NO_KIND) {
            EDGES.refuses("a PUPIL of kind " + kind, BEYOND, BUSY, x -> x.pupil(kind, 20, 1));
            EDGES.refuses("an eleventh of kind " + kind, BEYOND, FULL_HOUSE, x -> x.pupil(kind, 20, 1));
        }
        for (int age : NO_AGE) {
            EDGES.refuses("a PUPIL of age " + age, BEYOND, BUSY, x -> x.pupil(0, age, 1));
            EDGES.refuses("an eleventh of age " + age, BEYOND, FULL_HOUSE, x -> x.pupil(0, age, 1));
        }
        for (int set : NO_TONGUES) {
            EDGES.refuses("a PUPIL of tongues " + set, BEYOND, BUSY, x -> x.pupil(0, 20, set));
            EDGES.refuses("an eleventh of tongues " + set, BEYOND, FULL_HOUSE, x -> x.pupil(0, 20, set));
        }
        EDGES.answers("the first PUPIL", 0, Edges.NOTHING, x -> x.pupil(0, 20, 1));
        EDGES.answers("the tenth PUPIL", 9, Edges.school(9, 0), x -> x.pupil(0, 20, 1));
        EDGES.refuses("the eleventh PUPIL", Edges.FULL, Edges.school(10, 0), x -> x.pupil(0, 20, 1));
        EDGES.refuses("the eleventh PUPIL of a full house", Edges.FULL, FULL_HOUSE, x -> x.pupil(3, 90, 15));
        EDGES.leaves("a refused PUPIL takes no number", 6, BUSY.then(x -> x.pupil(0, 2, 1)), x -> x.pupil(0, 3, 1));
    }

    private static void teacher() {
        EDGES.promise(3);
        for (int kind = 0; kind < 4; kind++) {
            int k = kind;
            EDGES.answers("a TEACHER of kind " + kind, 3, BUSY, x -> x.teacher(k, 1));
            EDGES.answers("as kind " + kind, 3, BUSY.then(x -> x.teacher(k, 1)), x -> x.as(3, true, k));
        }
        for (int tongues = 1; tongues < 16; tongues++) {
            int set = tongues;
            EDGES.answers("a TEACHER of tongues " + tongues, 0, x -> x.pupil(0, 20, set), x -> x.teacher(0, set));
            EDGES.answers("it is understood", 0, x -> {
                x.pupil(0, 20, set);
                x.teacher(0, set);
            }, x -> x.may(0, 1));
        }
        for (int kind : NO_KIND) {
            EDGES.refuses("a TEACHER of kind " + kind, BEYOND, BUSY, x -> x.teacher(kind, 1));
            EDGES.refuses("a sixth of kind " + kind, BEYOND, FULL_HOUSE, x -> x.teacher(kind, 1));
        }
        for (int set : NO_TONGUES) {
            EDGES.refuses("a TEACHER of tongues " + set, BEYOND, BUSY, x -> x.teacher(0, set));
            EDGES.refuses("a sixth of tongues " + set, BEYOND, FULL_HOUSE, x -> x.teacher(0, set));
        }
        EDGES.answers("the first TEACHER", 0, Edges.NOTHING, x -> x.teacher(0, 1));
        EDGES.answers("the fifth TEACHER", 4, Edges.school(0, 4), x -> x.teacher(0, 1));
        EDGES.refuses("the sixth TEACHER", Edges.FULL, Edges.school(0, 5), x -> x.teacher(0, 1));
        EDGES.refuses("the sixth TEACHER of a full house", Edges.FULL, FULL_HOUSE, x -> x.teacher(3, 15));
        EDGES.leaves("a refused TEACHER takes no number", 3, BUSY.then(x -> x.teacher(4, 1)), x -> x.teacher(0, 1));
    }

    private static void as() {
        EDGES.promise(4);
        boolean[][] pupilIs = {{true, false, false, false}, {true, true, false, false}, {true, false, true, false},
            {true, true, false, true}};
        boolean[][] teacherIs = {{true, false, false, false}, {true, true, false, false}, {true, false, true, false},
            {true, false, true, true}};
        for (int one = 0; one < 4; one++) {
            for (int kind = 0; kind < 4; kind++) {
                asOne("PUPIL", one, false, kind, pupilIs[one][kind]);
                asOne("TEACHER", one, true, kind, teacherIs[one][kind]);
            }
            for (int kind : NO_KIND) {
                int o = one;
                EDGES.refuses("PUPIL " + one + " as " + kind, BEYOND, KINDS, x -> x.as(o, false, kind));
                EDGES.refuses("TEACHER " + one + " as " + kind, BEYOND, KINDS, x -> x.as(o, true, kind));
            }
        }
        for (int one : NO_PUPIL) {
            EDGES.refuses("as of PUPIL " + one, BEYOND, BUSY, x -> x.as(one, false, 0));
            EDGES.refuses("as of PUPIL " + one + " and no kind", BEYOND, BUSY, x -> x.as(one, false, 4));
        }
        for (int one : NO_TEACHER) {
            EDGES.refuses("as of TEACHER " + one, BEYOND, BUSY, x -> x.as(one, true, 0));
            EDGES.refuses("as of TEACHER " + one + " and no kind", BEYOND, BUSY, x -> x.as(one, true, -1));
        }
        EDGES.refuses("as of TEACHER -1", BEYOND, BUSY, x -> x.as(-1, true, 0));
        EDGES.asksOnly("the last PUPIL", 5, BUSY, x -> x.as(5, false, 1));
        EDGES.refuses("a PUPIL's number is no TEACHER's", BEYOND, BUSY, x -> x.as(5, true, 0));
        EDGES.asksOnly("the last TEACHER", 1, Edges.school(1, 2), x -> x.as(1, true, 0));
        EDGES.refuses("a TEACHER's number is no PUPIL's", BEYOND, Edges.school(1, 2), x -> x.as(1, false, 0));
        EDGES.asksOnly("PUPIL 9 of a full house", 9, FULL_HOUSE, x -> x.as(9, false, 1));
        EDGES.asksOnly("TEACHER 4 of a full house", 4, FULL_HOUSE, x -> x.as(4, true, 3));
    }

    private static void asOne(String who, int one, boolean teacher, int kind, boolean fits) {
        String name = who + " of kind " + one + " as " + kind;
        if (fits) {
            EDGES.asksOnly(name, one, KINDS, x -> x.as(one, teacher, kind));
        } else {
            EDGES.refuses(name, Edges.KIND, KINDS, x -> x.as(one, teacher, kind));
        }
    }

    private static void of() {
        EDGES.promise(5);
        for (int one : NO_PUPIL) {
            for (int what : new int[] {0, 5, 9, 10}) {
                EDGES.refuses("of(" + one + ", " + what + ")", BEYOND, BUSY, x -> x.of(one, what));
            }
        }
        for (int what : new int[] {-1, 10, 11, 32, MIN, MAX}) {
            EDGES.refuses("of(0, " + what + ")", BEYOND, BUSY, x -> x.of(0, what));
        }
        int[] first = {0, 30, 1, 2, 7, 1, 4, 0, 2, -1};
        int[] second = {1, 8, 3, 0, 4, 1, -1, 0, 0, 20};
        for (int what = 0; what < 10; what++) {
            int asked = what;
            EDGES.asksOnly("of(0, " + what + ")", first[what], BUSY, x -> x.of(0, asked));
            EDGES.asksOnly("of(1, " + what + ")", second[what], BUSY, x -> x.of(1, asked));
        }
        EDGES.asksOnly("the last PUPIL", 12, BUSY, x -> x.of(5, 1));
        EDGES.asksOnly("PUPIL 9 of a full house", 29, FULL_HOUSE, x -> x.of(9, 1));
        EDGES.answers("no FRIEND again: -1, no finding", -1, BUSY.then(x -> x.friend(0, -1)), x -> x.of(0, 6));
        EDGES.answers("no TEACHER again: -1, no finding", -1, BUSY.then(x -> x.wish(0, -1)), x -> x.of(0, 7));
        EDGES.answers("AWAY again: -1, no finding", -1, BUSY.then(x -> x.back(1)), x -> x.of(1, 9));
        EDGES.answers("HANDED to hand 0: not AWAY", 0, KINDS.then(x -> x.name(1, 0)).then(x -> x.hand(1, 0)),
                x -> x.of(1, 9));
    }

    private static void here() {
        EDGES.promise(6);
        for (int one : NO_PUPIL) {
            EDGES.refuses("here(" + one + ", true)", BEYOND, BUSY, x -> x.here(one, true));
            EDGES.refuses("here(" + one + ", false)", BEYOND, BUSY, x -> x.here(one, false));
        }
        EDGES.asksOnly("HERE already", 0, BUSY, x -> x.here(0, true));
        EDGES.asksOnly("not HERE already", 0, BUSY, x -> x.here(5, false));
        EDGES.answers("HERE again", 1, BUSY, x -> x.here(5, true));
        EDGES.answers("HERE no more", 1, BUSY, x -> x.here(0, false));
        EDGES.answers("it is not HERE", 0, BUSY.then(x -> x.here(0, false)), x -> x.of(0, 5));
        EDGES.answers("others still are", 1, BUSY.then(x -> x.here(0, false)), x -> x.of(1, 5));
        EDGES.answers("PUPIL 9 of a full house", 1, FULL_HOUSE, x -> x.here(9, false));
        EDGES.answers("away and back: as before", 1, BUSY.then(x -> x.here(4, false)).then(x -> x.here(4, true)),
                x -> x.of(4, 5));
    }

    private static void friend() {
        EDGES.promise(7);
        for (int one : NO_PUPIL) {
            EDGES.refuses("friend(" + one + ", 0)", BEYOND, BUSY, x -> x.friend(one, 0));
            EDGES.refuses("friend(" + one + ", -1)", BEYOND, BUSY, x -> x.friend(one, -1));
            EDGES.refuses("friend(" + one + ", itself)", BEYOND, BUSY, x -> x.friend(one, one));
            if (one != -1) {
                EDGES.refuses("friend(0, " + one + ")", BEYOND, BUSY, x -> x.friend(0, one));
            }
        }
        for (int one = 0; one < 6; one++) {
            int o = one;
            EDGES.refuses("PUPIL " + one + " is its own FRIEND", BEYOND, BUSY, x -> x.friend(o, o));
        }
        EDGES.answers("another FRIEND: what it was", 4, BUSY, x -> x.friend(0, 5));
        EDGES.answers("another FRIEND: what it is", 5, BUSY.then(x -> x.friend(0, 5)), x -> x.of(0, 6));
        EDGES.asksOnly("the same FRIEND", 4, BUSY, x -> x.friend(0, 4));
        EDGES.answers("none: what it was", 4, BUSY, x -> x.friend(0, -1));
        EDGES.asksOnly("none as before: -1, no finding", -1, BUSY, x -> x.friend(4, -1));
        EDGES.answers("a FRIEND's FRIEND is its own", -1, BUSY, x -> x.of(4, 6));
        EDGES.answers("PUPIL 0 as FRIEND is not none", 0, BUSY.then(x -> x.friend(4, 0)), x -> x.of(4, 6));
        EDGES.answers("PUPIL 9 as FRIEND", 9, FULL_HOUSE.then(x -> x.friend(0, 9)), x -> x.of(0, 6));
        EDGES.answers("FRIENDS both ways", 0, BUSY.then(x -> x.friend(4, 0)), x -> x.friend(4, -1));
        EDGES.answers("a FRIEND that is not HERE", 5, BUSY.then(x -> x.friend(1, 5)), x -> x.of(1, 6));
    }

    private static void wish() {
        EDGES.promise(8);
        for (int one : NO_PUPIL) {
            EDGES.refuses("wish(" + one + ", 0)", BEYOND, BUSY, x -> x.wish(one, 0));
            EDGES.refuses("wish(" + one + ", -1)", BEYOND, BUSY, x -> x.wish(one, -1));
        }
        for (int one : NO_TEACHER) {
            EDGES.refuses("wish(0, " + one + ")", BEYOND, BUSY, x -> x.wish(0, one));
            EDGES.refuses("wish(5, " + one + ")", BEYOND, BUSY, x -> x.wish(5, one));
        }
        EDGES.answers("another TEACHER: for whom it did", 2, BUSY, x -> x.wish(4, 0));
        EDGES.answers("another TEACHER: for whom it does", 0, BUSY.then(x -> x.wish(4, 0)), x -> x.of(4, 7));
        EDGES.asksOnly("the same TEACHER", 2, BUSY, x -> x.wish(4, 2));
        EDGES.answers("none: for whom it did", 2, BUSY, x -> x.wish(4, -1));
        EDGES.asksOnly("none as before: -1, no finding", -1, BUSY, x -> x.wish(5, -1));
        EDGES.answers("TEACHER 0 is not none", 0, BUSY, x -> x.wish(1, 1));
        EDGES.answers("the number of the PUPIL itself", -1, BUSY, x -> x.wish(2, 2));
        EDGES.answers("one that is ILL", 1, BUSY.then(x -> x.wish(5, 1)), x -> x.of(5, 7));
        EDGES.answers("others still ask", 0, BUSY.then(x -> x.wish(1, -1)), x -> x.of(0, 7));
        EDGES.answers("PUPIL 9 for TEACHER 4", 4, FULL_HOUSE.then(x -> x.wish(9, 4)), x -> x.of(9, 7));
    }

    /** PUPIL 0 of the busy school has the span from 2 to 7. */
    private static void saw() {
        EDGES.promise(9);
        for (int one : NO_PUPIL) {
            EDGES.refuses("saw(" + one + ", 0, 9)", BEYOND, BUSY, x -> x.saw(one, 0, 9));
        }
        int[][] beyond = {{-1, 5}, {-1, -1}, {-2, -1}, {3, 10}, {10, 10}, {10, 11}, {0, 10}, {-1, 10}, {5, 4}, {9, 0},
            {10, 9}, {0, -1}, {9, 8}, {1, 0}, {MIN, 5}, {5, MAX}, {MIN, MAX}, {MAX, MIN}, {MIN, MIN}, {MAX, MAX}};
        for (int[] s : beyond) {
            EDGES.refuses("saw(0, " + s[0] + ", " + s[1] + ")", BEYOND, BUSY, x -> x.saw(0, s[0], s[1]));
        }
        int[][] apart = {{8, 8}, {8, 9}, {9, 9}, {0, 0}, {0, 1}, {1, 1}};
        for (int[] s : apart) {
            EDGES.refuses("saw(0, " + s[0] + ", " + s[1] + ")", Edges.STATE, BUSY, x -> x.saw(0, s[0], s[1]));
        }
        int[][] seen = {{0, 9, 2, 7}, {2, 7, 2, 7}, {7, 7, 7, 7}, {7, 9, 7, 7}, {2, 2, 2, 2}, {0, 2, 2, 2},
            {3, 9, 3, 7}, {0, 6, 2, 6}, {3, 6, 3, 6}, {1, 8, 2, 7}};
        for (int[] s : seen) {
            String name = "saw(0, " + s[0] + ", " + s[1] + ")";
            Edges.Deed given = BUSY.then(x -> x.saw(0, s[0], s[1]));
            EDGES.answers(name, s[3] - s[2], BUSY, x -> x.saw(0, s[0], s[1]));
            EDGES.answers(name + ": LOW", s[2], given, x -> x.of(0, 3));
            EDGES.answers(name + ": HIGH", s[3], given, x -> x.of(0, 4));
        }
        EDGES.answers("a new PUPIL at 0", 0, Edges.school(1, 0), x -> x.saw(0, 0, 0));
        EDGES.answers("a new PUPIL at 9", 0, Edges.school(1, 0), x -> x.saw(0, 9, 9));
        EDGES.answers("a new PUPIL from 0 to 9", 9, Edges.school(1, 0), x -> x.saw(0, 0, 9));
        EDGES.answers("others are as before", 4, BUSY.then(x -> x.saw(0, 7, 7)), x -> x.of(1, 4));
        EDGES.answers("one that is not HERE", 1, BUSY, x -> x.saw(5, 8, 9));
        EDGES.leaves("seen behind a STATE: from the span as it was", 5,
                BUSY.then(x -> x.saw(0, 8, 9)), x -> x.saw(0, 0, 9));
    }

    private static void ill() {
        EDGES.promise(10);
        for (int one : new int[] {-1, -2, 3, 4, 5, 31, 32, 64, MIN, MAX}) {
            EDGES.refuses("ill(" + one + ", true)", BEYOND, BUSY, x -> x.ill(one, true));
            EDGES.refuses("ill(" + one + ", false)", BEYOND, BUSY, x -> x.ill(one, false));
        }
        EDGES.asksOnly("ILL already", 0, BUSY, x -> x.ill(1, true));
        EDGES.asksOnly("not ILL already", 0, BUSY, x -> x.ill(0, false));
        EDGES.answers("ILL", 1, BUSY, x -> x.ill(0, true));
        EDGES.answers("ILL no more", 1, BUSY, x -> x.ill(1, false));
        EDGES.answers("ILL: it MAY not TEACH", 1, BUSY.then(x -> x.ill(0, true)), x -> x.may(0, 1));
        EDGES.answers("ILL no more: it MAY TEACH", 0, BUSY.then(x -> x.ill(1, false)), x -> x.may(1, 2));
        EDGES.answers("ILL: its set stays", 2, Edges.school(2, 2).then(x -> {
            x.here(0, false);
            x.classing();
            x.ill(1, true);
        }), x -> x.set(1));
        EDGES.answers("TEACHER 4 of a full house", 1, FULL_HOUSE, x -> x.ill(4, true));
    }

    private static void terms() {
        EDGES.promise(11);
        int[][] beyond = {{0, 30, 3, 2}, {-1, 30, 3, 2}, {11, 30, 3, 2}, {MIN, 30, 3, 2}, {MAX, 30, 3, 2},
            {5, -1, 3, 2}, {5, 91, 3, 2}, {5, MIN, 3, 2}, {5, MAX, 3, 2},
            {5, 30, -1, 2}, {5, 30, 10, 2}, {5, 30, MIN, 2}, {5, 30, MAX, 2},
            {5, 30, 3, -1}, {5, 30, 3, 10}, {5, 30, 3, MIN}, {5, 30, 3, MAX},
            {1, 0, 0, -1}, {1, 0, 0, 10}, {10, 90, 9, 10}, {1, 0, 10, 0}, {1, 91, 0, 0}, {0, 0, 0, 0},
            {-1, -1, -1, -1}};
        for (int[] t : beyond) {
            EDGES.refuses("terms" + java.util.Arrays.toString(t), BEYOND, BUSY, x -> x.terms(t[0], t[1], t[2], t[3]));
        }
        int[][] within = {{1, 30, 3, 2}, {10, 30, 3, 2}, {5, 0, 3, 2}, {5, 90, 3, 2}, {5, 30, 0, 2}, {5, 30, 9, 2},
            {5, 30, 3, 0}, {5, 30, 3, 9}, {1, 0, 0, 0}, {10, 90, 9, 9}};
        for (int[] t : within) {
            EDGES.answers("terms" + java.util.Arrays.toString(t), 1, BUSY, x -> x.terms(t[0], t[1], t[2], t[3]));
        }
        EDGES.asksOnly("the same terms", 1, BUSY, x -> x.terms(5, 30, 3, 2));
        for (int most = 1; most <= 10; most++) {
            termsOfMost(most);
        }
        for (int spread : new int[] {0, 1, 2, 43, 86, 87}) {
            termsOfSpread(spread);
        }
        for (int worth = 0; worth < 10; worth++) {
            int w = worth;
            EDGES.answers("KEEP is " + worth, worth,
                    Edges.school(1, 1).then(SnowSchool::classing).then(x -> x.terms(6, 90, w, 1)), SnowSchool::worth);
            EDGES.answers("WISH is " + worth, worth,
                    Edges.school(1, 1).then(x -> x.wish(0, 0)).then(x -> x.terms(6, 90, 2, w)), SnowSchool::worth);
        }
    }

    private static void termsOfMost(int most) {
        Edges.Deed plain = Edges.school(10, 1).then(x -> x.terms(most, 90, 2, 1));
        EDGES.answers("MOST is " + most + ": so many", 0, plain, x -> x.may(0, (1 << most) - 1));
        if (most < 10) {
            EDGES.answers("MOST is " + most + ": one more", 4, plain, x -> x.may(0, (2 << most) - 1));
        }
        int half = most / 2;
        Edges.Deed tiny = x -> {
            x.teacher(0, 1);
            x.pupil(3, 20, 1);
            for (int i = 1; i < 10; i++) {
                x.pupil(0, 20, 1);
            }
            x.terms(most, 90, 2, 1);
        };
        if (half > 0) {
            EDGES.answers("half of " + most + " with a TINY", 0, tiny, x -> x.may(0, (1 << half) - 1));
        }
        EDGES.answers("more than half of " + most + " with a TINY", 4, tiny, x -> x.may(0, (2 << half) - 1));
    }

    private static void termsOfSpread(int spread) {
        Edges.Deed given = x -> {
            x.teacher(0, 1);
            x.pupil(0, 3, 1);
            x.pupil(0, 3 + spread, 1);
            x.pupil(0, Math.min(90, 4 + spread), 1);
            x.terms(6, spread, 2, 1);
        };
        EDGES.answers("SPREAD is " + spread + ": so much apart", 0, given, x -> x.may(0, 3));
        EDGES.answers("SPREAD is " + spread + ": one more apart", spread == 87 ? 0 : 5, given, x -> x.may(0, 5));
    }

    public static void main(String[] args) {
        pupil();
        teacher();
        as();
        of();
        here();
        friend();
        wish();
        saw();
        ill();
        terms();
        System.exit(EDGES.end());
    }
}
