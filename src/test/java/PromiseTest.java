/** Each promise by itself: what is ordinary, the edges that the document names, and what it refuses. */
public final class PromiseTest {
    private static final int BEYOND = -1000001;
    private static final int FULL = -1000002;
    private static final int KIND = -1000003;
    private static final int NONE = -1000004;
    private static final int STATE = -1000005;
    private static final int MISSING = -1000006;
    private static final int SIZE = -1000007;
    private static final int MIN = Integer.MIN_VALUE;
    private static final int MAX = Integer.MAX_VALUE;

    private static int promise;
    private static int wrong;
    private static int asked;

    private static void due(String call, int got, int want) {
        asked++;
        if (got != want) {
            wrong++;
            System.out.println("promise " + promise + ": " + call + " answered " + got + ", due is " + want);
        }
    }

    /** A school with so many plain PUPILS (age 20, tongue 0) and so many plain TEACHERS (tongue 0). */
    private static SnowSchool school(int pupils, int teachers) {
        SnowSchool x = new SnowSchool();
        for (int i = 0; i < pupils; i++) {
            x.pupil(0, 20, 1);
        }
        for (int i = 0; i < teachers; i++) {
            x.teacher(0, 1);
        }
        return x;
    }

    private static void sets(SnowSchool x, int... wanted) {
        for (int t = 0; t < wanted.length; t++) {
            due("set(" + t + ")", x.set(t), wanted[t]);
        }
    }

    private static void aNewObject() {
        SnowSchool x = new SnowSchool();
        for (int what = 0; what <= 6; what++) {
            due("told(" + what + ")", x.told(what), 0);
        }
        for (int s = 0; s < 4; s++) {
            due("write(" + s + ", 0, 0)", x.write(s, 0, 0), MISSING);
        }
        due("left()", x.left(), 0);
        due("meeting(0)", x.meeting(0), 0);
        due("of(0, 0)", x.of(0, 0), BEYOND);
        due("set(0)", x.set(0), BEYOND);
        due("stop(0, true)", x.stop(0, true), BEYOND);
        due("open(0)", x.open(0), BEYOND);
        due("classing()", x.classing(), 0);
        due("noon()", x.noon(), 0);
        SnowSchool other = new SnowSchool();
        other.pupil(0, 20, 1);
        due("told(0) of another object", x.told(0), 0);
    }

    private static void pupil() {
        SnowSchool x = new SnowSchool();
        due("pupil(-1, 20, 1)", x.pupil(-1, 20, 1), BEYOND);
        due("pupil(4, 20, 1)", x.pupil(4, 20, 1), BEYOND);
        due("pupil(0, 2, 1)", x.pupil(0, 2, 1), BEYOND);
        due("pupil(0, 91, 1)", x.pupil(0, 91, 1), BEYOND);
        due("pupil(0, 20, 0)", x.pupil(0, 20, 0), BEYOND);
        due("pupil(0, 20, 16)", x.pupil(0, 20, 16), BEYOND);
        due("pupil(0, 20, -1)", x.pupil(0, 20, -1), BEYOND);
        due("pupil(MIN, MAX, MIN)", x.pupil(MIN, MAX, MIN), BEYOND);
        due("pupil(0, 3, 1)", x.pupil(0, 3, 1), 0);
        due("pupil(3, 90, 15)", x.pupil(3, 90, 15), 1);
        due("told(0)", x.told(0), 2);
        for (int i = 2; i < 10; i++) {
            due("pupil " + i, x.pupil(i % 4, 20, 8), i);
        }
        due("the eleventh", x.pupil(0, 20, 1), FULL);
        due("the eleventh, of no kind", x.pupil(4, 20, 1), BEYOND);
        due("told(0)", x.told(0), 10);
    }

    private static void teacher() {
        SnowSchool x = new SnowSchool();
        due("teacher(-1, 1)", x.teacher(-1, 1), BEYOND);
        due("teacher(4, 1)", x.teacher(4, 1), BEYOND);
        due("teacher(0, 0)", x.teacher(0, 0), BEYOND);
        due("teacher(0, 16)", x.teacher(0, 16), BEYOND);
        due("teacher(MAX, MIN)", x.teacher(MAX, MIN), BEYOND);
        for (int i = 0; i < 5; i++) {
            due("teacher " + i, x.teacher(i % 4, i == 1 ? 15 : 1), i);
        }
        due("the sixth", x.teacher(0, 1), FULL);
        due("the sixth without tongues", x.teacher(0, 0), BEYOND);
        due("told(1)", x.told(1), 5);
    }

    private static void as() {
        SnowSchool x = new SnowSchool();
        int[][] pupilIs = {{0}, {0, 1}, {0, 2}, {0, 1, 3}};
        int[][] teacherIs = {{0}, {0, 1}, {0, 2}, {0, 2, 3}};
        for (int kind = 0; kind < 4; kind++) {
            x.pupil(kind, 20, 1);
            x.teacher(kind, 1);
        }
        for (int one = 0; one < 4; one++) {
            for (int kind = 0; kind < 4; kind++) {
                due("as(" + one + ", false, " + kind + ")", x.as(one, false, kind),
                        contains(pupilIs[one], kind) ? one : KIND);
                due("as(" + one + ", true, " + kind + ")", x.as(one, true, kind),
                        contains(teacherIs[one], kind) ? one : KIND);
            }
        }
        x.teacher(0, 1);
        due("as(4, true, 0)", x.as(4, true, 0), 4);
        due("as(4, false, 0)", x.as(4, false, 0), BEYOND);
        due("as(5, true, 0)", x.as(5, true, 0), BEYOND);
        due("as(-1, true, 0)", x.as(-1, true, 0), BEYOND);
        due("as(-1, false, 0)", x.as(-1, false, 0), BEYOND);
        due("as(0, false, 4)", x.as(0, false, 4), BEYOND);
        due("as(0, true, -1)", x.as(0, true, -1), BEYOND);
        due("as(0, false, MIN)", x.as(0, false, MIN), BEYOND);
        due("as(MAX, true, MAX)", x.as(MAX, true, MAX), BEYOND);
    }

    private static boolean contains(int[] row, int wanted) {
        for (int one : row) {
            if (one == wanted) {
                return true;
            }
        }
        return false;
    }

    private static void of() {
        SnowSchool x = new SnowSchool();
        x.pupil(0, 44, 6);
        x.pupil(3, 5, 9);
        x.teacher(2, 15);
        x.teacher(2, 15);
        int[] fresh = {3, 5, 9, 0, 9, 1, -1, -1, -1, -1};
        for (int what = 0; what < 10; what++) {
            due("of(1, " + what + ") at first", x.of(1, what), fresh[what]);
        }
        due("told(6): -1 is no finding", x.told(6), 0);
        x.saw(1, 2, 7);
        x.friend(1, 0);
        x.wish(1, 1);
        x.name(1, 42);
        x.hand(1, 42);
        x.classing();
        x.here(1, false);
        int[] later = {3, 5, 9, 2, 7, 0, 0, 1, 1, 42};
        for (int what = 0; what < 10; what++) {
            due("of(1, " + what + ") later", x.of(1, what), later[what]);
        }
        due("of(0, 1)", x.of(0, 1), 44);
        due("of(0, 2)", x.of(0, 2), 6);
        due("of(0, 8)", x.of(0, 8), 1);
        x.ill(1, true);
        x.classing();
        due("of(0, 8)", x.of(0, 8), 0);
        due("of(1, 8): it is not HERE", x.of(1, 8), -1);
        due("of(2, 0)", x.of(2, 0), BEYOND);
        due("of(-1, 0)", x.of(-1, 0), BEYOND);
        due("of(0, 10)", x.of(0, 10), BEYOND);
        due("of(0, -1)", x.of(0, -1), BEYOND);
        due("of(MIN, MIN)", x.of(MIN, MIN), BEYOND);
    }

    private static void here() {
        SnowSchool x = school(2, 1);
        due("here(0, true)", x.here(0, true), 0);
        due("here(0, false)", x.here(0, false), 1);
        due("here(0, false)", x.here(0, false), 0);
        due("of(0, 5)", x.of(0, 5), 0);
        due("of(1, 5)", x.of(1, 5), 1);
        due("classing()", x.classing(), 1);
        sets(x, 2);
        due("here(0, true)", x.here(0, true), 1);
        due("of(0, 5)", x.of(0, 5), 1);
        due("of(0, 8): THE CLASSES stay", x.of(0, 8), -1);
        due("here(2, true)", x.here(2, true), BEYOND);
        due("here(-1, false)", x.here(-1, false), BEYOND);
        due("here(32, false)", x.here(32, false), BEYOND);
        due("of(0, 5)", x.of(0, 5), 1);
    }

    private static void friend() {
        SnowSchool x = school(3, 1);
        due("friend(0, 1)", x.friend(0, 1), -1);
        due("friend(0, 2)", x.friend(0, 2), 1);
        due("of(0, 6)", x.of(0, 6), 2);
        due("of(2, 6): it has none for that", x.of(2, 6), -1);
        due("friend(0, -1)", x.friend(0, -1), 2);
        due("friend(0, -1)", x.friend(0, -1), -1);
        due("told(6)", x.told(6), 0);
        x.friend(0, 1);
        due("friend(0, 0)", x.friend(0, 0), BEYOND);
        due("friend(0, 3)", x.friend(0, 3), BEYOND);
        due("friend(3, 0)", x.friend(3, 0), BEYOND);
        due("friend(0, -2)", x.friend(0, -2), BEYOND);
        due("friend(-1, 0)", x.friend(-1, 0), BEYOND);
        due("friend(-1, -1)", x.friend(-1, -1), BEYOND);
        due("of(0, 6)", x.of(0, 6), 1);
    }

    private static void wish() {
        SnowSchool x = school(2, 2);
        due("wish(0, 1)", x.wish(0, 1), -1);
        due("wish(1, 1)", x.wish(1, 1), -1);
        due("wish(0, 0)", x.wish(0, 0), 1);
        due("wish(0, 0)", x.wish(0, 0), 0);
        due("of(0, 7)", x.of(0, 7), 0);
        due("of(1, 7)", x.of(1, 7), 1);
        due("wish(0, 2)", x.wish(0, 2), BEYOND);
        due("wish(2, 0)", x.wish(2, 0), BEYOND);
        due("wish(-1, 0)", x.wish(-1, 0), BEYOND);
        due("wish(0, -2)", x.wish(0, -2), BEYOND);
        due("wish(0, MAX)", x.wish(0, MAX), BEYOND);
        due("of(0, 7)", x.of(0, 7), 0);
        due("wish(0, -1)", x.wish(0, -1), 0);
        due("wish(0, -1)", x.wish(0, -1), -1);
        due("of(0, 7)", x.of(0, 7), -1);
        due("told(6)", x.told(6), 5);
    }

    private static void saw() {
        SnowSchool x = school(1, 0);
        due("saw(0, 0, 9)", x.saw(0, 0, 9), 9);
        due("saw(0, 2, 9)", x.saw(0, 2, 9), 7);
        due("saw(0, 0, 6)", x.saw(0, 0, 6), 4);
        due("saw(0, 7, 9)", x.saw(0, 7, 9), STATE);
        due("saw(0, 0, 1)", x.saw(0, 0, 1), STATE);
        due("of(0, 3)", x.of(0, 3), 2);
        due("of(0, 4)", x.of(0, 4), 6);
        due("saw(0, 5, 4)", x.saw(0, 5, 4), BEYOND);
        due("saw(0, -1, 4)", x.saw(0, -1, 4), BEYOND);
        due("saw(0, 4, 10)", x.saw(0, 4, 10), BEYOND);
        due("saw(0, 10, 10)", x.saw(0, 10, 10), BEYOND);
        due("saw(0, -2, -1)", x.saw(0, -2, -1), BEYOND);
        due("saw(1, 0, 9)", x.saw(1, 0, 9), BEYOND);
        due("saw(-1, 0, 9)", x.saw(-1, 0, 9), BEYOND);
        due("saw(0, 6, 9)", x.saw(0, 6, 9), 0);
        due("of(0, 3)", x.of(0, 3), 6);
        due("of(0, 4)", x.of(0, 4), 6);
    }

    private static void ill() {
        SnowSchool x = school(1, 2);
        due("ill(0, false)", x.ill(0, false), 0);
        due("ill(0, true)", x.ill(0, true), 1);
        due("ill(0, true)", x.ill(0, true), 0);
        due("may(0, 1)", x.may(0, 1), 1);
        due("may(1, 1)", x.may(1, 1), 0);
        due("ill(0, false)", x.ill(0, false), 1);
        due("may(0, 1)", x.may(0, 1), 0);
        due("ill(2, true)", x.ill(2, true), BEYOND);
        due("ill(-1, true)", x.ill(-1, true), BEYOND);
    }

    private static void terms() {
        SnowSchool x = school(7, 1);
        due("may(0, 63): MOST is 6 at first", x.may(0, 63), 0);
        due("may(0, 127)", x.may(0, 127), 4);
        due("terms(10, 0, 0, 0)", x.terms(10, 0, 0, 0), 1);
        due("may(0, 127)", x.may(0, 127), 0);
        due("terms(1, 90, 9, 9)", x.terms(1, 90, 9, 9), 1);
        due("may(0, 3)", x.may(0, 3), 4);
        int[][] refused = {{0, 90, 2, 1}, {11, 90, 2, 1}, {6, -1, 2, 1}, {6, 91, 2, 1}, {6, 90, -1, 1},
            {6, 90, 10, 1}, {6, 90, 2, -1}, {6, 90, 2, 10}, {MIN, MAX, MIN, MAX}};
        for (int[] r : refused) {
            due("terms" + java.util.Arrays.toString(r), x.terms(r[0], r[1], r[2], r[3]), BEYOND);
        }
        due("may(0, 3): as before", x.may(0, 3), 4);
    }

    private static void level() {
        SnowSchool x = school(3, 0);
        due("level(7)", x.level(7), 0);
        x.saw(0, 2, 5);
        x.saw(1, 4, 8);
        x.saw(2, 6, 9);
        due("level(1)", x.level(1), 2);
        due("level(3)", x.level(3), 4);
        due("level(6)", x.level(6), 6);
        due("level(5)", x.level(5), NONE);
        due("level(7)", x.level(7), NONE);
        x.here(0, false);
        due("level(3): HERE or not", x.level(3), 4);
        x.saw(1, 5, 5);
        due("level(3): a HIGH at the LEVEL", x.level(3), 5);
        due("level(0)", x.level(0), BEYOND);
        due("level(8)", x.level(8), BEYOND);
        due("level(9)", x.level(9), BEYOND);
        due("level(-1)", x.level(-1), BEYOND);
        due("level(MIN)", x.level(MIN), BEYOND);
        due("level(MAX)", x.level(MAX), BEYOND);
        due("level(1) of an empty school", new SnowSchool().level(1), BEYOND);
    }

    private static void may() {
        SnowSchool x = new SnowSchool();
        x.pupil(0, 20, 1);
        x.pupil(0, 30, 2);
        x.pupil(3, 5, 1);
        x.pupil(2, 20, 1);
        x.teacher(0, 1);
        x.teacher(1, 1);
        x.teacher(2, 1);
        x.teacher(3, 3);
        due("may(0, 2): no tongue", x.may(0, 2), 2);
        due("may(0, 3): no tongue with one", x.may(0, 3), 2);
        due("may(3, 3)", x.may(3, 3), 0);
        due("may(0, 8): a RACER", x.may(0, 8), 7);
        due("may(1, 8)", x.may(1, 8), 7);
        due("may(2, 8)", x.may(2, 8), 0);
        due("may(3, 8)", x.may(3, 8), 0);
        mayByLevel(x);
        mayByTerms(x);
        mayByFriends(x);
        mayAnew();
        due("may(4, 1)", x.may(4, 1), BEYOND);
        due("may(-1, 1)", x.may(-1, 1), BEYOND);
        due("may(0, 0)", x.may(0, 0), BEYOND);
        due("may(0, 16)", x.may(0, 16), BEYOND);
        due("may(0, -1)", x.may(0, -1), BEYOND);
        due("may(0, MIN)", x.may(0, MIN), BEYOND);
    }

    private static void mayByLevel(SnowSchool x) {
        int[][] wanted = {{0, 0, 0}, {0, 0, 0}, {0, 0, 0}, {0, 0, 0}, {0, 7, 0}, {0, 7, 0}, {0, 7, 0}, {0, 7, 0},
            {7, 7, 0}, {7, 7, 0}};
        for (int level = 1; level < 10; level++) {
            x.saw(0, level, 9);
            for (int t = 0; t < 3; t++) {
                due("may(" + t + ", 1) at LEVEL " + level, x.may(t, 1), wanted[level][t]);
            }
        }
    }

    /** PUPIL 0 is at 9 to 9 now. */
    private static void mayByTerms(SnowSchool x) {
        x.terms(7, 9, 2, 1);
        due("may(3, 3): ages 10 apart", x.may(3, 3), 5);
        x.terms(7, 10, 2, 1);
        due("may(3, 3)", x.may(3, 3), 0);
        x.terms(7, 90, 2, 1);
        due("may(3, 7): half of 7 is 3", x.may(3, 7), 0);
        due("may(3, 15)", x.may(3, 15), 4);
        due("may(3, 11): without the TINY", x.may(3, 11), 0);
        x.terms(1, 0, 2, 1);
        due("may(3, 4): half of 1 is 0", x.may(3, 4), 4);
        due("may(3, 3): too many ahead of AGES", x.may(3, 3), 4);
        x.saw(2, 0, 8);
        due("may(3, 5): no LEVEL ahead of too many", x.may(3, 5), 3);
        due("may(2, 7): no tongue ahead of no LEVEL", x.may(2, 7), 2);
        x.ill(2, true);
        due("may(2, 7): ILL ahead of all", x.may(2, 7), 1);
        x.ill(2, false);
    }

    private static void mayByFriends(SnowSchool x) {
        x.terms(6, 90, 2, 1);
        x.friend(0, 3);
        due("may(3, 1)", x.may(3, 1), 6);
        due("may(0, 1): a FRIEND ahead of a LEVEL", x.may(0, 1), 6);
        due("may(3, 9)", x.may(3, 9), 0);
        due("may(3, 8): it has no FRIEND", x.may(3, 8), 0);
        x.here(3, false);
        due("may(3, 1): the FRIEND is not HERE", x.may(3, 1), 0);
        x.here(3, true);
        x.here(0, false);
        due("may(3, 1): it is not HERE itself", x.may(3, 1), 6);
        x.terms(6, 0, 2, 1);
        due("may(3, 3): AGES ahead of a FRIEND", x.may(3, 3), 5);
    }

    /** Nothing of one set is left over in the next; PUPILS that come behind TEACHERS count as others do. */
    private static void mayAnew() {
        SnowSchool x = new SnowSchool();
        x.teacher(0, 2);
        x.teacher(2, 4);
        x.pupil(0, 90, 2);
        x.pupil(0, 90, 6);
        x.pupil(3, 3, 4);
        x.pupil(2, 50, 4);
        x.pupil(0, 50, 4);
        x.terms(2, 0, 2, 1);
        x.friend(1, 0);
        due("may(0, 3): both are 90", x.may(0, 3), 0);
        due("may(0, 2): FRIEND 0", x.may(0, 2), 6);
        due("may(0, 1)", x.may(0, 1), 0);
        due("may(0, 4)", x.may(0, 4), 2);
        due("may(1, 12)", x.may(1, 12), 4);
        due("may(1, 4)", x.may(1, 4), 0);
        due("may(1, 24)", x.may(1, 24), 0);
        x.friend(1, -1);
        due("may(1, 2)", x.may(1, 2), 0);
        x.saw(1, 9, 9);
        due("may(0, 2)", x.may(0, 2), 7);
        due("may(0, 1)", x.may(0, 1), 0);
    }

    private static void classing() {
        SnowSchool x = school(1, 0);
        due("classing() without TEACHERS", x.classing(), NONE);
        x = school(7, 3);
        due("classing()", x.classing(), 2);
        due("told(2)", x.told(2), 2);
        sets(x, 0, 1, 126);
        x.ill(2, true);
        x.here(0, false);
        due("set(1): told later", x.set(1), 1);
        due("classing(): all to another TEACHER at once", x.classing(), 1);
        sets(x, 0, 126, 0);
        x.ill(1, true);
        x.ill(0, true);
        due("classing()", x.classing(), NONE);
        sets(x, 0, 126, 0);
        for (int p = 0; p < 7; p++) {
            x.here(p, false);
        }
        due("classing(): nobody is HERE", x.classing(), 0);
        sets(x, 0, 0, 0);
        classingByWorth();
        classingAtItsSize();
        classingOfTornFriends();
    }

    private static void classingOfTornFriends() {
        SnowSchool x = new SnowSchool();
        x.pupil(0, 20, 1);
        x.pupil(0, 20, 2);
        x.pupil(0, 20, 3);
        x.teacher(0, 1);
        x.teacher(0, 2);
        x.teacher(0, 8);
        x.friend(0, 2);
        due("classing()", x.classing(), 2);
        sets(x, 5, 2);
        x.friend(1, 2);
        due("classing(): no PUPIL is in two", x.classing(), NONE);
        due("noon()", x.noon(), NONE);
        due("worth()", x.worth(), NONE);
        sets(x, 5, 2);
        x.here(2, false);
        due("classing()", x.classing(), 2);
        sets(x, 1, 2);
    }

    private static void classingByWorth() {
        SnowSchool x = school(2, 2);
        x.wish(0, 0);
        due("classing(): fewest ahead of WORTH", x.classing(), 1);
        sets(x, 3, 0);
        x.wish(0, 1);
        due("classing(): KEEP for 2 is more than WISH for 1", x.classing(), 1);
        sets(x, 3, 0);
        x.terms(6, 90, 0, 1);
        due("classing(): WISH alone", x.classing(), 1);
        sets(x, 0, 3);
        x.terms(6, 90, 0, 0);
        x.wish(0, 0);
        due("classing(): no WORTH at all", x.classing(), 1);
        sets(x, 0, 3);
        x.terms(1, 90, 0, 0);
        due("classing(): TEACHER 0 has the least", x.classing(), 2);
        sets(x, 1, 2);
        x.terms(1, 90, 0, 9);
        x.wish(0, 1);
        due("classing(): each where it asks", x.classing(), 2);
        sets(x, 2, 1);
    }

    private static void classingAtItsSize() {
        SnowSchool x = school(10, 5);
        x.terms(2, 90, 9, 9);
        due("classing() of 10 for 5", x.classing(), 5);
        sets(x, 3, 12, 48, 192, 768);
        for (int p = 0; p < 10; p++) {
            x.wish(p, 4 - p / 2);
        }
        due("worth(): 9 for each KEPT, and 4 and 5 are at their WISH", x.worth(), 108);
        due("classing(): of equal WORTH the least sets", x.classing(), 5);
        sets(x, 3, 12, 48, 192, 768);
        x.terms(2, 90, 8, 9);
        due("classing()", x.classing(), 5);
        sets(x, 768, 192, 48, 12, 3);
        due("worth()", x.worth(), 170);
        x.terms(1, 90, 8, 9);
        due("classing(): 5 at most have room", x.classing(), NONE);
        x.terms(10, 90, 9, 9);
        due("classing(): one class, though 5 have more WORTH", x.classing(), 1);
        sets(x, 0, 0, 0, 0, 1023);
    }

    private static void noon() {
        SnowSchool x = school(1, 0);
        due("noon() without TEACHERS", x.noon(), NONE);
        x = school(4, 3);
        x.terms(3, 90, 2, 1);
        due("noon(): whoever was in none has another", x.noon(), 4);
        sets(x, 0, 1, 14);
        due("noon()", x.noon(), 0);
        sets(x, 0, 1, 14);
        x.wish(0, 2);
        x.terms(4, 90, 2, 9);
        due("noon(): fewest moved ahead of fewest CLASSES", x.noon(), 0);
        sets(x, 0, 1, 14);
        x.saw(3, 9, 9);
        x.saw(1, 0, 8);
        x.teacher(2, 1);
        due("noon(): 3 to the MASTER", x.noon(), 1);
        sets(x, 0, 1, 6, 8);
        x.here(3, false);
        due("noon(): who is not HERE does not count", x.noon(), 0);
        sets(x, 0, 1, 6, 0);
        x.ill(2, true);
        due("noon(): of 2 moved the fewest CLASSES", x.noon(), 2);
        sets(x, 0, 7, 0, 0);
        x.ill(1, true);
        x.ill(0, true);
        x.ill(3, true);
        due("noon()", x.noon(), NONE);
        sets(x, 0, 7, 0, 0);
        noonWithoutWorth();
    }

    private static void noonWithoutWorth() {
        SnowSchool x = school(2, 3);
        x.classing();
        sets(x, 0, 0, 3);
        x.ill(2, true);
        x.wish(0, 1);
        x.wish(1, 1);
        x.terms(1, 90, 2, 9);
        due("noon()", x.noon(), 2);
        sets(x, 1, 2, 0);
        x.ill(2, false);
        x.terms(2, 90, 2, 9);
        x.ill(0, true);
        x.ill(1, true);
        due("noon()", x.noon(), 2);
        x.ill(0, false);
        x.ill(1, false);
        x.ill(2, true);
        x.wish(0, 0);
        x.wish(1, 0);
        due("noon(): the least sets, whatever is asked for", x.noon(), 2);
        sets(x, 0, 3, 0);
    }

    private static void worth() {
        SnowSchool x = school(1, 0);
        due("worth() without TEACHERS", x.worth(), NONE);
        x = school(3, 2);
        due("worth()", x.worth(), 0);
        due("set(1): nothing was made", x.set(1), 0);
        x.classing();
        due("worth(): 2 for each KEPT", x.worth(), 6);
        x.wish(0, 1);
        due("worth(): 1 for a WISH", x.worth(), 7);
        x.wish(1, 0);
        due("worth(): it can't have both", x.worth(), 7);
        x.terms(6, 90, 0, 9);
        due("worth()", x.worth(), 9);
        x.terms(6, 90, 9, 9);
        due("worth()", x.worth(), 36);
        x.terms(6, 90, 1, 9);
        x.wish(2, 0);
        due("worth(): not of the CLASSING AT NOON", x.worth(), 18);
        x.wish(2, -1);
        x.terms(6, 90, 9, 9);
        x.here(2, false);
        due("worth(): only of those HERE", x.worth(), 27);
        x.ill(1, true);
        due("worth(): of another CLASSING", x.worth(), 9);
        x.ill(0, true);
        due("worth()", x.worth(), NONE);
        due("told(6)", x.told(6), 1);
        due("set(1)", x.set(1), 7);
    }

    private static void set() {
        SnowSchool x = school(2, 2);
        due("set(0)", x.set(0), 0);
        x.classing();
        sets(x, 0, 3);
        x.here(0, false);
        x.ill(1, true);
        x.friend(1, 0);
        sets(x, 0, 3);
        due("set(2)", x.set(2), BEYOND);
        due("set(-1)", x.set(-1), BEYOND);
        due("set(5)", x.set(5), BEYOND);
    }

    private static void lift() {
        SnowSchool x = new SnowSchool();
        due("lift(0, 5)", x.lift(0, 5), 0);
        due("lift(5, 0)", x.lift(5, 0), 1);
        due("lift(6, 0)", x.lift(6, 0), BEYOND);
        due("lift(0, 6)", x.lift(0, 6), BEYOND);
        due("lift(-1, 0)", x.lift(-1, 0), BEYOND);
        due("lift(0, -1)", x.lift(0, -1), BEYOND);
        due("lift(3, 3)", x.lift(3, 3), BEYOND);
        for (int i = 2; i < 6; i++) {
            due("lift(1, 2)", x.lift(1, 2), i);
        }
        due("the seventh", x.lift(1, 2), FULL);
        due("the seventh to nowhere", x.lift(1, 6), BEYOND);
        due("told(3)", x.told(3), 6);
    }

    private static void slope() {
        SnowSchool x = new SnowSchool();
        due("slope(0, 5, 0)", x.slope(0, 5, 0), 0);
        due("slope(5, 0, 9)", x.slope(5, 0, 9), 1);
        due("slope(6, 0, 0)", x.slope(6, 0, 0), BEYOND);
        due("slope(0, 6, 0)", x.slope(0, 6, 0), BEYOND);
        due("slope(-1, 0, 0)", x.slope(-1, 0, 0), BEYOND);
        due("slope(0, -1, 0)", x.slope(0, -1, 0), BEYOND);
        due("slope(3, 3, 0)", x.slope(3, 3, 0), BEYOND);
        due("slope(0, 1, -1)", x.slope(0, 1, -1), BEYOND);
        due("slope(0, 1, 10)", x.slope(0, 1, 10), BEYOND);
        for (int i = 2; i < 8; i++) {
            due("slope(1, 2, 3)", x.slope(1, 2, 3), i);
        }
        due("the ninth", x.slope(1, 2, 3), FULL);
        due("the ninth of no skill", x.slope(1, 2, 10), BEYOND);
        due("told(4)", x.told(4), 8);
    }

    private static void stop() {
        SnowSchool x = school(1, 0);
        x.lift(0, 1);
        x.lift(1, 2);
        x.slope(1, 0, 0);
        due("stop(0, false)", x.stop(0, false), 0);
        due("serves(1)", x.serves(1), 1);
        due("stop(0, true)", x.stop(0, true), 1);
        due("stop(0, true)", x.stop(0, true), 0);
        due("serves(1)", x.serves(1), 0);
        due("stop(0, false)", x.stop(0, false), 1);
        due("serves(1)", x.serves(1), 1);
        due("stop(2, true)", x.stop(2, true), BEYOND);
        due("stop(-1, true)", x.stop(-1, true), BEYOND);
    }

    private static void meeting() {
        SnowSchool x = school(1, 0);
        x.lift(5, 4);
        x.slope(4, 5, 0);
        due("serves(1) from 0", x.serves(1), 0);
        due("meeting(5)", x.meeting(5), 0);
        due("serves(1) from 5", x.serves(1), 1);
        due("meeting(6)", x.meeting(6), BEYOND);
        due("meeting(-1)", x.meeting(-1), BEYOND);
        due("meeting(4)", x.meeting(4), 5);
        due("serves(1) from 4", x.serves(1), 1);
        due("stranded(1, 0) from 4", x.stranded(1, 0), 32);
        x.slope(4, 3, 0);
        x.lift(0, 4);
        due("serves(1) from 4: 3 leads nowhere", x.serves(1), 1);
    }

    private static void serves() {
        SnowSchool x = school(2, 0);
        due("serves(1): no SLOPES", x.serves(1), 0);
        x.slope(5, 4, 0);
        x.slope(4, 3, 1);
        x.slope(3, 2, 2);
        x.slope(2, 1, 3);
        x.slope(1, 0, 4);
        x.slope(5, 0, 5);
        x.lift(0, 5);
        due("serves(1): no way back", x.serves(1), 0);
        x.saw(0, 3, 9);
        due("serves(1): not the last piece", x.serves(1), 0);
        due("serves(3)", x.serves(3), 0);
        x.saw(0, 4, 9);
        due("serves(1): the long way back", x.serves(1), 31);
        due("serves(3): by the LEVEL of both", x.serves(3), 31);
        due("serves(2)", x.serves(2), 0);
        x.saw(0, 5, 9);
        due("serves(1)", x.serves(1), 63);
        x.slope(3, 0, 9);
        due("serves(1): not what it can't go itself", x.serves(1), 63);
        due("serves(0)", x.serves(0), BEYOND);
        due("serves(4)", x.serves(4), BEYOND);
        due("serves(-1)", x.serves(-1), BEYOND);
        x.saw(1, 0, 4);
        due("serves(3)", x.serves(3), NONE);
        servesOneWay();
    }

    private static void servesOneWay() {
        SnowSchool x = school(1, 0);
        x.slope(0, 1, 0);
        x.slope(2, 0, 0);
        x.slope(1, 3, 0);
        due("serves(1): to where, but not back", x.serves(1), 0);
        x.lift(1, 0);
        due("serves(1): round by 0", x.serves(1), 1);
        x.lift(3, 2);
        due("serves(1): round by all", x.serves(1), 7);
        for (int meeting = 0; meeting < 6; meeting += 5) {
            SnowSchool y = school(1, 0);
            y.meeting(meeting);
            for (int p = 0; p < 5; p++) {
                y.slope(meeting == 0 ? p : 5 - p, meeting == 0 ? p + 1 : 4 - p, 0);
            }
            due("serves(1): no way back from the end", y.serves(1), 0);
            y.lift(5 - meeting, meeting);
            due("serves(1): the longest way round", y.serves(1), 31);
            due("stranded(1, 0): all but THE MEETING", y.stranded(1, 0), 63 - (1 << meeting));
        }
    }

    private static void stranded() {
        SnowSchool x = school(2, 0);
        x.lift(0, 1);
        x.lift(2, 0);
        x.slope(1, 2, 0);
        x.slope(1, 0, 6);
        x.slope(1, 3, 0);
        due("stranded(1, 0): whoever is up comes down", x.stranded(1, 0), 0);
        due("stranded(1, 1)", x.stranded(1, 1), 6);
        x.saw(0, 6, 9);
        due("stranded(1, 1): a slope back from 1", x.stranded(1, 1), 4);
        due("stranded(3, 1)", x.stranded(3, 1), 4);
        due("stranded(2, 1)", x.stranded(2, 1), 6);
        x.stop(0, true);
        due("stranded(2, 1): nobody comes up", x.stranded(2, 1), 0);
        x.stop(0, false);
        x.stop(1, true);
        due("stranded(2, 1): it is STOPPED", x.stranded(2, 1), 0);
        due("stranded(0, 1)", x.stranded(0, 1), BEYOND);
        due("stranded(4, 1)", x.stranded(4, 1), BEYOND);
        due("stranded(-1, 1)", x.stranded(-1, 1), BEYOND);
        due("stranded(1, 2)", x.stranded(1, 2), BEYOND);
        due("stranded(1, -1)", x.stranded(1, -1), BEYOND);
        x.saw(1, 0, 5);
        due("stranded(3, 1)", x.stranded(3, 1), NONE);
        due("stranded(3, 2): BEYOND ahead of NONE", x.stranded(3, 2), BEYOND);
    }

    private static void name() {
        SnowSchool x = new SnowSchool();
        for (int kind = 0; kind < 4; kind++) {
            x.pupil(kind, 9, 1);
        }
        due("name(0, 0)", x.name(0, 0), KIND);
        due("name(1, 0)", x.name(1, 0), 1);
        due("name(2, 0)", x.name(2, 0), KIND);
        due("name(3, 99)", x.name(3, 99), 1);
        due("name(1, 99)", x.name(1, 99), 2);
        due("name(1, 0)", x.name(1, 0), SIZE);
        due("name(1, 50)", x.name(1, 50), 3);
        due("name(1, 51)", x.name(1, 51), FULL);
        due("name(1, 50): SIZE ahead of FULL", x.name(1, 50), SIZE);
        due("name(4, 0)", x.name(4, 0), BEYOND);
        due("name(-1, 0)", x.name(-1, 0), BEYOND);
        due("name(1, 100)", x.name(1, 100), BEYOND);
        due("name(0, -1): BEYOND ahead of KIND", x.name(0, -1), BEYOND);
    }

    private static void hand() {
        SnowSchool x = new SnowSchool();
        for (int kind = 0; kind < 4; kind++) {
            x.pupil(kind, 9, 1);
        }
        x.name(1, 7);
        x.name(3, 0);
        due("hand(0, 7)", x.hand(0, 7), KIND);
        due("hand(2, 7)", x.hand(2, 7), KIND);
        due("hand(1, 0): NAMED for another", x.hand(1, 0), NONE);
        due("of(1, 9)", x.of(1, 9), -1);
        due("hand(3, 0)", x.hand(3, 0), 1);
        due("of(3, 9)", x.of(3, 9), 0);
        due("hand(3, 0)", x.hand(3, 0), STATE);
        due("hand(3, 7): STATE ahead of NONE", x.hand(3, 7), STATE);
        x.here(1, false);
        due("hand(1, 7): HERE or not", x.hand(1, 7), 1);
        due("hand(4, 7)", x.hand(4, 7), BEYOND);
        due("hand(-1, 7)", x.hand(-1, 7), BEYOND);
        due("hand(0, 100): BEYOND ahead of KIND", x.hand(0, 100), BEYOND);
        due("hand(1, -1)", x.hand(1, -1), BEYOND);
    }

    private static void back() {
        SnowSchool x = new SnowSchool();
        for (int kind = 0; kind < 4; kind++) {
            x.pupil(kind, 9, 1);
        }
        x.name(3, 0);
        x.name(3, 8);
        due("back(0)", x.back(0), KIND);
        due("back(2)", x.back(2), KIND);
        due("back(1)", x.back(1), STATE);
        x.hand(3, 0);
        due("back(3)", x.back(3), 0);
        due("back(3)", x.back(3), STATE);
        due("of(3, 9)", x.of(3, 9), -1);
        due("hand(3, 8): to another one", x.hand(3, 8), 1);
        due("back(3)", x.back(3), 8);
        due("name(3, 8): it is NAMED yet", x.name(3, 8), SIZE);
        due("back(4)", x.back(4), BEYOND);
        due("back(-1)", x.back(-1), BEYOND);
    }

    private static void left() {
        SnowSchool x = new SnowSchool();
        for (int p = 0; p < 10; p++) {
            x.pupil(p % 4, 9, 1);
        }
        due("left(): 1, 3, 5, 7 and 9", x.left(), 682);
        x.here(9, false);
        due("left()", x.left(), 170);
        x.name(3, 1);
        x.hand(3, 1);
        due("left()", x.left(), 162);
        x.here(9, true);
        x.back(3);
        due("left()", x.left(), 682);
        SnowSchool y = new SnowSchool();
        y.pupil(3, 9, 1);
        due("left(): 0", y.left(), 1);
    }

    private static void ask() {
        SnowSchool x = school(0, 2);
        due("ask(0, 0, 0, 0)", x.ask(0, 0, 0, 0), 0);
        due("ask(1, 0, 7, 1000)", x.ask(1, 0, 7, 1000), 1);
        due("ask(2, 0, 7, 1000)", x.ask(2, 0, 7, 1000), BEYOND);
        due("ask(-1, 0, 7, 1000)", x.ask(-1, 0, 7, 1000), BEYOND);
        due("ask(0, -1, 7, 0)", x.ask(0, -1, 7, 0), BEYOND);
        due("ask(0, 0, 8, 0)", x.ask(0, 0, 8, 0), BEYOND);
        due("ask(0, 4, 3, 0)", x.ask(0, 4, 3, 0), BEYOND);
        due("ask(0, 0, 7, -1)", x.ask(0, 0, 7, -1), BEYOND);
        due("ask(0, 0, 7, 1001)", x.ask(0, 0, 7, 1001), BEYOND);
        due("ask(0, MIN, MAX, 0)", x.ask(0, MIN, MAX, 0), BEYOND);
        for (int i = 2; i < 10; i++) {
            due("ask(0, 7, 7, 5)", x.ask(0, 7, 7, 5), i);
        }
        due("the eleventh", x.ask(0, 7, 7, 5), FULL);
        due("the eleventh for nobody", x.ask(2, 7, 7, 5), BEYOND);
        due("told(5): all are OPEN", x.told(5), 0);
    }

    private static void hours() {
        SnowSchool x = school(1, 1);
        x.classing();
        for (int hour = 0; hour < 8; hour++) {
            x.ask(0, hour, hour, 1);
        }
        due("choice(0, false): 2 to 4 at first", x.choice(0, false), 227);
        due("hours(0, 0)", x.hours(0, 0), 1);
        due("choice(0, false)", x.choice(0, false), 254);
        due("hours(3, 7)", x.hours(3, 7), 1);
        due("choice(0, false)", x.choice(0, false), 7);
        due("hours(-1, 3)", x.hours(-1, 3), BEYOND);
        due("hours(3, 8)", x.hours(3, 8), BEYOND);
        due("hours(4, 3)", x.hours(4, 3), BEYOND);
        due("hours(MIN, MAX)", x.hours(MIN, MAX), BEYOND);
        due("choice(0, false)", x.choice(0, false), 7);
    }

    private static void book() {
        SnowSchool x = school(1, 2);
        x.ask(0, 0, 2, 10);
        x.ask(0, 2, 5, 20);
        x.ask(0, 3, 4, 0);
        x.ask(1, 0, 7, 40);
        x.ask(1, 5, 7, 50);
        due("book(0)", x.book(0), 10);
        due("book(0)", x.book(0), STATE);
        due("book(1): an HOUR in common", x.book(1), NONE);
        due("book(2): no HOUR in common", x.book(2), 0);
        due("book(3): for another TEACHER", x.book(3), 40);
        due("told(5)", x.told(5), 3);
        due("book(5)", x.book(5), BEYOND);
        due("book(-1)", x.book(-1), BEYOND);
        x.open(3);
        x.classing();
        sets(x, 0, 1);
        due("book(3): THE CLASSES", x.book(3), NONE);
        due("book(4): behind THE HOURS", x.book(4), 50);
        x.open(2);
        due("book(2): no set, no HOURS", x.book(2), 0);
        x.open(2);
        x.ill(0, true);
        due("book(2): ILL", x.book(2), NONE);
        due("book(0): STATE ahead of NONE", x.book(0), STATE);
        due("told(5)", x.told(5), 2);
    }

    private static void open() {
        SnowSchool x = school(0, 1);
        x.ask(0, 0, 2, 10);
        x.ask(0, 1, 1, 20);
        due("open(0)", x.open(0), 0);
        x.book(0);
        due("book(1)", x.book(1), NONE);
        due("open(0)", x.open(0), 1);
        due("open(0)", x.open(0), 0);
        due("book(1)", x.book(1), 20);
        due("open(2)", x.open(2), BEYOND);
        due("open(-1)", x.open(-1), BEYOND);
        due("told(5)", x.told(5), 1);
    }

    private static void choice() {
        SnowSchool x = school(1, 3);
        due("choice(0, false): no ASKS", x.choice(0, false), 0);
        due("choice(0, true)", x.choice(0, true), 0);
        x.ask(0, 0, 3, 70);
        x.ask(0, 4, 7, 70);
        x.ask(0, 0, 7, 140);
        due("choice(0, false): of equal pays the least bits", x.choice(0, false), 3);
        due("choice(0, true)", x.choice(0, true), 140);
        x.ask(0, 1, 2, 70);
        due("choice(0, false): 0 ahead of 3", x.choice(0, false), 3);
        x.ask(0, 3, 3, 0);
        due("choice(0, false): no bit for nothing", x.choice(0, false), 3);
        x.ask(0, 3, 3, 1);
        due("choice(0, false)", x.choice(0, false), 42);
        due("choice(0, true)", x.choice(0, true), 141);
        x.ask(1, 3, 3, 9);
        due("choice(1, false)", x.choice(1, false), 64);
        x.book(2);
        due("choice(0, false): whatever is BOOKED", x.choice(0, false), 42);
        due("told(5): nothing was done", x.told(5), 1);
        x.ill(1, true);
        due("choice(1, false): ILL", x.choice(1, false), 0);
        x.ill(1, false);
        x.ill(2, true);
        x.classing();
        due("choice(1, false): THE CLASSES", x.choice(1, false), 0);
        x.hours(4, 7);
        due("choice(1, false)", x.choice(1, false), 64);
        due("choice(3, true)", x.choice(3, true), BEYOND);
        due("choice(-1, false)", x.choice(-1, false), BEYOND);
        choiceAtItsSize();
    }

    private static void choiceAtItsSize() {
        SnowSchool x = school(0, 1);
        for (int i = 0; i < 10; i++) {
            x.ask(0, i % 8, i % 8, 1000);
        }
        due("choice(0, true)", x.choice(0, true), 8000);
        due("choice(0, false)", x.choice(0, false), 255);
    }

    private static void choose() {
        SnowSchool x = school(0, 2);
        x.ask(0, 0, 4, 50);
        x.ask(0, 0, 1, 30);
        x.ask(0, 2, 3, 30);
        x.ask(0, 6, 6, 0);
        x.ask(1, 0, 7, 5);
        x.book(0);
        x.book(3);
        x.book(4);
        due("choose(0)", x.choose(0), 2);
        due("told(5)", x.told(5), 3);
        due("book(1)", x.book(1), STATE);
        due("book(2)", x.book(2), STATE);
        due("open(0)", x.open(0), 0);
        due("open(3)", x.open(3), 0);
        due("open(4): not for that TEACHER", x.open(4), 1);
        due("choose(0)", x.choose(0), 2);
        x.ill(0, true);
        due("choose(0): ILL", x.choose(0), 0);
        due("told(5)", x.told(5), 0);
        due("choose(2)", x.choose(2), BEYOND);
        due("choose(-1)", x.choose(-1), BEYOND);
    }

    private static void sheet() {
        SnowSchool x = new SnowSchool();
        due("sheet(0, 8, 10)", x.sheet(0, 8, 10), 10);
        due("sheet(3, 16, 1)", x.sheet(3, 16, 1), 1);
        due("sheet(2, 32, 0)", x.sheet(2, 32, 0), 0);
        due("write(2, 0, 1): no number, but a sheet", x.write(2, 0, 1), BEYOND);
        due("write(0, 9, 5)", x.write(0, 9, 5), 0);
        int[] refused = {-8, 1, 7, 9, 24, 64, MIN, MAX};
        for (int bits : refused) {
            due("sheet(0, " + bits + ", 1)", x.sheet(0, bits, 1), BEYOND);
            due("sheet(0, " + bits + ", -1): BEYOND ahead of SIZE", x.sheet(0, bits, -1), BEYOND);
        }
        due("sheet(4, 8, -1)", x.sheet(4, 8, -1), BEYOND);
        due("sheet(-1, 8, 1)", x.sheet(-1, 8, 1), BEYOND);
        due("sheet(0, 8, -1)", x.sheet(0, 8, -1), SIZE);
        due("sheet(0, 8, MIN)", x.sheet(0, 8, MIN), SIZE);
        due("sheet(0, 8, 11)", x.sheet(0, 8, 11), BEYOND);
        due("sheet(0, 0, -1)", x.sheet(0, 0, -1), SIZE);
        due("sheet(0, 0, 11)", x.sheet(0, 0, 11), BEYOND);
        due("write(0, 9, 6): nothing changed", x.write(0, 9, 6), 5);
        due("sheet(0, 8, 10)", x.sheet(0, 8, 10), 10);
        due("write(0, 9, 6): all 0 again", x.write(0, 9, 6), 0);
        due("sheet(0, 0, 10)", x.sheet(0, 0, 10), 0);
        due("write(0, 9, 6)", x.write(0, 9, 6), MISSING);
        due("sheet(0, 0, 0): twice", x.sheet(0, 0, 0), 0);
    }

    private static void write() {
        SnowSchool x = new SnowSchool();
        x.sheet(0, 8, 3);
        x.sheet(1, 16, 3);
        x.sheet(2, 32, 3);
        int[] values = {127, 128, 255, 256, 32767, 32768, 65535, 65536, MAX, MIN, -1, -129, -32769};
        int in8 = 0;
        int in16 = 0;
        int in32 = 0;
        for (int v : values) {
            due("write(0, 1, " + v + ")", x.write(0, 1, v), in8);
            due("write(1, 1, " + v + ")", x.write(1, 1, v), in16);
            due("write(2, 1, " + v + ")", x.write(2, 1, v), in32);
            in8 = (byte) v;
            in16 = (short) v;
            in32 = v;
        }
        due("write(0, 0, 1): its neighbour", x.write(0, 0, 1), 0);
        due("write(0, 2, 1): its neighbour", x.write(0, 2, 1), 0);
        due("told(6): what it was is no finding", x.told(6), 0);
        due("write(4, 0, 0)", x.write(4, 0, 0), BEYOND);
        due("write(-1, 0, 0)", x.write(-1, 0, 0), BEYOND);
        due("write(3, 0, 0)", x.write(3, 0, 0), MISSING);
        due("write(3, -1, 0): MISSING ahead of BEYOND", x.write(3, -1, 0), MISSING);
        due("write(0, 3, 0)", x.write(0, 3, 0), BEYOND);
        due("write(0, -1, 0)", x.write(0, -1, 0), BEYOND);
        due("write(0, MAX, 0)", x.write(0, MAX, 0), BEYOND);
    }

    private static void copy() {
        SnowSchool x = new SnowSchool();
        x.sheet(0, 8, 5);
        x.sheet(1, 8, 3);
        x.sheet(2, 16, 5);
        for (int i = 0; i < 5; i++) {
            x.write(0, i, i + 1);
        }
        due("copy(0, 2, 1, 1, 2)", x.copy(0, 2, 1, 1, 2), 2);
        row(x, 1, 0, 3, 4);
        due("copy(0, 0, 0, 1, 4): as they all were", x.copy(0, 0, 0, 1, 4), 4);
        row(x, 0, 1, 1, 2, 3, 4);
        due("copy(0, 1, 0, 0, 4)", x.copy(0, 1, 0, 0, 4), 4);
        row(x, 0, 1, 2, 3, 4, 4);
        due("copy(0, 5, 1, 3, 0)", x.copy(0, 5, 1, 3, 0), 0);
        copyRefused(x);
        row(x, 0, 1, 2, 3, 4, 4);
        row(x, 1, 0, 3, 4);
    }

    private static void copyRefused(SnowSchool x) {
        due("copy(-1, 0, 0, 0, 1)", x.copy(-1, 0, 0, 0, 1), BEYOND);
        due("copy(0, 0, 4, 0, 1)", x.copy(0, 0, 4, 0, 1), BEYOND);
        due("copy(3, 0, 4, 0, 1): BEYOND ahead of MISSING", x.copy(3, 0, 4, 0, 1), BEYOND);
        due("copy(0, 0, 3, 0, 1)", x.copy(0, 0, 3, 0, 1), MISSING);
        due("copy(3, 0, 0, 0, 1)", x.copy(3, 0, 0, 0, 1), MISSING);
        due("copy(3, -1, 3, 0, 1)", x.copy(3, -1, 3, 0, 1), MISSING);
        due("copy(0, 0, 2, 0, 1)", x.copy(0, 0, 2, 0, 1), KIND);
        due("copy(0, 0, 2, 0, -1): KIND ahead of BEYOND", x.copy(0, 0, 2, 0, -1), KIND);
        due("copy(0, 0, 1, 0, 4)", x.copy(0, 0, 1, 0, 4), BEYOND);
        due("copy(1, 0, 0, 0, 4)", x.copy(1, 0, 0, 0, 4), BEYOND);
        due("copy(0, 3, 1, 0, 3)", x.copy(0, 3, 1, 0, 3), BEYOND);
        due("copy(0, 0, 1, 1, 3)", x.copy(0, 0, 1, 1, 3), BEYOND);
        due("copy(0, -1, 1, 0, 1)", x.copy(0, -1, 1, 0, 1), BEYOND);
        due("copy(0, 0, 1, -1, 1)", x.copy(0, 0, 1, -1, 1), BEYOND);
        due("copy(0, 0, 1, 0, -1)", x.copy(0, 0, 1, 0, -1), BEYOND);
        due("copy(0, 6, 1, 0, 0)", x.copy(0, 6, 1, 0, 0), BEYOND);
        due("copy(0, 6, 1, 0, -1)", x.copy(0, 6, 1, 0, -1), BEYOND);
        due("copy(0, MAX, 1, 0, 1)", x.copy(0, MAX, 1, 0, 1), BEYOND);
        due("copy(0, 1, 1, 0, MAX)", x.copy(0, 1, 1, 0, MAX), BEYOND);
        due("copy(0, MAX, 1, MAX, MAX)", x.copy(0, MAX, 1, MAX, MAX), BEYOND);
        due("copy(0, MIN, 1, MIN, MIN)", x.copy(0, MIN, 1, MIN, MIN), BEYOND);
        due("copy(0, 0, 1, 0, MIN)", x.copy(0, 0, 1, 0, MIN), BEYOND);
    }

    private static void row(SnowSchool x, int s, int... wanted) {
        for (int i = 0; i < wanted.length; i++) {
            int got = x.write(s, i, 0);
            due("number " + i + " of sheet " + s, got, wanted[i]);
            x.write(s, i, got);
        }
    }

    private static void read() {
        SnowSchool x = school(4, 0);
        x.sheet(0, 8, 3);
        x.write(0, 0, 27);
        x.write(0, 1, 0);
        x.write(0, 2, 99);
        due("read(0)", x.read(0), 3);
        int[][] spans = {{2, 7}, {0, 0}, {9, 9}, {0, 9}};
        spans(x, spans);
        x.write(0, 0, 38);
        x.write(0, 1, 10);
        x.write(0, 2, 98);
        due("read(0): a low above its high at 1", x.read(0), 1);
        spans[0] = new int[] {3, 7};
        spans(x, spans);
        x.write(0, 0, 89);
        x.write(0, 1, 0);
        due("read(0): nothing in common at 0", x.read(0), 0);
        spans(x, spans);
        due("told(6): that is no finding", x.told(6), 0);
        x.write(0, 0, 55);
        x.write(0, 2, 100);
        due("read(0): 100 is BEYOND, ahead of all", x.read(0), BEYOND);
        x.write(0, 2, -1);
        due("read(0)", x.read(0), BEYOND);
        spans(x, spans);
        x.sheet(1, 32, 5);
        due("read(1): more than PUPILS", x.read(1), BEYOND);
        x.sheet(1, 32, 4);
        x.write(1, 3, MIN);
        due("read(1)", x.read(1), BEYOND);
        x.write(1, 3, 9);
        x.write(1, 0, 100);
        due("read(1)", x.read(1), BEYOND);
        x.write(1, 0, 9);
        x.write(1, 1, 9);
        x.write(1, 2, 9);
        x.write(1, 3, 45);
        due("read(1): as many as PUPILS", x.read(1), 4);
        spans[3] = new int[] {4, 5};
        spans(x, spans);
        x.sheet(1, 16, 0);
        due("read(1): none", x.read(1), 0);
        due("read(2)", x.read(2), MISSING);
        due("read(4)", x.read(4), BEYOND);
        due("read(-1)", x.read(-1), BEYOND);
        spans(x, spans);
    }

    private static void spans(SnowSchool x, int[][] wanted) {
        for (int p = 0; p < wanted.length; p++) {
            due("of(" + p + ", 3)", x.of(p, 3), wanted[p][0]);
            due("of(" + p + ", 4)", x.of(p, 4), wanted[p][1]);
        }
    }

    private static void told() {
        SnowSchool x = school(3, 2);
        x.lift(0, 1);
        x.slope(1, 0, 3);
        x.slope(1, 0, 4);
        x.ask(0, 0, 0, 5);
        x.ask(0, 1, 1, 5);
        x.book(1);
        x.terms(2, 90, 2, 1);
        x.classing();
        int[] wanted = {3, 2, 2, 1, 2, 1, 0};
        for (int what = 0; what < 7; what++) {
            due("told(" + what + ")", x.told(what), wanted[what]);
        }
        due("told(7)", x.told(7), BEYOND);
        due("told(-1)", x.told(-1), BEYOND);
        due("told(6): those two", x.told(6), 2);
        due("told(6): it is none itself", x.told(6), 2);
        x.told(MIN);
        x.told(MAX);
        x.level(0);
        x.back(0);
        x.read(0);
        due("told(6)", x.told(6), 7);
        toldOfAFullHouse();
    }

    /** As many of all as there may be, the one that nobody has asked for, taught or booked last. */
    private static void toldOfAFullHouse() {
        SnowSchool x = school(0, 5);
        for (int p = 0; p < 10; p++) {
            due("pupil(1, 20, 1)", x.pupil(1, 20, 1), p);
            due("of(" + p + ", 7)", x.of(p, 7), -1);
            due("of(" + p + ", 8)", x.of(p, 8), -1);
        }
        for (int i = 0; i < 6; i++) {
            x.lift(i % 2 * 5, 5 - i % 2 * 5);
        }
        for (int i = 0; i < 8; i++) {
            x.slope(i % 6, (i + 1) % 6, 0);
        }
        for (int i = 0; i < 10; i++) {
            x.ask(i % 5, i / 5, i / 5, i);
        }
        x.sheet(0, 32, 10);
        due("serves(1023)", x.serves(1023), 255);
        due("stranded(1023, 5)", x.stranded(1023, 5), 0);
        due("level(1023)", x.level(1023), 0);
        due("level(1024)", x.level(1024), BEYOND);
        due("may(4, 1023)", x.may(4, 1023), 4);
        due("read(0)", x.read(0), 10);
        due("book(9)", x.book(9), 9);
        due("choose(4)", x.choose(4), 2);
        due("choice(3, false)", x.choice(3, false), 264);
        due("left()", x.left(), 1023);
        due("classing()", x.classing(), 2);
        sets(x, 0, 0, 0, 15, 1008);
        due("noon()", x.noon(), 0);
        due("worth()", x.worth(), 20);
        int[] wanted = {10, 5, 2, 6, 8, 2, 1};
        for (int what = 0; what < 7; what++) {
            due("told(" + what + ")", x.told(what), wanted[what]);
        }
    }

    private static void each(int number) {
        promise = number;
        switch (number) {
            case 1 -> aNewObject();
            case 2 -> pupil();
            case 3 -> teacher();
            case 4 -> as();
            case 5 -> of();
            case 6 -> here();
            case 7 -> friend();
            case 8 -> wish();
            case 9 -> saw();
            case 10 -> ill();
            case 11 -> terms();
            case 12 -> level();
            case 13 -> may();
            case 14 -> classing();
            case 15 -> noon();
            case 16 -> worth();
            case 17 -> set();
            case 18 -> lift();
            case 19 -> slope();
            case 20 -> stop();
            case 21 -> meeting();
            case 22 -> serves();
            case 23 -> stranded();
            case 24 -> name();
            case 25 -> hand();
            case 26 -> back();
            case 27 -> left();
            case 28 -> ask();
            case 29 -> hours();
            case 30 -> book();
            case 31 -> open();
            case 32 -> choice();
            case 33 -> choose();
            case 34 -> sheet();
            case 35 -> write();
            case 36 -> copy();
            case 37 -> read();
            default -> told();
        }
    }

    public static void main(String[] args) {
        for (int number = 1; number <= 38; number++) {
            each(number);
        }
        System.out.println(asked + " answers looked at, " + wrong + " not as due");
        if (wrong != 0) {
            System.exit(1);
        }
    }
}
