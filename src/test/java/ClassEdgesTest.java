/** Promises 12 to 17, edge by edge: sets and LEVELS, who MAY TEACH, and CLASSES of nobody, of all, and of none. */
public final class ClassEdgesTest {
    private static final int BEYOND = Edges.BEYOND;
    private static final int NONE = Edges.NONE;
    private static final int MIN = Edges.MIN;
    private static final int MAX = Edges.MAX;
    private static final Edges EDGES = new Edges();
    private static final Edges.Deed BUSY = Edges.BUSY;
    private static final Edges.Deed FULL_HOUSE = Edges.FULL_HOUSE;

    /** No sets of PUPILS of the busy school (it has 0 to 5). */
    private static final int[] NO_SET = {0, 64, 65, 127, 128, 1 << 30, MIN, MIN + 1, MAX, -1, -64};
    private static final int[] NO_TEACHER = {-1, -2, 3, 4, 5, 31, 32, 64, MIN, MAX};

    private static void level() {
        EDGES.promise(12);
        for (int set : NO_SET) {
            EDGES.refuses("level(" + set + ")", BEYOND, BUSY, x -> x.level(set));
        }
        EDGES.refuses("level(1024) of a full house", BEYOND, FULL_HOUSE, x -> x.level(1024));
        EDGES.refuses("level(2047) of a full house", BEYOND, FULL_HOUSE, x -> x.level(2047));
        EDGES.asksOnly("level(1023) of a full house", 4, FULL_HOUSE, x -> x.level(1023));
        EDGES.asksOnly("level(512) of a full house", 4, FULL_HOUSE, x -> x.level(512));
        EDGES.asksOnly("one that is not HERE", 0, BUSY, x -> x.level(32));
        EDGES.refuses("no LEVEL: 0 to 4 and 5 to 8", NONE, BUSY, x -> x.level(6));
        EDGES.refuses("no LEVEL, and one that is not there: BEYOND ahead of NONE", BEYOND, BUSY, x -> x.level(70));
        int[][] spans = {{0, 4, 4, 9, 4}, {0, 4, 5, 9, NONE}, {0, 0, 0, 0, 0}, {9, 9, 9, 9, 9}, {0, 9, 9, 9, 9},
            {0, 8, 9, 9, NONE}, {0, 0, 0, 9, 0}, {0, 0, 1, 9, NONE}, {2, 6, 3, 5, 3}};
        for (int[] s : spans) {
            Edges.Deed given = Edges.school(2, 0).then(x -> x.saw(0, s[0], s[1])).then(x -> x.saw(1, s[2], s[3]));
            String name = "LEVEL of " + s[0] + " to " + s[1] + " with " + s[2] + " to " + s[3];
            if (s[4] == NONE) {
                EDGES.refuses(name, NONE, given, x -> x.level(3));
            } else {
                EDGES.asksOnly(name, s[4], given, x -> x.level(3));
            }
        }
        EDGES.refuses("three of whom each two have one, or none", NONE, Edges.school(3, 0).then(x -> {
            x.saw(0, 0, 4);
            x.saw(1, 4, 6);
            x.saw(2, 5, 9);
        }), x -> x.level(7));
    }

    private static void mayRefuses() {
        EDGES.promise(13);
        for (int set : NO_SET) {
            EDGES.refuses("may(0, " + set + ")", BEYOND, BUSY, x -> x.may(0, set));
            EDGES.refuses("may(1, " + set + "): BEYOND ahead of ILL", BEYOND, BUSY, x -> x.may(1, set));
            EDGES.refuses("may(3, " + set + ")", BEYOND, BUSY, x -> x.may(3, set));
        }
        for (int teacher : NO_TEACHER) {
            EDGES.refuses("may(" + teacher + ", 1)", BEYOND, BUSY, x -> x.may(teacher, 1));
        }
        EDGES.refuses("may(4, 1024) of a full house", BEYOND, FULL_HOUSE, x -> x.may(4, 1024));
        EDGES.refuses("may(5, 1023) of a full house", BEYOND, FULL_HOUSE, x -> x.may(5, 1023));
        EDGES.asksOnly("may(4, 1023) of a full house: too many", 4, FULL_HOUSE, x -> x.may(4, 1023));
    }

    /** All that can stand against two PUPILS, each alone and with all others: the least number is told. */
    private static void mayTellsTheLeast() {
        EDGES.promise(13);
        for (int reasons = 0; reasons < 128; reasons++) {
            int all = reasons;
            int least = all == 0 ? 0 : Integer.numberOfTrailingZeros(all) + 1;
            EDGES.asksOnly("may() with reasons " + Integer.toBinaryString(all), least, x -> against(x, all),
                    x -> x.may(0, 3));
        }
    }

    private static void against(SnowSchool x, int reasons) {
        x.teacher(0, 1);
        x.pupil(0, 20, 1);
        x.pupil((reasons & 64) != 0 ? 2 : 0, 21, (reasons & 2) != 0 ? 2 : 1);
        x.pupil(0, 20, 1);
        x.ill(0, (reasons & 1) != 0);
        if ((reasons & 4) != 0) {
            x.saw(0, 0, 3);
            x.saw(1, 4, 4);
        }
        x.terms((reasons & 8) != 0 ? 1 : 2, (reasons & 16) != 0 ? 0 : 1, 2, 1);
        if ((reasons & 32) != 0) {
            x.friend(1, 2);
        }
    }

    private static void mayByLevel() {
        EDGES.promise(13);
        int[] best = {7, 3, 9, 9};
        String[] names = {"a TEACHER", "a LEARNER", "a MASTER", "a GUIDE"};
        for (int kind = 0; kind < 4; kind++) {
            int t = kind;
            for (int level = 0; level < 10; level++) {
                int low = level;
                EDGES.answers(names[kind] + " at LEVEL " + level, level <= best[kind] ? 0 : 7,
                        x -> {
                            Edges.makeOneOfEachKind(x);
                            x.saw(0, low, 9);
                        }, x -> x.may(t, 1));
                EDGES.answers(names[kind] + " for a RACER at LEVEL " + level, kind >= 2 ? 0 : 7,
                        x -> {
                            Edges.makeOneOfEachKind(x);
                            x.saw(2, low, 9);
                        }, x -> x.may(t, 4));
            }
            EDGES.answers(names[kind] + " for a RACER among others", kind >= 2 ? 0 : 7, Edges::makeOneOfEachKind,
                    x -> x.may(t, 7));
            EDGES.answers(names[kind] + " for a CHILD and a TINY", 0, Edges::makeOneOfEachKind, x -> x.may(t, 10));
        }
    }

    private static void mayByTongues() {
        EDGES.promise(13);
        for (int mine = 1; mine < 16; mine++) {
            for (int theirs = 1; theirs < 16; theirs++) {
                int m = mine;
                int p = theirs;
                EDGES.answers("TONGUES " + mine + " for " + theirs, (mine & theirs) != 0 ? 0 : 2, x -> {
                    x.pupil(0, 20, p);
                    x.teacher(0, m);
                    x.pupil(0, 20, m);
                }, x -> x.may(0, 3));
            }
        }
        EDGES.answers("one TONGUE with the one, another with the other", 0, x -> {
            x.pupil(0, 20, 1);
            x.pupil(0, 20, 8);
            x.teacher(0, 9);
        }, x -> x.may(0, 3));
        EDGES.answers("a TONGUE among the PUPILS only", 2, x -> {
            x.pupil(0, 20, 3);
            x.pupil(0, 20, 2);
            x.teacher(0, 1);
        }, x -> x.may(0, 3));
    }

    private static void mayByFriends() {
        EDGES.promise(13);
        Edges.Deed friends = Edges.school(4, 1).then(x -> x.friend(0, 1));
        EDGES.answers("a FRIEND that is not among them", 6, friends, x -> x.may(0, 1));
        EDGES.answers("a FRIEND that is among them", 0, friends, x -> x.may(0, 3));
        EDGES.answers("whose FRIEND it is has none", 0, friends, x -> x.may(0, 2));
        EDGES.answers("a FRIEND of one of several", 6, friends, x -> x.may(0, 13));
        EDGES.answers("a FRIEND that is not HERE", 0, friends.then(x -> x.here(1, false)), x -> x.may(0, 1));
        EDGES.answers("a FRIEND that is not HERE, among them", 0, friends.then(x -> x.here(1, false)),
                x -> x.may(0, 3));
        EDGES.answers("a FRIEND that is HERE again", 6,
                friends.then(x -> x.here(1, false)).then(x -> x.here(1, true)), x -> x.may(0, 1));
        EDGES.answers("a FRIEND of one that is not HERE", 6, friends.then(x -> x.here(0, false)), x -> x.may(0, 1));
        EDGES.answers("no FRIEND any more", 0, friends.then(x -> x.friend(0, -1)), x -> x.may(0, 1));
        EDGES.answers("a FRIEND's FRIEND that is not among them", 6, friends.then(x -> x.friend(1, 2)),
                x -> x.may(0, 3));
        EDGES.answers("a FRIEND's FRIEND that is among them", 0, friends.then(x -> x.friend(1, 2)),
                x -> x.may(0, 7));
        EDGES.answers("PUPIL 9 is a FRIEND", 6, Edges.school(10, 1).then(x -> x.friend(0, 9)), x -> x.may(0, 1));
        EDGES.answers("PUPIL 0 is a FRIEND", 6, Edges.school(10, 1).then(x -> x.friend(9, 0)), x -> x.may(0, 512));
    }

    private static Edges.Deed room(int pupils, int teachers, int most) {
        return Edges.school(pupils, teachers).then(x -> x.terms(most, 90, 2, 1));
    }

    private static void classing() {
        EDGES.promise(14);
        EDGES.answers("PUPILS, but none HERE, no TEACHERS", 0, Edges.school(1, 0).then(x -> x.here(0, false)),
                SnowSchool::classing);
        EDGES.answers("TEACHERS, but no PUPILS", 0, Edges.school(0, 5), SnowSchool::classing);
        EDGES.answers("TEACHERS that are ILL, nobody HERE", 0, Edges.school(0, 1).then(x -> x.ill(0, true)),
                SnowSchool::classing);
        EDGES.refuses("PUPILS, but no TEACHERS", NONE, Edges.school(1, 0), SnowSchool::classing);
        EDGES.refuses("all TEACHERS are ILL", NONE, BUSY.then(x -> x.ill(0, true)).then(x -> x.ill(2, true)),
                SnowSchool::classing);
        EDGES.refuses("one with whom nobody has a TONGUE", NONE, Edges.school(9, 5).then(x -> x.pupil(0, 20, 14)),
                SnowSchool::classing);
        EDGES.refuses("a TINY while half of MOST is 0", NONE, room(0, 5, 1).then(x -> x.pupil(3, 20, 1)),
                SnowSchool::classing);
        EDGES.answers("a TINY while half of MOST is 1", 1, room(0, 5, 2).then(x -> x.pupil(3, 20, 1)),
                SnowSchool::classing);
        Edges.Deed shared = room(4, 5, 2).then(x -> x.friend(1, 0)).then(x -> x.friend(2, 0));
        EDGES.refuses("a FRIEND of two can't be in two CLASSES", NONE, shared, SnowSchool::classing);
        EDGES.refuses("a FRIEND of two can't be in two CLASSES AT NOON", NONE, shared, SnowSchool::noon);
        EDGES.answers("a FRIEND of two in one CLASS with both", 2, shared.then(x -> x.terms(3, 90, 2, 1)),
                SnowSchool::classing);
        int[][] rooms = {{5, 5, 1, 5}, {6, 5, 1, NONE}, {10, 5, 2, 5}, {10, 4, 2, NONE}, {10, 1, 10, 1},
            {10, 1, 9, NONE}, {10, 2, 9, 2}, {10, 2, 5, 2}, {10, 2, 4, NONE}, {10, 5, 10, 1}, {1, 5, 10, 1}};
        for (int[] r : rooms) {
            String name = r[0] + " PUPILS, " + r[1] + " TEACHERS, MOST " + r[2];
            if (r[3] == NONE) {
                EDGES.refuses(name, NONE, room(r[0], r[1], r[2]), SnowSchool::classing);
                EDGES.refuses(name + " AT NOON", NONE, room(r[0], r[1], r[2]), SnowSchool::noon);
                EDGES.refuses(name + ": worth()", NONE, room(r[0], r[1], r[2]), SnowSchool::worth);
            } else {
                EDGES.answers(name, r[3], room(r[0], r[1], r[2]), SnowSchool::classing);
                EDGES.answers(name + ": told(2)", r[3], room(r[0], r[1], r[2]).then(SnowSchool::classing),
                        x -> x.told(2));
                EDGES.answers(name + " AT NOON: all are new", r[0], room(r[0], r[1], r[2]), SnowSchool::noon);
                EDGES.answers(name + ": worth()", 0, room(r[0], r[1], r[2]), SnowSchool::worth);
            }
        }
    }

    private static void classingChooses() {
        EDGES.promise(14);
        Edges.Deed asking = Edges.school(2, 2).then(x -> x.wish(0, 0)).then(x -> x.wish(1, 1));
        sets("fewest CLASSES ahead of WORTH", asking.then(x -> x.terms(2, 90, 9, 9)), true, 0, 3);
        Edges.Deed dear = ClassEdgesTest::makeTwoClassesOfGreatestWorth;
        sets("one CLASS less ahead of all the WORTH there can be", dear, true, 0, 0, 1023);
        EDGES.answers("one CLASS less: its WORTH is 0", 0, dear, SnowSchool::worth);
        sets("the WORTH was there", dear.then(x -> x.terms(5, 90, 9, 9)), true, 31, 992, 0);
        EDGES.answers("the WORTH was 180", 180, dear.then(x -> x.terms(5, 90, 9, 9)), SnowSchool::worth);
        sets("WORTH ahead of the least sets", Edges.school(2, 2).then(x -> x.wish(0, 0)), true, 3, 0);
        sets("WORTH ahead of the least sets, two CLASSES needed", x -> {
            x.teacher(0, 1);
            x.teacher(0, 2);
            x.teacher(0, 1);
            x.wish(x.pupil(0, 20, 1), 0);
            x.pupil(0, 20, 2);
        }, true, 1, 2, 0);
        sets("of equal WORTH TEACHER 0 has none", Edges.school(2, 2), true, 0, 3);
        sets("of equal WORTH, both needed: the least for TEACHER 0", room(3, 2, 2), true, 1, 6);
        sets("then the least for TEACHER 1", room(3, 3, 1), true, 1, 2, 4);
        sets("with none for TEACHER 0, the least for TEACHER 1", room(3, 3, 2), true, 0, 1, 6);
        Edges.Deed kept = room(1, 2, 6).then(x -> x.ill(1, true)).then(SnowSchool::classing)
                .then(x -> x.ill(1, false));
        sets("the week's TEACHER is kept", kept, true, 1, 0);
        sets("KEEP as much as WISH: the least set", kept.then(x -> x.wish(0, 1)).then(x -> x.terms(6, 90, 4, 4)), true,
                0, 1);
        sets("KEEP one more than WISH", kept.then(x -> x.wish(0, 1)).then(x -> x.terms(6, 90, 5, 4)), true, 1, 0);
        sets("WISH one more than KEEP", kept.then(x -> x.wish(0, 1)).then(x -> x.terms(6, 90, 4, 5)), true, 0, 1);
        sets("KEEP and WISH 0: the least set", kept.then(x -> x.wish(0, 0)).then(x -> x.terms(6, 90, 0, 0)), true, 0,
                1);
        sets("whoever is not HERE is in no CLASS", Edges.school(3, 1).then(x -> x.here(1, false)), true, 5);
        sets("whoever is HERE no more leaves its CLASS",
                Edges.school(3, 1).then(SnowSchool::classing).then(x -> x.here(1, false)), true, 5);
        sets("nobody is HERE any more: no CLASSES",
                Edges.school(1, 1).then(SnowSchool::classing).then(x -> x.here(0, false)), true, 0);
        sets("a full house of five twos", room(10, 5, 2), true, 3, 12, 48, 192, 768);
        sets("a full house of one", room(10, 5, 10), true, 0, 0, 0, 0, 1023);
    }

    /** What each TEACHER has behind classing() or noon(). */
    private static void sets(String name, Edges.Deed given, boolean day, int... wanted) {
        for (int t = 0; t < wanted.length; t++) {
            int asked = t;
            EDGES.answers(name + ": set(" + t + ")", wanted[t], given, x -> {
                if (day) {
                    x.classing();
                } else {
                    x.noon();
                }
                return x.set(asked);
            });
        }
    }

    /** PUPILS 0 to 2 in the CLASS of TEACHER 1, who is kept whatever is told later. */
    private static void toldLater() {
        EDGES.promise(17);
        Edges.Deed made = Edges.school(3, 2).then(SnowSchool::classing);
        Edges.Deed[] later = {x -> x.here(0, false), x -> x.ill(1, true), x -> x.friend(0, 1), x -> x.wish(0, 0),
            x -> x.saw(0, 9, 9), x -> x.terms(1, 0, 0, 0), x -> x.pupil(0, 20, 1), x -> x.teacher(3, 15),
            x -> x.lift(0, 1), x -> x.hours(0, 7), SnowSchool::worth};
        String[] names = {"not HERE", "ILL", "a FRIEND", "a WISH", "a SKILL", "terms", "a new PUPIL", "a new TEACHER",
            "a LIFT", "hours", "worth()"};
        for (int i = 0; i < later.length; i++) {
            EDGES.answers(names[i] + " told later: THE CLASSES stay", 7, made.then(later[i]), x -> x.set(1));
            EDGES.answers(names[i] + " told later: its TEACHER stays", 1, made.then(later[i]), x -> x.of(0, 8));
            EDGES.answers(names[i] + " told later: how many CLASSES", 1, made.then(later[i]), x -> x.told(2));
        }
        EDGES.leaves("behind NONE: THE CLASSES stay", 7,
                made.then(x -> x.ill(0, true)).then(x -> x.ill(1, true)).then(SnowSchool::classing), x -> x.set(1));
        EDGES.leaves("behind NONE AT NOON: THE CLASSES stay", 7,
                made.then(x -> x.ill(0, true)).then(x -> x.ill(1, true)).then(SnowSchool::noon), x -> x.set(1));
    }

    private static void noon() {
        EDGES.promise(15);
        EDGES.answers("nobody is HERE, no TEACHERS", 0, Edges.school(1, 0).then(x -> x.here(0, false)),
                SnowSchool::noon);
        EDGES.refuses("PUPILS, but no TEACHERS", NONE, Edges.school(1, 0), SnowSchool::noon);
        EDGES.refuses("all TEACHERS are ILL", NONE, BUSY.then(x -> x.ill(0, true)).then(x -> x.ill(2, true)),
                SnowSchool::noon);
        EDGES.answers("all stay: nobody has another", 0, Edges.school(10, 5).then(SnowSchool::classing),
                SnowSchool::noon);
        EDGES.answers("all ten have another", 10, room(10, 2, 10).then(SnowSchool::classing).then(x -> x.ill(1, true)),
                SnowSchool::noon);
        EDGES.answers("one who was in none", 1,
                Edges.school(2, 2).then(SnowSchool::classing).then(x -> x.pupil(0, 20, 1)), SnowSchool::noon);
        EDGES.answers("one who is not HERE does not count", 0,
                Edges.school(2, 1).then(SnowSchool::classing).then(x -> x.here(0, false)), SnowSchool::noon);
        EDGES.answers("one who comes back where it was does not count", 0,
                Edges.school(2, 1).then(x -> x.here(0, false)).then(x -> x.here(0, true)).then(SnowSchool::classing),
                SnowSchool::noon);
        EDGES.answers("one who came back behind noon() was in none", 1, Edges.school(2, 1).then(SnowSchool::classing)
                .then(x -> x.here(0, false)).then(SnowSchool::noon).then(x -> x.here(0, true)), SnowSchool::noon);
        EDGES.answers("how many CLASSES AT NOON", 2, room(3, 2, 2).then(SnowSchool::noon), x -> x.told(2));
    }

    private static void noonChooses() {
        EDGES.promise(15);
        Edges.Deed two = room(3, 3, 2).then(SnowSchool::classing).then(x -> x.terms(6, 90, 2, 1));
        sets("fewest moved ahead of fewest CLASSES", two, false, 0, 1, 6);
        sets("classing() has the fewest CLASSES", two, true, 0, 0, 7);
        sets("of as many moved the fewest CLASSES", two.then(x -> x.ill(1, true)), false, 0, 0, 7);
        Edges.Deed one = Edges.school(2, 3).then(SnowSchool::classing).then(x -> x.ill(2, true));
        sets("of as few CLASSES the least sets", one, false, 0, 3, 0);
        sets("of as few CLASSES the least sets, whatever is asked for",
                one.then(x -> x.wish(0, 0)).then(x -> x.wish(1, 0)), false, 0, 3, 0);
        sets("classing() has what is asked for", one.then(x -> x.wish(0, 0)).then(x -> x.wish(1, 0)), true, 3, 0, 0);
        sets("without CLASSES: fewest, then the least", room(4, 3, 3), false, 0, 1, 14);
        sets("whoever is not HERE leaves its CLASS",
                Edges.school(2, 1).then(SnowSchool::classing).then(x -> x.here(0, false)), false, 2);
        sets("nobody is HERE any more: no CLASSES",
                Edges.school(1, 1).then(SnowSchool::classing).then(x -> x.here(0, false)), false, 0);
        Edges.Deed parted = ClassEdgesTest::makeOneWhoStaysAlone;
        EDGES.answers("one who stays ahead of three CLASSES less: who moved", 4, parted, SnowSchool::noon);
        sets("one who stays ahead of three CLASSES less", parted, false, 1, 2, 4, 8, 16);
        sets("classing() has three CLASSES less", parted, true, 30, 1, 0, 0, 0);
        Edges.Deed ill = room(4, 3, 2).then(SnowSchool::classing).then(x -> x.terms(3, 90, 2, 1))
                .then(x -> x.ill(2, true));
        EDGES.answers("those of one that is ILL move, the others stay", 2, ill, SnowSchool::noon);
        sets("those of one that is ILL move, the others stay", ill, false, 4, 11, 0);
        EDGES.answers("ILL no more: all stay", 0, ill.then(x -> x.ill(2, false)), SnowSchool::noon);
        sets("the fewest move, though KEEP is 0", Edges.school(2, 2).then(x -> x.wish(0, 0)).then(SnowSchool::classing)
                .then(x -> x.terms(6, 90, 0, 9)).then(x -> x.wish(0, 1)), false, 3, 0);
    }

    /** PUPIL 0 has TEACHER 0, who could teach 1 to 4 (new) together if it went; else each has a TEACHER alone. */
    private static void makeOneWhoStaysAlone(SnowSchool x) {
        x.teacher(0, 15);
        x.pupil(0, 20, 1);
        x.classing();
        x.saw(0, 0, 2);
        for (int i = 0; i < 4; i++) {
            x.teacher(0, 1 << i);
            x.saw(x.pupil(0, 20, 1 << i), 3, 9);
        }
    }

    /** PUPILS 0 to 4 have and ask for TEACHER 0, the others TEACHER 1; all at once only TEACHER 2 may teach. */
    private static void makeTwoClassesOfGreatestWorth(SnowSchool x) {
        for (int t = 0; t < 3; t++) {
            x.teacher(0, 1 + t);
        }
        for (int p = 0; p < 10; p++) {
            x.wish(x.pupil(0, 20, 1 + p / 5), p / 5);
        }
        x.classing();
        x.terms(10, 90, 9, 9);
    }

    private static void worth() {
        EDGES.promise(16);
        EDGES.refuses("PUPILS, but no TEACHERS", NONE, Edges.school(1, 0), SnowSchool::worth);
        EDGES.refuses("all TEACHERS are ILL", NONE, BUSY.then(x -> x.ill(0, true)).then(x -> x.ill(2, true)),
                SnowSchool::worth);
        EDGES.asksOnly("nobody is HERE", 0, Edges.school(1, 1).then(x -> x.here(0, false)), SnowSchool::worth);
        EDGES.asksOnly("none kept, none asked for", 0, Edges.school(10, 5), SnowSchool::worth);
        EDGES.asksOnly("the most there can be", 180, room(10, 5, 2).then(SnowSchool::classing).then(x -> {
            x.terms(2, 90, 9, 9);
            for (int p = 0; p < 10; p++) {
                x.wish(p, p / 2);
            }
        }), SnowSchool::worth);
        EDGES.asksOnly("KEEP for one", 2, Edges.school(1, 2).then(SnowSchool::classing), SnowSchool::worth);
        EDGES.asksOnly("KEEP and WISH for one", 3,
                Edges.school(1, 2).then(SnowSchool::classing).then(x -> x.wish(0, 1)), SnowSchool::worth);
        EDGES.asksOnly("KEEP for one who asks for another", 2,
                Edges.school(1, 2).then(SnowSchool::classing).then(x -> x.wish(0, 0)), SnowSchool::worth);
        EDGES.asksOnly("none for one who is not HERE", 2,
                Edges.school(2, 2).then(SnowSchool::classing).then(x -> x.here(0, false)), SnowSchool::worth);
        EDGES.asksOnly("none for a TEACHER who is ILL", 0,
                Edges.school(2, 2).then(SnowSchool::classing).then(x -> x.ill(1, true)), SnowSchool::worth);
        EDGES.asksOnly("of the busy school: five kept, two asked for", 19, BUSY, SnowSchool::worth);
        EDGES.asksOnly("twice", 19, BUSY, x -> {
            x.worth();
            return x.worth();
        });
    }

    private static void set() {
        EDGES.promise(17);
        for (int teacher : NO_TEACHER) {
            EDGES.refuses("set(" + teacher + ")", BEYOND, BUSY, x -> x.set(teacher));
        }
        EDGES.refuses("set(5) of a full house", BEYOND, FULL_HOUSE, x -> x.set(5));
        EDGES.asksOnly("none: 0, no finding", 0, Edges.school(1, 2).then(SnowSchool::classing), x -> x.set(0));
        EDGES.asksOnly("all ten", 1023, room(10, 5, 10).then(SnowSchool::classing), x -> x.set(4));
        EDGES.asksOnly("PUPIL 0 alone", 1, room(10, 5, 9).then(SnowSchool::classing), x -> x.set(3));
        EDGES.asksOnly("PUPIL 9 alone", 512, Edges.school(10, 1).then(x -> {
            for (int p = 0; p < 9; p++) {
                x.here(p, false);
            }
            x.classing();
        }), x -> x.set(0));
    }

    public static void main(String[] args) {
        level();
        mayRefuses();
        mayTellsTheLeast();
        mayByLevel();
        mayByTongues();
        mayByFriends();
        classing();
        classingChooses();
        toldLater();
        noon();
        noonChooses();
        worth();
        set();
        System.exit(EDGES.end());
    }
}
