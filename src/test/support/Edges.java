import java.util.ArrayList;
import java.util.IdentityHashMap;
import java.util.List;
import java.util.Map;

/** What the edge tests share: one case by itself on a new school, and a look at all that can be seen of a school. */
final class Edges {
    static final int BEYOND = -1000001;
    static final int FULL = -1000002;
    static final int KIND = -1000003;
    static final int NONE = -1000004;
    static final int STATE = -1000005;
    static final int MISSING = -1000006;
    static final int SIZE = -1000007;
    static final int MIN = Integer.MIN_VALUE;
    static final int MAX = Integer.MAX_VALUE;

    /** What is done to a new school ahead of a case. */
    interface Deed {
        void on(SnowSchool x);

        default Deed then(Deed next) {
            return x -> {
                on(x);
                next.on(x);
            };
        }
    }

    /** A call whose answer a case is about. */
    interface Call {
        int on(SnowSchool x);
    }

    /** One way to look at a school; it may change it, for the school is thrown away behind it. */
    private interface Look {
        void at(SnowSchool x, List<Integer> seen);
    }

    static final Deed NOTHING = x -> { };
    static final Deed BUSY = Edges::makeBusy;
    static final Deed FULL_HOUSE = Edges::makeFullHouse;

    /** Each is short enough to stay within the 512 calls of an object. */
    private static final Look[] LOOKS = {Edges::lookAtPupils, Edges::lookAtTeaching, Edges::lookAtClassing,
        Edges::lookAtNoon, Edges::lookAtMountain, Edges::lookAtMeetings, Edges::lookAtHands, Edges::lookAtAsks,
        Edges::lookAtEarlyHours, Edges::lookAtLateHours, Edges::lookAtSheets, Edges::lookAtRoom};

    private final Map<Deed, List<List<Integer>>> untouched = new IdentityHashMap<>();
    private int promise;
    private int cases;
    private int wrong;

    void promise(int number) {
        promise = number;
    }

    /** The call answers what is wanted, and no finding is told on the way. */
    void answers(String name, int wanted, Deed given, Call call) {
        cases++;
        SnowSchool x = made(given);
        int findings = x.told(6);
        int got = call.on(x);
        due(name, got, wanted);
        due(name + ": findings", x.told(6) - findings, 0);
    }

    /** The call answers what is wanted, be it a finding or behind one. */
    void leaves(String name, int wanted, Deed given, Call call) {
        cases++;
        due(name, call.on(made(given)), wanted);
    }

    /** The call answers the finding, told(6) tells one more, and all else is as in a school without the call. */
    void refuses(String name, int finding, Deed given, Call call) {
        cases++;
        SnowSchool x = made(given);
        int findings = x.told(6);
        due(name, call.on(x), finding);
        due(name + ": findings", x.told(6) - findings, 1);
        changesNothing(name, given, call);
    }

    /** The call is a question: it answers what is wanted, and all is as in a school without it. */
    void asksOnly(String name, int wanted, Deed given, Call call) {
        answers(name, wanted, given, call);
        changesNothing(name, given, call);
    }

    int end() {
        System.out.println(cases + " cases, " + wrong + " answers not as due");
        return wrong == 0 ? 0 : 1;
    }

    private void due(String name, int got, int wanted) {
        if (got != wanted) {
            wrong++;
            System.out.println("promise " + promise + ": " + name + " answered " + got + ", due is " + wanted);
        }
    }

    private void changesNothing(String name, Deed given, Call call) {
        List<List<Integer>> wanted = untouched.computeIfAbsent(given, g -> seenBehind(g, x -> 0));
        List<List<Integer>> got = seenBehind(given, call);
        for (int i = 0; i < LOOKS.length; i++) {
            if (!got.get(i).equals(wanted.get(i))) {
                wrong++;
                System.out.println("promise " + promise + ": " + name + " changed what look " + i + " sees: "
                        + got.get(i) + ", due is " + wanted.get(i));
            }
        }
    }

    private static SnowSchool made(Deed given) {
        SnowSchool x = new SnowSchool();
        given.on(x);
        return x;
    }

    private static List<List<Integer>> seenBehind(Deed given, Call call) {
        List<List<Integer>> all = new ArrayList<>();
        for (Look look : LOOKS) {
            SnowSchool x = made(given);
            call.on(x);
            List<Integer> seen = new ArrayList<>();
            look.at(x, seen);
            all.add(seen);
        }
        return all;
    }

    // ---- schools

    /** So many plain PUPILS (age 20, tongue 0) and so many plain TEACHERS (tongue 0). */
    static Deed school(int pupils, int teachers) {
        return x -> {
            for (int i = 0; i < pupils; i++) {
                x.pupil(0, 20, 1);
            }
            for (int i = 0; i < teachers; i++) {
                x.teacher(0, 1);
            }
        };
    }

    /** One PUPIL and one TEACHER of each kind, numbered as their kinds. */
    static void makeOneOfEachKind(SnowSchool x) {
        for (int kind = 0; kind < 4; kind++) {
            x.pupil(kind, 20, 1);
            x.teacher(kind, 1);
        }
    }

    /** A bit of all: 6 PUPILS, 3 TEACHERS, 3 LIFTS, 4 SLOPES, 5 ASKS, CLASSES, hands, sheets 0 to 2. */
    private static void makeBusy(SnowSchool x) {
        x.pupil(0, 30, 1);
        x.pupil(1, 8, 3);
        x.pupil(2, 20, 1);
        x.pupil(3, 5, 2);
        x.pupil(0, 40, 15);
        x.pupil(1, 12, 2);
        x.teacher(0, 3);
        x.teacher(1, 15);
        x.teacher(3, 15);
        x.saw(0, 2, 7);
        x.saw(1, 0, 4);
        x.saw(2, 5, 8);
        x.friend(0, 4);
        x.wish(4, 2);
        x.wish(1, 0);
        x.wish(0, 0);
        x.terms(5, 30, 3, 2);
        x.classing();
        x.here(5, false);
        x.ill(1, true);
        x.lift(0, 1);
        x.lift(1, 2);
        x.lift(3, 0);
        x.slope(1, 0, 0);
        x.slope(2, 1, 3);
        x.slope(2, 3, 2);
        x.slope(3, 1, 9);
        x.stop(2, true);
        x.name(1, 10);
        x.name(1, 20);
        x.name(1, 30);
        x.name(3, 10);
        x.hand(1, 20);
        x.hours(3, 4);
        x.ask(0, 0, 1, 100);
        x.ask(0, 1, 2, 150);
        x.ask(0, 5, 6, 0);
        x.ask(2, 6, 7, 900);
        x.ask(1, 0, 7, 10);
        x.book(0);
        x.book(3);
        makeSheets(x);
    }

    /** Sheets 0 and 1 are of 8 bits, 2 of 16, 3 is MISSING. */
    private static void makeSheets(SnowSchool x) {
        x.sheet(0, 8, 4);
        x.sheet(1, 8, 6);
        x.sheet(2, 16, 3);
        for (int i = 0; i < 4; i++) {
            x.write(0, i, 38 + i);
            x.write(1, i + 1, 5 * i);
        }
        x.write(2, 1, -3000);
    }

    /** As many of all as there may be. */
    private static void makeFullHouse(SnowSchool x) {
        for (int p = 0; p < 10; p++) {
            x.pupil(p % 4, 20 + p, 1 + p);
        }
        for (int t = 0; t < 5; t++) {
            x.teacher(3 - t % 4, 15);
        }
        for (int i = 0; i < 6; i++) {
            x.lift(i, (i + 1) % 6);
        }
        for (int i = 0; i < 8; i++) {
            x.slope(i % 6, (i + 5) % 6, i);
        }
        for (int i = 0; i < 10; i++) {
            x.ask(i % 5, i % 8, i % 8, 100 * i);
        }
        for (int hand = 1; hand < 4; hand++) {
            x.name(1, hand);
            x.name(3, hand);
        }
        x.hand(3, 2);
        x.saw(9, 4, 6);
        x.book(9);
        x.book(1);
        x.classing();
        for (int s = 0; s < 4; s++) {
            x.sheet(s, 32, 10);
            x.write(s, 9, 99 + s);
        }
    }

    // ---- looks

    private static void lookAtPupils(SnowSchool x, List<Integer> seen) {
        for (int what = 0; what < 6; what++) {
            seen.add(x.told(what));
        }
        for (int p = 0; p < 10; p++) {
            for (int what = 0; what < 10; what++) {
                seen.add(x.of(p, what));
            }
        }
        for (int kind = 0; kind < 4; kind++) {
            for (int t = 0; t < 5; t++) {
                seen.add(x.as(t, true, kind));
            }
        }
        lookAtSets(x, seen);
        seen.add(x.left());
    }

    private static void lookAtSets(SnowSchool x, List<Integer> seen) {
        for (int t = 0; t < 5; t++) {
            seen.add(x.set(t));
        }
    }

    private static void lookAtTeaching(SnowSchool x, List<Integer> seen) {
        for (int t = 0; t < 5; t++) {
            for (int p = 0; p < 10; p++) {
                seen.add(x.may(t, 1 << p));
                seen.add(x.may(t, (2 << p) - 1));
                seen.add(x.may(t, 1 | 1 << p));
                seen.add(x.may(t, 16 | 1 << p));
            }
        }
        for (int p = 0; p < 10; p++) {
            seen.add(x.level(1 << p));
        }
    }

    private static void lookAtClassing(SnowSchool x, List<Integer> seen) {
        seen.add(x.worth());
        seen.add(x.classing());
        lookAtSets(x, seen);
        seen.add(x.worth());
    }

    private static void lookAtNoon(SnowSchool x, List<Integer> seen) {
        seen.add(x.noon());
        lookAtSets(x, seen);
        seen.add(x.worth());
    }

    private static void lookAtMountain(SnowSchool x, List<Integer> seen) {
        for (int p = 0; p < 10; p++) {
            seen.add(x.serves(1 << p));
            for (int lift = 0; lift < 6; lift++) {
                seen.add(x.stranded(1 << p, lift));
            }
        }
        for (int lift = 0; lift < 6; lift++) {
            seen.add(x.stop(lift, true));
            seen.add(x.serves(1));
        }
    }

    private static void lookAtMeetings(SnowSchool x, List<Integer> seen) {
        int able = x.told(0) < 10 ? x.pupil(0, 20, 1) : 8;
        x.saw(able, 9, 9);
        for (int place = 0; place < 6; place++) {
            seen.add(x.meeting(place));
            seen.add(x.serves(1 << able));
            for (int lift = 0; lift < 6; lift++) {
                seen.add(x.stranded(1 << able, lift));
            }
        }
    }

    private static void lookAtHands(SnowSchool x, List<Integer> seen) {
        int[] hands = {0, 1, 2, 3, 4, 10, 20, 30, 40, 99};
        for (int p = 0; p < 10; p++) {
            seen.add(x.back(p));
            for (int hand : hands) {
                seen.add(x.hand(p, hand));
                x.back(p);
            }
            seen.add(x.name(p, 77));
        }
    }

    private static void lookAtChoices(SnowSchool x, List<Integer> seen) {
        for (int t = 0; t < 5; t++) {
            seen.add(x.choice(t, false));
            seen.add(x.choice(t, true));
        }
    }

    private static void lookAtAsks(SnowSchool x, List<Integer> seen) {
        lookAtChoices(x, seen);
        for (int i = 0; i < 10; i++) {
            seen.add(x.book(i));
        }
        for (int i = 0; i < 10; i++) {
            seen.add(x.open(i));
        }
        for (int i = 9; i >= 0; i--) {
            seen.add(x.book(i));
        }
    }

    private static void lookAtEarlyHours(SnowSchool x, List<Integer> seen) {
        for (int hour = 0; hour < 5; hour++) {
            seen.add(x.ask(0, hour, hour, 1000));
        }
        lookAtChoices(x, seen);
    }

    private static void lookAtLateHours(SnowSchool x, List<Integer> seen) {
        for (int hour = 3; hour < 8; hour++) {
            seen.add(x.ask(2, hour, hour, 1000));
        }
        lookAtChoices(x, seen);
    }

    private static void lookAtSheets(SnowSchool x, List<Integer> seen) {
        for (int s = 0; s < 4; s++) {
            for (int i = 0; i <= 10; i++) {
                seen.add(x.write(s, i, 70000));
                seen.add(x.write(s, i, 0));
            }
        }
    }

    private static void lookAtRoom(SnowSchool x, List<Integer> seen) {
        for (int i = 0; i < 11; i++) {
            seen.add(x.pupil(0, 20, 1));
            seen.add(x.teacher(0, 1));
            seen.add(x.lift(0, 1));
            seen.add(x.slope(0, 1, 0));
            seen.add(x.ask(0, 0, 0, 0));
        }
    }
}
