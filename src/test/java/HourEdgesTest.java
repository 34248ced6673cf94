/** Promises 28 to 33, edge by edge: HOURS and PAYS, what is FREE, what is BOOKED, and THE CHOICE. */
public final class HourEdgesTest {
    private static final int BEYOND = Edges.BEYOND;
    private static final int STATE = Edges.STATE;
    private static final int NONE = Edges.NONE;
    private static final int MIN = Edges.MIN;
    private static final int MAX = Edges.MAX;
    private static final Edges EDGES = new Edges();

    /** ASKS 0 to 2 are for TEACHER 0, 3 for TEACHER 2, 4 for TEACHER 1 (ILL); 0 and 3 are BOOKED. */
    private static final Edges.Deed BUSY = Edges.BUSY;
    private static final Edges.Deed FULL_HOUSE = Edges.FULL_HOUSE;
    private static final Edges.Deed ONE = Edges.school(0, 1);

    private static final int[] NO_TEACHER = {-1, -2, 3, 4, 5, 31, 32, 64, MIN, MAX};
    private static final int[] NO_ASK = {-1, -2, 5, 6, 9, 10, 31, 32, 64, MIN, MAX};
    private static final int[][] NO_HOURS = {{-1, 3}, {-1, -1}, {3, 8}, {8, 8}, {7, 8}, {-1, 8}, {1, 0}, {4, 3}, {7, 0},
        {7, 6}, {8, 7}, {0, -1}, {MIN, 3}, {3, MAX}, {MIN, MAX}, {MAX, MIN}, {MIN, MIN}, {MAX, MAX}};

    private static Edges.Deed asked(int from, int to, int pay) {
        return x -> x.ask(0, from, to, pay);
    }

    private static void ask() {
        EDGES.promise(28);
        for (int teacher : NO_TEACHER) {
            EDGES.refuses("an ASK for " + teacher, BEYOND, BUSY, x -> x.ask(teacher, 0, 0, 0));
        }
        EDGES.refuses("an eleventh ASK for 5: BEYOND ahead of FULL", BEYOND, FULL_HOUSE, x -> x.ask(5, 0, 0, 0));
        EDGES.refuses("an eleventh ASK for -1: BEYOND ahead of FULL", BEYOND, FULL_HOUSE, x -> x.ask(-1, 0, 0, 0));
        for (int[] h : NO_HOURS) {
            EDGES.refuses("an ASK from " + h[0] + " to " + h[1], BEYOND, BUSY, x -> x.ask(0, h[0], h[1], 5));
            EDGES.refuses("an eleventh from " + h[0] + " to " + h[1], BEYOND, FULL_HOUSE,
                    x -> x.ask(0, h[0], h[1], 5));
        }
        for (int pay : new int[] {-1, -1000, 1001, MIN, MAX}) {
            EDGES.refuses("an ASK with pay " + pay, BEYOND, BUSY, x -> x.ask(0, 0, 0, pay));
            EDGES.refuses("an eleventh with pay " + pay, BEYOND, FULL_HOUSE, x -> x.ask(0, 0, 0, pay));
        }
        for (int hour = 0; hour < 8; hour++) {
            int h = hour;
            EDGES.answers("an ASK at " + hour, 5, BUSY, x -> x.ask(0, h, h, 5));
        }
        EDGES.answers("an ASK for all HOURS", 5, BUSY, x -> x.ask(0, 0, 7, 5));
        for (int pay : new int[] {0, 1, 999, 1000}) {
            EDGES.answers("an ASK with pay " + pay, 0, ONE, x -> x.ask(0, 0, 0, pay));
            EDGES.answers("its PAY is " + pay, pay, ONE.then(asked(0, 0, pay)), x -> x.book(0));
        }
        EDGES.answers("an ASK as there is one", 5, BUSY, x -> x.ask(0, 0, 1, 100));
        EDGES.answers("an ASK for one that is ILL", 5, BUSY, x -> x.ask(1, 0, 0, 5));
        EDGES.answers("the tenth ASK", 9, BUSY.then(asked(0, 0, 1)).then(asked(0, 0, 1)).then(asked(0, 0, 1))
                .then(asked(0, 0, 1)), x -> x.ask(0, 0, 0, 0));
        EDGES.refuses("the eleventh ASK", Edges.FULL, FULL_HOUSE, x -> x.ask(0, 0, 0, 0));
        EDGES.refuses("the eleventh ASK, though all are OPEN", Edges.FULL,
                FULL_HOUSE.then(x -> x.open(9)).then(x -> x.open(1)), x -> x.ask(4, 7, 7, 1000));
        EDGES.leaves("a refused ASK takes no number", 5, BUSY.then(asked(1, 0, 5)), x -> x.ask(0, 0, 0, 0));
    }

    private static void hours() {
        EDGES.promise(29);
        for (int[] h : NO_HOURS) {
            EDGES.refuses("hours(" + h[0] + ", " + h[1] + ")", BEYOND, BUSY, x -> x.hours(h[0], h[1]));
        }
        Edges.Deed taught = Edges.school(1, 1).then(SnowSchool::classing).then(x -> {
            for (int hour = 0; hour < 8; hour++) {
                x.ask(0, hour, hour, 1);
            }
        });
        for (int first = 0; first < 8; first++) {
            for (int last = first; last < 8; last++) {
                int f = first;
                int l = last;
                String name = "hours(" + first + ", " + last + ")";
                EDGES.answers(name, 1, taught, x -> x.hours(f, l));
                EDGES.answers(name + ": what is FREE", 255 & ~((2 << last) - (1 << first)),
                        taught.then(x -> x.hours(f, l)), x -> x.choice(0, false));
            }
        }
        EDGES.asksOnly("the same HOURS", 1, BUSY, x -> x.hours(3, 4));
        EDGES.answers("HOURS over what is BOOKED: it stays", 2, BUSY.then(x -> x.hours(0, 7)), x -> x.told(5));
    }

    private static void book() {
        EDGES.promise(30);
        for (int one : NO_ASK) {
            EDGES.refuses("book(" + one + ")", BEYOND, BUSY, x -> x.book(one));
        }
        EDGES.refuses("book(10) of a full house", BEYOND, FULL_HOUSE, x -> x.book(10));
        EDGES.refuses("BOOKED", STATE, BUSY, x -> x.book(0));
        EDGES.refuses("BOOKED, its TEACHER ILL: STATE ahead of NONE", STATE, BUSY.then(x -> x.ill(0, true)),
                x -> x.book(0));
        EDGES.refuses("BOOKED, in THE HOURS now: STATE ahead of NONE", STATE, BUSY.then(x -> x.hours(0, 7)),
                x -> x.book(0));
        EDGES.refuses("its TEACHER is ILL", NONE, BUSY, x -> x.book(4));
        EDGES.answers("its TEACHER is ILL no more", 10, BUSY.then(x -> x.ill(1, false)), x -> x.book(4));
        EDGES.refuses("an HOUR in common with one that is BOOKED", NONE, BUSY, x -> x.book(1));
        EDGES.answers("the other one is OPEN again", 150, BUSY.then(x -> x.open(0)), x -> x.book(1));
        EDGES.answers("ASK 9 of a full house, OPEN again", 900, FULL_HOUSE.then(x -> x.open(9))
                .then(x -> x.hours(7, 7)), x -> x.book(9));
        EDGES.answers("told(5) behind book()", 3, BUSY.then(x -> x.book(2)), x -> x.told(5));
    }

    /** ASK 0 from 2 to 4 is BOOKED: any other one from its own first to its own last HOUR. */
    private static void bookBesideAnother() {
        EDGES.promise(30);
        for (int from = 0; from < 8; from++) {
            for (int to = from; to < 8; to++) {
                String name = "from " + from + " to " + to;
                boolean meets = from <= 4 && to >= 2;
                Edges.Deed given = Edges.school(1, 2).then(asked(2, 4, 5)).then(asked(from, to, 7))
                        .then(x -> x.book(0));
                free(name + " beside 2 to 4 that is BOOKED", !meets, given);
                Edges.Deed taught = Edges.school(1, 1).then(SnowSchool::classing).then(asked(2, 4, 5))
                        .then(asked(from, to, 7));
                free(name + " beside CLASSES", !meets, taught);
            }
        }
        free("beside one that is OPEN", true, Edges.school(1, 1).then(asked(0, 7, 5)).then(asked(0, 7, 7)));
        free("beside one for another TEACHER that is BOOKED", true,
                Edges.school(1, 2).then(x -> x.ask(1, 0, 7, 5)).then(asked(0, 7, 7)).then(x -> x.book(0)));
        free("beside CLASSES of another TEACHER", true,
                Edges.school(1, 2).then(SnowSchool::classing).then(asked(0, 7, 5)).then(asked(0, 7, 7)));
        free("CLASSES without anybody", true, Edges.school(1, 1).then(x -> x.here(0, false)).then(SnowSchool::classing)
                .then(asked(0, 7, 5)).then(asked(0, 7, 7)));
        free("CLASSES whose PUPIL is not HERE any more", false, Edges.school(1, 1).then(SnowSchool::classing)
                .then(x -> x.here(0, false)).then(asked(0, 7, 5)).then(asked(0, 7, 7)));
        free("between two that are BOOKED", true, ONE.then(asked(0, 2, 5)).then(asked(3, 4, 7)).then(asked(5, 7, 5))
                .then(x -> x.book(0)).then(x -> x.book(2)));
        free("before a later ASK that is BOOKED", false, ONE.then(asked(0, 2, 5)).then(asked(3, 4, 7))
                .then(asked(4, 7, 5)).then(x -> x.book(2)));
    }

    /** Whether ASK 1 (of PAY 7) is FREE: by book(). */
    private static void free(String name, boolean isFree, Edges.Deed given) {
        if (isFree) {
            EDGES.answers(name, 7, given, x -> x.book(1));
        } else {
            EDGES.refuses(name, NONE, given, x -> x.book(1));
        }
    }

    private static void open() {
        EDGES.promise(31);
        for (int one : NO_ASK) {
            EDGES.refuses("open(" + one + ")", BEYOND, BUSY, x -> x.open(one));
        }
        EDGES.refuses("open(10) of a full house", BEYOND, FULL_HOUSE, x -> x.open(10));
        EDGES.answers("BOOKED", 1, BUSY, x -> x.open(0));
        EDGES.asksOnly("OPEN already", 0, BUSY, x -> x.open(1));
        EDGES.answers("OPEN again", 0, BUSY.then(x -> x.open(0)), x -> x.open(0));
        EDGES.answers("BOOKED, its TEACHER ILL", 1, BUSY.then(x -> x.ill(0, true)), x -> x.open(0));
        EDGES.answers("others stay BOOKED", 1, BUSY.then(x -> x.open(0)), x -> x.told(5));
        EDGES.answers("ASK 9 of a full house", 1, FULL_HOUSE, x -> x.open(9));
    }

    private static void choice() {
        EDGES.promise(32);
        for (int teacher : NO_TEACHER) {
            EDGES.refuses("choice(" + teacher + ", false)", BEYOND, BUSY, x -> x.choice(teacher, false));
            EDGES.refuses("choice(" + teacher + ", true)", BEYOND, BUSY, x -> x.choice(teacher, true));
        }
        chosen("no ASKS", 0, 0, ONE);
        chosen("its TEACHER is ILL", 0, 0, ONE.then(asked(0, 0, 5)).then(x -> x.ill(0, true)));
        chosen("one ASK", 1, 5, ONE.then(asked(0, 0, 5)));
        chosen("PAY 0 is no more than none", 0, 0, ONE.then(asked(0, 0, 0)));
        chosen("PAY 0 beside another", 1, 5, ONE.then(asked(0, 0, 5)).then(asked(1, 1, 0)));
        chosen("PAY 0 ahead of another", 2, 5, ONE.then(asked(1, 1, 0)).then(asked(0, 0, 5)));
        chosen("the same twice: the first", 1, 5, ONE.then(asked(0, 7, 5)).then(asked(0, 7, 5)));
        chosen("two for one of as much: the lower bits", 3, 10,
                ONE.then(asked(0, 3, 5)).then(asked(4, 7, 5)).then(asked(0, 7, 10)));
        chosen("one for two of as much: the lower bits", 1, 10,
                ONE.then(asked(0, 7, 10)).then(asked(0, 3, 5)).then(asked(4, 7, 5)));
        chosen("one PAY more than two", 4, 11, ONE.then(asked(0, 3, 5)).then(asked(4, 7, 5)).then(asked(0, 7, 11)));
        chosen("two PAY one more than one", 6, 11, ONE.then(asked(0, 7, 10)).then(asked(0, 3, 5)).then(asked(4, 7, 6)));
        chosen("an HOUR in common: not both", 2, 6, ONE.then(asked(0, 3, 5)).then(asked(3, 7, 6)));
        chosen("no HOUR in common: both", 3, 11, ONE.then(asked(0, 3, 5)).then(asked(4, 7, 6)));
        chosen("a bit at the top against many below", 255, 8, ONE.then(hourly(1, 8)).then(x -> x.ask(0, 0, 7, 8)));
        chosen("a bit at the top, one PAY more", 256, 9, ONE.then(hourly(1, 8)).then(x -> x.ask(0, 0, 7, 9)));
        chosen("the most there can be", 255, 8000, ONE.then(hourly(1000, 10)));
        chosen("whatever is BOOKED for it", 3, 10,
                ONE.then(asked(0, 3, 5)).then(asked(4, 7, 5)).then(asked(0, 7, 9)).then(x -> x.book(2)));
        chosen("ASKS for others do not count", 1, 5,
                Edges.school(0, 2).then(asked(0, 0, 5)).then(x -> x.ask(1, 1, 1, 9)));
        chosen("what is BOOKED for others does not count", 1, 5,
                Edges.school(0, 2).then(asked(0, 7, 5)).then(x -> x.ask(1, 0, 7, 9)).then(x -> x.book(1)));
        chosen("not in THE HOURS of its CLASS", 5, 2, Edges.school(1, 1).then(SnowSchool::classing)
                .then(asked(0, 1, 1)).then(asked(1, 2, 9)).then(asked(5, 5, 1)).then(asked(4, 7, 9)));
        chosen("in THE HOURS without a CLASS", 10, 18, ONE
                .then(asked(0, 1, 1)).then(asked(1, 2, 9)).then(asked(5, 5, 1)).then(asked(4, 7, 9)));
    }

    private static Edges.Deed hourly(int pay, int count) {
        return x -> {
            for (int i = 0; i < count; i++) {
                x.ask(0, i % 8, i % 8, pay);
            }
        };
    }

    /** THE CHOICE of TEACHER 0 as ASKS and as PAYS, and behind choose(): what is BOOKED is just that. */
    private static void chosen(String name, int asks, int pay, Edges.Deed given) {
        EDGES.promise(32);
        EDGES.asksOnly(name + ": ASKS", asks, given, x -> x.choice(0, false));
        EDGES.asksOnly(name + ": PAYS", pay, given, x -> x.choice(0, true));
        EDGES.promise(33);
        EDGES.answers(name + ": how many are BOOKED", Integer.bitCount(asks), given, x -> x.choose(0));
        EDGES.answers(name + ": the same CHOICE behind it", asks, given.then(x -> x.choose(0)),
                x -> x.choice(0, false));
        EDGES.promise(32);
    }

    private static void choose() {
        EDGES.promise(33);
        for (int teacher : NO_TEACHER) {
            EDGES.refuses("choose(" + teacher + ")", BEYOND, BUSY, x -> x.choose(teacher));
        }
        EDGES.refuses("choose(5) of a full house", BEYOND, FULL_HOUSE, x -> x.choose(5));
        EDGES.answers("no ASKS: none", 0, ONE, x -> x.choose(0));
        EDGES.answers("its TEACHER is ILL: none", 0, BUSY, x -> x.choose(1));
        EDGES.answers("ILL: what was BOOKED is OPEN", 0, BUSY.then(x -> x.ill(0, true)).then(x -> x.choose(0)),
                x -> x.open(0));
        EDGES.answers("one that was BOOKED and is not chosen is OPEN", 0, BUSY.then(x -> x.choose(0)), x -> x.open(0));
        EDGES.answers("one that was OPEN and is chosen is BOOKED", 1, BUSY.then(x -> x.choose(0)), x -> x.open(1));
        EDGES.answers("one that was OPEN and is not chosen is OPEN", 0, BUSY.then(x -> x.choose(0)), x -> x.open(2));
        EDGES.answers("one for another TEACHER stays BOOKED", 1, BUSY.then(x -> x.choose(0)), x -> x.open(3));
        EDGES.answers("one for another TEACHER stays OPEN", 0, BUSY.then(x -> x.choose(0)), x -> x.open(4));
        EDGES.answers("told(5) behind it", 2, BUSY.then(x -> x.choose(0)), x -> x.told(5));
        EDGES.answers("twice", 1, BUSY.then(x -> x.choose(0)), x -> x.choose(0));
        EDGES.answers("TEACHER 4 of a full house", 2, FULL_HOUSE.then(x -> x.ill(4, false)).then(x -> x.hours(0, 0)),
                x -> x.choose(4));
    }

    public static void main(String[] args) {
        ask();
        hours();
        book();
        bookBesideAnother();
        open();
        choice();
        choose();
        System.exit(EDGES.end());
    }
}
