/** Promise 1 and the Terms: what a new object, and what each new one in it, is at first. */
public final class FirstEdgesTest {
    private static final Edges EDGES = new Edges();

    private static void aNewObjectHasNothing() {
        EDGES.promise(1);
        String[] names = {"PUPILS", "TEACHERS", "CLASSES", "LIFTS", "SLOPES", "ASKS that are BOOKED", "findings"};
        for (int what = 0; what < names.length; what++) {
            int asked = what;
            EDGES.answers("no " + names[what], 0, Edges.NOTHING, x -> x.told(asked));
        }
        for (int what = 0; what < 10; what++) {
            int asked = what;
            EDGES.refuses("of(0, " + what + ") without PUPILS", Edges.BEYOND, Edges.NOTHING, x -> x.of(0, asked));
        }
        for (int s = 0; s < 4; s++) {
            int asked = s;
            EDGES.refuses("write to sheet " + s, Edges.MISSING, Edges.NOTHING, x -> x.write(asked, 0, 0));
            EDGES.refuses("read of sheet " + s, Edges.MISSING, Edges.NOTHING, x -> x.read(asked));
        }
        EDGES.answers("no CHILDREN are left", 0, Edges.NOTHING, SnowSchool::left);
        EDGES.answers("classing() of nobody by nobody", 0, Edges.NOTHING, SnowSchool::classing);
        EDGES.answers("noon() of nobody by nobody", 0, Edges.NOTHING, SnowSchool::noon);
        EDGES.answers("worth() of nobody by nobody", 0, Edges.NOTHING, SnowSchool::worth);
    }

    private static void aNewObjectRefusesTheNumberZero() {
        EDGES.promise(1);
        refusesAtFirst("as(0, false, 0)", x -> x.as(0, false, 0));
        refusesAtFirst("as(0, true, 0)", x -> x.as(0, true, 0));
        refusesAtFirst("here(0, false)", x -> x.here(0, false));
        refusesAtFirst("friend(0, -1)", x -> x.friend(0, -1));
        refusesAtFirst("wish(0, -1)", x -> x.wish(0, -1));
        refusesAtFirst("saw(0, 0, 9)", x -> x.saw(0, 0, 9));
        refusesAtFirst("ill(0, true)", x -> x.ill(0, true));
        refusesAtFirst("level(1)", x -> x.level(1));
        refusesAtFirst("may(0, 1)", x -> x.may(0, 1));
        refusesAtFirst("set(0)", x -> x.set(0));
        refusesAtFirst("stop(0, true)", x -> x.stop(0, true));
        refusesAtFirst("serves(1)", x -> x.serves(1));
        refusesAtFirst("stranded(1, 0)", x -> x.stranded(1, 0));
        refusesAtFirst("name(0, 0)", x -> x.name(0, 0));
        refusesAtFirst("hand(0, 0)", x -> x.hand(0, 0));
        refusesAtFirst("back(0)", x -> x.back(0));
        refusesAtFirst("ask(0, 0, 0, 0)", x -> x.ask(0, 0, 0, 0));
        refusesAtFirst("book(0)", x -> x.book(0));
        refusesAtFirst("open(0)", x -> x.open(0));
        refusesAtFirst("choice(0, false)", x -> x.choice(0, false));
        refusesAtFirst("choice(0, true)", x -> x.choice(0, true));
        refusesAtFirst("choose(0)", x -> x.choose(0));
    }

    private static void refusesAtFirst(String name, Edges.Call call) {
        EDGES.refuses(name + " of a new object", Edges.BEYOND, Edges.NOTHING, call);
    }

    private static void objectsShareNothing() {
        EDGES.promise(1);
        EDGES.answers("PUPILS of another object", 0, x -> Edges.FULL_HOUSE.on(new SnowSchool()), x -> x.told(0));
        EDGES.answers("findings of another object", 0, x -> new SnowSchool().told(7), x -> x.told(6));
        EDGES.refuses("sheets of another object", Edges.MISSING, x -> new SnowSchool().sheet(0, 8, 1),
                x -> x.read(0));
        EDGES.answers("MOST of another object", 0, Edges.school(6, 1).then(x -> new SnowSchool().terms(1, 0, 0, 0)),
                x -> x.may(0, 63));
        EDGES.answers("THE MEETING of another object", 0, x -> new SnowSchool().meeting(3), x -> x.meeting(0));
    }

    private static void aNewPupil() {
        EDGES.promise(2);
        String[] names = {"kind", "AGE", "TONGUES", "LOW is 0", "HIGH is 9", "HERE", "no FRIEND", "asks for nobody",
            "in no CLASS", "AWAY"};
        int[] wanted = {1, 7, 5, 0, 9, 1, -1, -1, -1, -1};
        for (int what = 0; what < 10; what++) {
            int asked = what;
            EDGES.answers("a new PUPIL: " + names[what], wanted[what], x -> x.pupil(1, 7, 5), x -> x.of(0, asked));
        }
        EDGES.answers("a new PUPIL is HERE: not new", 0, Edges.school(1, 0), x -> x.here(0, true));
        EDGES.answers("the tenth PUPIL is HERE, too", 1, Edges.school(10, 0), x -> x.of(9, 5));
        EDGES.answers("a new CHILD is AWAY, and left", 1, x -> x.pupil(1, 7, 5), SnowSchool::left);
        EDGES.refuses("a new CHILD has no NAMED hand", Edges.NONE, x -> x.pupil(1, 7, 5), x -> x.hand(0, 0));
        EDGES.answers("the first hand NAMED is one", 1, x -> x.pupil(1, 7, 5), x -> x.name(0, 0));
        EDGES.answers("whoever comes behind classing() is in no CLASS", -1,
                Edges.school(1, 1).then(SnowSchool::classing).then(x -> x.pupil(0, 20, 1)), x -> x.of(1, 8));
        EDGES.answers("whoever comes behind a refused read() has the whole span", 9, x -> {
            x.sheet(0, 8, 1);
            x.write(0, 0, 55);
            x.read(0);
            x.pupil(0, 20, 1);
        }, x -> x.of(0, 4));
    }

    private static void aNewTeacher() {
        EDGES.promise(3);
        EDGES.answers("a new TEACHER is not ILL: not new", 0, Edges.school(1, 1), x -> x.ill(0, false));
        EDGES.answers("a new TEACHER is not ILL: ILL is new", 1, Edges.school(1, 1), x -> x.ill(0, true));
        EDGES.answers("a new TEACHER is not ILL: it MAY TEACH", 0, Edges.school(1, 1), x -> x.may(0, 1));
        EDGES.answers("a new TEACHER has no set", 0, Edges.school(1, 1), x -> x.set(0));
        EDGES.answers("a new TEACHER has no set, behind classing() too", 0,
                Edges.school(1, 1).then(SnowSchool::classing).then(x -> x.teacher(0, 1)), x -> x.set(1));
        EDGES.answers("nobody asks for a new TEACHER", -1, Edges.school(1, 1), x -> x.of(0, 7));
        EDGES.answers("a new TEACHER has no ASKS", 0, Edges.school(1, 1), x -> x.choice(0, false));
    }

    private static void theTermsAtFirst() {
        EDGES.promise(11);
        EDGES.answers("MOST is 6: six", 0, Edges.school(7, 1), x -> x.may(0, 63));
        EDGES.answers("MOST is 6: seven", 4, Edges.school(7, 1), x -> x.may(0, 127));
        Edges.Deed tiny = Edges.school(3, 1).then(x -> x.pupil(3, 20, 1));
        EDGES.answers("half of MOST is 3: three", 0, tiny, x -> x.may(0, 11));
        EDGES.answers("half of MOST is 3: four", 4, tiny, x -> x.may(0, 15));
        EDGES.answers("SPREAD is 90: ages 3 and 90", 0, x -> {
            x.teacher(0, 1);
            x.pupil(0, 3, 1);
            x.pupil(0, 90, 1);
        }, x -> x.may(0, 3));
        EDGES.answers("KEEP is 2", 2, Edges.school(1, 1).then(SnowSchool::classing), SnowSchool::worth);
        EDGES.answers("WISH is 1", 1, Edges.school(1, 1).then(x -> x.wish(0, 0)), SnowSchool::worth);
    }

    private static void theRestAtFirst() {
        EDGES.promise(21);
        EDGES.answers("THE MEETING is 0", 0, Edges.NOTHING, x -> x.meeting(5));
        EDGES.promise(20);
        EDGES.answers("a new LIFT runs: not new", 0, x -> x.lift(0, 1), x -> x.stop(0, false));
        EDGES.answers("a new LIFT runs: STOPPED is new", 1, x -> x.lift(0, 1), x -> x.stop(0, true));
        EDGES.answers("a new LIFT runs: it carries", 1, Edges.school(1, 0).then(x -> x.lift(0, 1))
                .then(x -> x.slope(1, 0, 0)), x -> x.serves(1));
        EDGES.promise(29);
        int[] free = {1, 1, 0, 0, 0, 1, 1, 1};
        for (int hour = 0; hour < 8; hour++) {
            int asked = hour;
            EDGES.answers("THE HOURS are 2 to 4: an ASK at " + hour, free[hour],
                    Edges.school(1, 1).then(SnowSchool::classing).then(x -> x.ask(0, asked, asked, 5)),
                    x -> x.choice(0, false));
        }
        EDGES.promise(28);
        EDGES.answers("a new ASK is OPEN: open() is not new", 0, Edges.school(0, 1).then(x -> x.ask(0, 0, 0, 5)),
                x -> x.open(0));
        EDGES.answers("a new ASK is OPEN: none is BOOKED", 0, Edges.school(0, 1).then(x -> x.ask(0, 0, 0, 5)),
                x -> x.told(5));
        EDGES.answers("a new ASK is OPEN: it can be BOOKED", 5, Edges.school(0, 1).then(x -> x.ask(0, 0, 0, 5)),
                x -> x.book(0));
    }

    public static void main(String[] args) {
        aNewObjectHasNothing();
        aNewObjectRefusesTheNumberZero();
        objectsShareNothing();
        aNewPupil();
        aNewTeacher();
        theTermsAtFirst();
        theRestAtFirst();
        System.exit(EDGES.end());
    }
}
