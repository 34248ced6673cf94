/** Promises 24 to 27, edge by edge: hands NAMED, a CHILD HANDED and back, and who is left. */
public final class HandEdgesTest {
    private static final int BEYOND = Edges.BEYOND;
    private static final int KIND = Edges.KIND;
    private static final int STATE = Edges.STATE;
    private static final int NONE = Edges.NONE;
    private static final int MIN = Edges.MIN;
    private static final int MAX = Edges.MAX;
    private static final Edges EDGES = new Edges();

    /** PUPIL 1 is a CHILD, HANDED to 20 of its 10, 20 and 30; PUPIL 3 a TINY with 10; PUPIL 5 a CHILD without. */
    private static final Edges.Deed BUSY = Edges.BUSY;
    private static final Edges.Deed FULL_HOUSE = Edges.FULL_HOUSE;
    private static final Edges.Deed KINDS = Edges::makeOneOfEachKind;

    private static final int[] NO_PUPIL = {-1, -2, 6, 7, 10, 31, 32, 64, MIN, MAX};
    private static final int[] NO_HAND = {-1, -2, 100, 101, 1000, MIN, MAX};

    private static void name() {
        EDGES.promise(24);
        for (int one : NO_PUPIL) {
            EDGES.refuses("name(" + one + ", 0)", BEYOND, BUSY, x -> x.name(one, 0));
            EDGES.refuses("name(" + one + ", 100)", BEYOND, BUSY, x -> x.name(one, 100));
        }
        for (int hand : NO_HAND) {
            EDGES.refuses("hand " + hand + " for a CHILD", BEYOND, BUSY, x -> x.name(5, hand));
            EDGES.refuses("hand " + hand + " for a PUPIL: BEYOND ahead of KIND", BEYOND, BUSY, x -> x.name(0, hand));
            EDGES.refuses("hand " + hand + " as a fourth: BEYOND ahead of FULL", BEYOND, BUSY, x -> x.name(1, hand));
        }
        EDGES.refuses("a PUPIL is no CHILD", KIND, KINDS, x -> x.name(0, 0));
        EDGES.refuses("a RACER is no CHILD", KIND, KINDS, x -> x.name(2, 0));
        EDGES.answers("a CHILD is", 1, KINDS, x -> x.name(1, 0));
        EDGES.answers("a TINY is one, too", 1, KINDS, x -> x.name(3, 0));
        EDGES.answers("hand 0", 1, BUSY, x -> x.name(5, 0));
        EDGES.answers("hand 99", 1, BUSY, x -> x.name(5, 99));
        EDGES.answers("hand 99 is NAMED", 1, BUSY.then(x -> x.name(5, 99)), x -> x.hand(5, 99));
        EDGES.answers("a second", 2, BUSY, x -> x.name(3, 11));
        EDGES.answers("a third", 3, BUSY.then(x -> x.name(3, 11)), x -> x.name(3, 12));
        EDGES.refuses("a fourth", Edges.FULL, BUSY, x -> x.name(1, 40));
        EDGES.refuses("a fourth in a full house", Edges.FULL, FULL_HOUSE, x -> x.name(3, 4));
        for (int hand : new int[] {10, 20, 30}) {
            EDGES.refuses("hand " + hand + " again: SIZE ahead of FULL", Edges.SIZE, BUSY, x -> x.name(1, hand));
        }
        EDGES.refuses("the only one again", Edges.SIZE, BUSY, x -> x.name(3, 10));
        EDGES.refuses("hand 0 again", Edges.SIZE, KINDS.then(x -> x.name(1, 0)), x -> x.name(1, 0));
        EDGES.answers("a hand that is NAMED for another", 2, BUSY, x -> x.name(3, 20));
        EDGES.answers("one that is not HERE", 1, BUSY, x -> x.name(5, 20));
        EDGES.answers("three for the last CHILD of a full house", 3,
                FULL_HOUSE.then(x -> x.name(9, 1)).then(x -> x.name(9, 2)), x -> x.name(9, 3));
    }

    private static void hand() {
        EDGES.promise(25);
        for (int one : NO_PUPIL) {
            EDGES.refuses("hand(" + one + ", 10)", BEYOND, BUSY, x -> x.hand(one, 10));
            EDGES.refuses("hand(" + one + ", 100)", BEYOND, BUSY, x -> x.hand(one, 100));
        }
        for (int hand : NO_HAND) {
            EDGES.refuses("a PUPIL to " + hand + ": BEYOND ahead of KIND", BEYOND, BUSY, x -> x.hand(0, hand));
            EDGES.refuses("a HANDED CHILD to " + hand + ": BEYOND ahead of STATE", BEYOND, BUSY,
                    x -> x.hand(1, hand));
            EDGES.refuses("a CHILD to " + hand + ": BEYOND ahead of NONE", BEYOND, BUSY, x -> x.hand(3, hand));
        }
        EDGES.refuses("a PUPIL is no CHILD: KIND ahead of NONE", KIND, KINDS, x -> x.hand(0, 0));
        EDGES.refuses("a RACER is no CHILD: KIND ahead of NONE", KIND, KINDS, x -> x.hand(2, 0));
        EDGES.refuses("HANDED: to the same", STATE, BUSY, x -> x.hand(1, 20));
        EDGES.refuses("HANDED: to another NAMED one", STATE, BUSY, x -> x.hand(1, 10));
        EDGES.refuses("HANDED: to one that is not NAMED, STATE ahead of NONE", STATE, BUSY, x -> x.hand(1, 40));
        EDGES.refuses("HANDED to 0: it is not AWAY", STATE, KINDS.then(x -> x.name(1, 0)).then(x -> x.hand(1, 0)),
                x -> x.hand(1, 0));
        EDGES.refuses("none is NAMED", NONE, BUSY, x -> x.hand(5, 10));
        EDGES.refuses("hand 0 while none is NAMED", NONE, BUSY, x -> x.hand(5, 0));
        EDGES.refuses("hand 0 while one is NAMED", NONE, BUSY, x -> x.hand(3, 0));
        EDGES.refuses("a hand NAMED for another", NONE, BUSY, x -> x.hand(3, 20));
        EDGES.refuses("a hand whose naming was refused as a fourth", NONE,
                BUSY.then(x -> x.back(1)).then(x -> x.name(1, 40)), x -> x.hand(1, 40));
        for (int hand : new int[] {10, 20, 30}) {
            EDGES.answers("each of three: " + hand, 1, BUSY.then(x -> x.back(1)), x -> x.hand(1, hand));
            EDGES.answers("to whom: " + hand, hand, BUSY.then(x -> x.back(1)).then(x -> x.hand(1, hand)),
                    x -> x.of(1, 9));
        }
        EDGES.answers("two CHILDREN to one hand", 1,
                BUSY.then(x -> x.back(1)).then(x -> x.hand(1, 10)), x -> x.hand(3, 10));
        EDGES.answers("one that is not HERE", 1, BUSY.then(x -> x.name(5, 7)), x -> x.hand(5, 7));
        EDGES.answers("hand 0", 1, KINDS.then(x -> x.name(3, 0)), x -> x.hand(3, 0));
        EDGES.answers("hand 99", 1, KINDS.then(x -> x.name(3, 99)), x -> x.hand(3, 99));
    }

    private static void back() {
        EDGES.promise(26);
        for (int one : NO_PUPIL) {
            EDGES.refuses("back(" + one + ")", BEYOND, BUSY, x -> x.back(one));
        }
        EDGES.refuses("a PUPIL is no CHILD: KIND ahead of STATE", KIND, KINDS, x -> x.back(0));
        EDGES.refuses("a RACER is no CHILD: KIND ahead of STATE", KIND, KINDS, x -> x.back(2));
        EDGES.refuses("a CHILD that is AWAY", STATE, BUSY, x -> x.back(5));
        EDGES.refuses("a TINY that is AWAY, with a NAMED hand", STATE, BUSY, x -> x.back(3));
        EDGES.refuses("AWAY again", STATE, BUSY.then(x -> x.back(1)), x -> x.back(1));
        EDGES.answers("to whom it was HANDED", 20, BUSY, x -> x.back(1));
        EDGES.answers("HANDED to 0: no finding", 0, KINDS.then(x -> x.name(1, 0)).then(x -> x.hand(1, 0)),
                x -> x.back(1));
        EDGES.answers("HANDED to 99", 99, KINDS.then(x -> x.name(3, 99)).then(x -> x.hand(3, 99)), x -> x.back(3));
        EDGES.answers("its hands stay NAMED", 1, BUSY.then(x -> x.back(1)), x -> x.hand(1, 20));
        EDGES.answers("others stay HANDED", 10, BUSY.then(x -> x.hand(3, 10)).then(x -> x.back(1)), x -> x.of(3, 9));
        EDGES.answers("one that is not HERE", 20, BUSY.then(x -> x.here(1, false)), x -> x.back(1));
    }

    private static void left() {
        EDGES.promise(27);
        EDGES.asksOnly("nobody at all", 0, Edges.NOTHING, SnowSchool::left);
        EDGES.asksOnly("no CHILDREN", 0, Edges.school(10, 0), SnowSchool::left);
        EDGES.asksOnly("a CHILD and a TINY, no PUPIL, no RACER", 10, KINDS, SnowSchool::left);
        EDGES.asksOnly("not those HANDED, nor those that are not HERE", 8, BUSY, SnowSchool::left);
        EDGES.asksOnly("HERE again", 40, BUSY.then(x -> x.here(5, true)), SnowSchool::left);
        EDGES.asksOnly("AWAY again", 10, BUSY.then(x -> x.back(1)), SnowSchool::left);
        EDGES.asksOnly("AWAY again, but not HERE", 8, BUSY.then(x -> x.back(1)).then(x -> x.here(1, false)),
                SnowSchool::left);
        EDGES.asksOnly("HANDED and not HERE", 8, BUSY.then(x -> x.here(1, false)), SnowSchool::left);
        EDGES.asksOnly("all ten", 1023, x -> {
            for (int p = 0; p < 10; p++) {
                x.pupil(p < 5 ? 1 : 3, 5, 1);
            }
        }, SnowSchool::left);
        EDGES.asksOnly("HANDED to hand 0", 8, KINDS.then(x -> x.name(1, 0)).then(x -> x.hand(1, 0)),
                SnowSchool::left);
        EDGES.leaves("a refused hand leaves it AWAY", 8, BUSY.then(x -> x.hand(3, 20)), SnowSchool::left);
    }

    public static void main(String[] args) {
        name();
        hand();
        back();
        left();
        System.exit(EDGES.end());
    }
}
