/** Promises 18 to 23, edge by edge: PLACES, LIFTS and SLOPES, and which of them can be come to and left again. */
public final class MountainEdgesTest {
    private static final int BEYOND = Edges.BEYOND;
    private static final int NONE = Edges.NONE;
    private static final int MIN = Edges.MIN;
    private static final int MAX = Edges.MAX;
    private static final Edges EDGES = new Edges();
    private static final Edges.Deed BUSY = Edges.BUSY;
    private static final Edges.Deed FULL_HOUSE = Edges.FULL_HOUSE;
    private static final Edges.Deed ONE = Edges.school(1, 0);

    private static final int[] NO_PLACE = {-1, -2, 6, 7, 31, 32, 64, MIN, MAX};
    private static final int[] NO_LIFT = {-1, -2, 3, 4, 5, 6, 31, 32, 64, MIN, MAX};
    private static final int[] NO_SET = {0, 64, 65, 127, 128, 1 << 30, MIN, MIN + 1, MAX, -1, -64};

    private static void lift() {
        EDGES.promise(18);
        for (int place : NO_PLACE) {
            EDGES.refuses("a LIFT from " + place, BEYOND, BUSY, x -> x.lift(place, 0));
            EDGES.refuses("a LIFT to " + place, BEYOND, BUSY, x -> x.lift(0, place));
            EDGES.refuses("a LIFT from and to " + place, BEYOND, BUSY, x -> x.lift(place, place));
            EDGES.refuses("a seventh from " + place, BEYOND, FULL_HOUSE, x -> x.lift(place, 0));
            EDGES.refuses("a seventh to " + place, BEYOND, FULL_HOUSE, x -> x.lift(0, place));
        }
        for (int place = 0; place < 6; place++) {
            int p = place;
            EDGES.refuses("a LIFT from " + place + " to itself", BEYOND, BUSY, x -> x.lift(p, p));
            EDGES.refuses("a seventh from " + place + " to itself", BEYOND, FULL_HOUSE, x -> x.lift(p, p));
            EDGES.answers("a LIFT from " + place, 3, BUSY, x -> x.lift(p, (p + 1) % 6));
        }
        EDGES.answers("a LIFT from 0 to 5", 3, BUSY, x -> x.lift(0, 5));
        EDGES.answers("a LIFT from 5 to 0", 3, BUSY, x -> x.lift(5, 0));
        EDGES.answers("a LIFT as there is one", 3, BUSY, x -> x.lift(0, 1));
        EDGES.answers("the first LIFT", 0, Edges.NOTHING, x -> x.lift(0, 1));
        EDGES.answers("the sixth LIFT", 5, lifts(5), x -> x.lift(0, 1));
        EDGES.refuses("the seventh LIFT", Edges.FULL, lifts(6), x -> x.lift(0, 1));
        EDGES.refuses("the seventh LIFT of a full house", Edges.FULL, FULL_HOUSE, x -> x.lift(0, 1));
        EDGES.answers("told(3) of six", 6, lifts(6), x -> x.told(3));
        EDGES.leaves("a refused LIFT takes no number", 3, BUSY.then(x -> x.lift(0, 0)), x -> x.lift(0, 1));
    }

    private static Edges.Deed lifts(int count) {
        return x -> {
            for (int i = 0; i < count; i++) {
                x.lift(i % 6, (i + 1) % 6);
            }
        };
    }

    private static Edges.Deed slopes(int count) {
        return x -> {
            for (int i = 0; i < count; i++) {
                x.slope(i % 6, (i + 1) % 6, 0);
            }
        };
    }

    private static void slope() {
        EDGES.promise(19);
        for (int place : NO_PLACE) {
            EDGES.refuses("a SLOPE from " + place, BEYOND, BUSY, x -> x.slope(place, 0, 0));
            EDGES.refuses("a SLOPE to " + place, BEYOND, BUSY, x -> x.slope(0, place, 0));
            EDGES.refuses("a SLOPE from and to " + place, BEYOND, BUSY, x -> x.slope(place, place, 0));
            EDGES.refuses("a ninth from " + place, BEYOND, FULL_HOUSE, x -> x.slope(place, 0, 0));
            EDGES.refuses("a ninth to " + place, BEYOND, FULL_HOUSE, x -> x.slope(0, place, 0));
        }
        for (int place = 0; place < 6; place++) {
            int p = place;
            EDGES.refuses("a SLOPE from " + place + " to itself", BEYOND, BUSY, x -> x.slope(p, p, 0));
            EDGES.refuses("a ninth from " + place + " to itself", BEYOND, FULL_HOUSE, x -> x.slope(p, p, 0));
            EDGES.answers("a SLOPE from " + place, 4, BUSY, x -> x.slope(p, (p + 1) % 6, 0));
        }
        for (int skill : new int[] {-1, -9, 10, 11, MIN, MAX}) {
            EDGES.refuses("a SLOPE of skill " + skill, BEYOND, BUSY, x -> x.slope(0, 1, skill));
            EDGES.refuses("a ninth of skill " + skill, BEYOND, FULL_HOUSE, x -> x.slope(0, 1, skill));
        }
        EDGES.answers("a SLOPE of skill 0", 4, BUSY, x -> x.slope(0, 5, 0));
        EDGES.answers("a SLOPE of skill 9", 4, BUSY, x -> x.slope(5, 0, 9));
        EDGES.answers("the first SLOPE", 0, Edges.NOTHING, x -> x.slope(0, 1, 0));
        EDGES.answers("the eighth SLOPE", 7, slopes(7), x -> x.slope(0, 1, 0));
        EDGES.refuses("the ninth SLOPE", Edges.FULL, slopes(8), x -> x.slope(0, 1, 0));
        EDGES.refuses("the ninth SLOPE of a full house", Edges.FULL, FULL_HOUSE, x -> x.slope(0, 1, 0));
        EDGES.answers("told(4) of eight", 8, slopes(8), x -> x.told(4));
        EDGES.leaves("a refused SLOPE takes no number", 4, BUSY.then(x -> x.slope(0, 1, 10)), x -> x.slope(0, 1, 9));
    }

    private static void stop() {
        EDGES.promise(20);
        for (int lift : NO_LIFT) {
            EDGES.refuses("stop(" + lift + ", true)", BEYOND, BUSY, x -> x.stop(lift, true));
            EDGES.refuses("stop(" + lift + ", false)", BEYOND, BUSY, x -> x.stop(lift, false));
        }
        EDGES.refuses("stop(6, true) of a full house", BEYOND, FULL_HOUSE, x -> x.stop(6, true));
        EDGES.refuses("a SLOPE's number is no LIFT's", BEYOND, x -> x.slope(0, 1, 0), x -> x.stop(0, true));
        EDGES.asksOnly("STOPPED already", 0, BUSY, x -> x.stop(2, true));
        EDGES.asksOnly("runs already", 0, BUSY, x -> x.stop(0, false));
        EDGES.answers("STOPPED", 1, BUSY, x -> x.stop(0, true));
        EDGES.answers("runs again", 1, BUSY, x -> x.stop(2, false));
        EDGES.answers("LIFT 5 of a full house", 1, FULL_HOUSE, x -> x.stop(5, true));
        EDGES.answers("STOPPED: it still is a LIFT", 3, BUSY.then(x -> x.stop(0, true)), x -> x.told(3));
    }

    private static void meeting() {
        EDGES.promise(21);
        for (int place : NO_PLACE) {
            EDGES.refuses("meeting(" + place + ")", BEYOND, BUSY, x -> x.meeting(place));
            EDGES.refuses("meeting(" + place + ") from 5", BEYOND, BUSY.then(x -> x.meeting(5)), x -> x.meeting(place));
        }
        for (int place = 0; place < 6; place++) {
            int p = place;
            EDGES.answers("meeting(" + place + "): what it was", 0, Edges.NOTHING, x -> x.meeting(p));
            EDGES.answers("meeting(" + place + "): what it is", place, x -> x.meeting(p), x -> x.meeting(0));
        }
        EDGES.asksOnly("the same PLACE", 0, BUSY, x -> x.meeting(0));
    }

    private static void servesRefuses() {
        EDGES.promise(22);
        for (int set : NO_SET) {
            EDGES.refuses("serves(" + set + ")", BEYOND, BUSY, x -> x.serves(set));
        }
        EDGES.refuses("serves(1024) of a full house", BEYOND, FULL_HOUSE, x -> x.serves(1024));
        EDGES.refuses("no LEVEL", NONE, BUSY, x -> x.serves(6));
        EDGES.refuses("no LEVEL, and one that is not there: BEYOND ahead of NONE", BEYOND, BUSY, x -> x.serves(70));
        EDGES.refuses("no LEVEL, and no SLOPES", NONE,
                Edges.school(2, 0).then(x -> x.saw(0, 0, 4)).then(x -> x.saw(1, 5, 9)), x -> x.serves(3));
        EDGES.asksOnly("no SLOPES", 0, ONE, x -> x.serves(1));
        EDGES.asksOnly("one that is not HERE", 1, BUSY, x -> x.serves(32));
        EDGES.asksOnly("all eight", 255, ONE.then(slopes(8)), x -> x.serves(1));
    }

    private static void servesBySkill() {
        EDGES.promise(22);
        for (int skill = 0; skill < 10; skill++) {
            for (int level = 0; level < 10; level++) {
                int s = skill;
                int low = level;
                EDGES.answers("a SLOPE of " + skill + " at LEVEL " + level, level >= skill ? 1 : 0,
                        ONE.then(x -> x.saw(0, low, 9)).then(x -> x.lift(0, 1)).then(x -> x.slope(1, 0, s)),
                        x -> x.serves(1));
            }
        }
        Edges.Deed two = Edges.school(2, 0).then(x -> x.saw(1, 6, 9)).then(x -> x.lift(0, 1))
                .then(x -> x.slope(1, 0, 6));
        EDGES.answers("by the LEVEL of the better one", 1, two, x -> x.serves(3));
        EDGES.answers("the other one alone", 0, two, x -> x.serves(1));
        EDGES.answers("by LOW, not by HIGH", 0, two.then(x -> x.saw(0, 5, 9)), x -> x.serves(1));
        EDGES.answers("there by a SLOPE that is too hard", 0,
                ONE.then(x -> x.slope(0, 1, 1)).then(x -> x.slope(1, 0, 0)), x -> x.serves(1));
        EDGES.answers("back by a SLOPE that is too hard", 0,
                ONE.then(x -> x.slope(0, 1, 0)).then(x -> x.slope(1, 0, 1)), x -> x.serves(1));
        EDGES.answers("there and back by SLOPES", 3,
                ONE.then(x -> x.slope(0, 1, 0)).then(x -> x.slope(1, 0, 0)), x -> x.serves(1));
    }

    private static void servesByWays() {
        EDGES.promise(22);
        EDGES.answers("no way to where it begins", 0, ONE.then(x -> x.slope(1, 0, 0)), x -> x.serves(1));
        EDGES.answers("no way from where it ends", 0, ONE.then(x -> x.slope(0, 1, 0)), x -> x.serves(1));
        EDGES.answers("a LIFT up only", 1, ONE.then(x -> x.slope(1, 0, 0)).then(x -> x.lift(0, 1)), x -> x.serves(1));
        EDGES.answers("a LIFT back only", 1, ONE.then(x -> x.slope(0, 1, 0)).then(x -> x.lift(1, 0)), x -> x.serves(1));
        EDGES.answers("the LIFT up is STOPPED", 0,
                ONE.then(x -> x.slope(1, 0, 0)).then(x -> x.lift(0, 1)).then(x -> x.stop(0, true)), x -> x.serves(1));
        EDGES.answers("the LIFT back is STOPPED", 0,
                ONE.then(x -> x.slope(0, 1, 0)).then(x -> x.lift(1, 0)).then(x -> x.stop(0, true)), x -> x.serves(1));
        EDGES.answers("one of two LIFTS is STOPPED", 1, ONE.then(x -> x.slope(1, 0, 0)).then(x -> x.lift(0, 1))
                .then(x -> x.lift(0, 1)).then(x -> x.stop(0, true)), x -> x.serves(1));
        EDGES.answers("another MEETING: no way there", 0, ONE.then(x -> x.slope(1, 0, 0)).then(x -> x.lift(0, 1))
                .then(x -> x.meeting(5)), x -> x.serves(1));
        EDGES.answers("another MEETING: round from there", 1, ONE.then(x -> x.slope(1, 0, 0)).then(x -> x.lift(0, 1))
                .then(x -> x.meeting(1)), x -> x.serves(1));
        for (int place = 0; place < 6; place++) {
            int p = place;
            EDGES.answers("the longest way round, up, from " + place, 31, ONE.then(slopes(5)).then(x -> x.lift(5, 0))
                    .then(x -> x.meeting(p)), x -> x.serves(1));
            EDGES.answers("the longest way round, down, from " + place, 31, ONE.then(x -> {
                for (int i = 5; i > 0; i--) {
                    x.slope(i, i - 1, 0);
                }
                x.lift(0, 5);
                x.meeting(p);
            }), x -> x.serves(1));
            EDGES.answers("the longest way, cut, from " + place, 0, ONE.then(slopes(5)).then(x -> x.meeting(p)),
                    x -> x.serves(1));
        }
    }

    private static void strandedRefuses() {
        EDGES.promise(23);
        for (int set : NO_SET) {
            EDGES.refuses("stranded(" + set + ", 0)", BEYOND, BUSY, x -> x.stranded(set, 0));
            EDGES.refuses("stranded(" + set + ", 3)", BEYOND, BUSY, x -> x.stranded(set, 3));
        }
        for (int lift : NO_LIFT) {
            EDGES.refuses("stranded(1, " + lift + ")", BEYOND, BUSY, x -> x.stranded(1, lift));
            EDGES.refuses("no LEVEL, and LIFT " + lift + ": BEYOND ahead of NONE", BEYOND, BUSY,
                    x -> x.stranded(6, lift));
        }
        EDGES.refuses("stranded(1, 6) of a full house", BEYOND, FULL_HOUSE, x -> x.stranded(1, 6));
        EDGES.refuses("stranded(1024, 5) of a full house", BEYOND, FULL_HOUSE, x -> x.stranded(1024, 5));
        EDGES.refuses("no LEVEL", NONE, BUSY, x -> x.stranded(6, 0));
        EDGES.refuses("no LEVEL, and a LIFT that is STOPPED", NONE, BUSY, x -> x.stranded(6, 2));
        EDGES.refuses("no LEVEL, and one that is not there: BEYOND ahead of NONE", BEYOND, BUSY,
                x -> x.stranded(70, 0));
        EDGES.asksOnly("one that is not HERE", 0, BUSY, x -> x.stranded(32, 0));
    }

    /** Up by LIFT 0 to PLACE 1, down to 2, back by LIFT 1. */
    private static void stranded() {
        EDGES.promise(23);
        Edges.Deed round = ONE.then(x -> {
            x.lift(0, 1);
            x.lift(2, 0);
            x.slope(1, 2, 0);
        });
        EDGES.asksOnly("the LIFT up strands nobody", 0, round, x -> x.stranded(1, 0));
        EDGES.asksOnly("the LIFT back strands all but THE MEETING", 6, round, x -> x.stranded(1, 1));
        EDGES.asksOnly("the LIFT back is STOPPED: it strands nobody", 0, round.then(x -> x.stop(1, true)),
                x -> x.stranded(1, 1));
        EDGES.asksOnly("the LIFT up is STOPPED: nobody is there", 0, round.then(x -> x.stop(0, true)),
                x -> x.stranded(1, 1));
        EDGES.asksOnly("two LIFTS back: neither strands", 0, round.then(x -> x.lift(2, 0)), x -> x.stranded(1, 1));
        EDGES.asksOnly("two LIFTS back, one STOPPED: the other does", 6,
                round.then(x -> x.lift(2, 0)).then(x -> x.stop(2, true)), x -> x.stranded(1, 1));
        EDGES.asksOnly("a SLOPE back that is too hard", 6, round.then(x -> x.slope(2, 0, 1)), x -> x.stranded(1, 1));
        EDGES.asksOnly("a SLOPE back at the LEVEL", 0,
                round.then(x -> x.slope(2, 0, 1)).then(x -> x.saw(0, 1, 9)), x -> x.stranded(1, 1));
        EDGES.asksOnly("a PLACE without a way back as things are", 6, round.then(x -> x.slope(1, 3, 0)),
                x -> x.stranded(1, 1));
        EDGES.asksOnly("a PLACE to which there is no way", 6, round.then(x -> x.slope(3, 2, 0)),
                x -> x.stranded(1, 1));
        EDGES.asksOnly("from another MEETING on the way: 1 still comes down to it", 1, round.then(x -> x.meeting(2)),
                x -> x.stranded(1, 0));
        EDGES.asksOnly("from another MEETING, the LIFT that leaves it", 0, round.then(x -> x.meeting(2)),
                x -> x.stranded(1, 1));
        EDGES.asksOnly("from another MEETING off the way", 0, round.then(x -> x.meeting(5)), x -> x.stranded(1, 1));
        for (int place = 0; place < 6; place++) {
            int p = place;
            int last = (place + 5) % 6;
            EDGES.asksOnly("six LIFTS round, the last one to " + place, 63 - (1 << place),
                    ONE.then(lifts(6)).then(x -> x.meeting(p)), x -> x.stranded(1, last));
            EDGES.asksOnly("six LIFTS round, the first one from " + place, 0,
                    ONE.then(lifts(6)).then(x -> x.meeting(p)), x -> x.stranded(1, p));
        }
    }

    public static void main(String[] args) {
        lift();
        slope();
        stop();
        meeting();
        servesRefuses();
        servesBySkill();
        servesByWays();
        strandedRefuses();
        stranded();
        System.exit(EDGES.end());
    }
}
