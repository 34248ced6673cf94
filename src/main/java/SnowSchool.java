import java.util.Arrays;

/** The school's face: it looks at what it is given, and leaves the work to the parts below. */
public final class SnowSchool {
    private static final int BEYOND = -1000001;
    private static final int FULL = -1000002;
    private static final int KIND = -1000003;
    private static final int NONE = -1000004;
    private static final int STATE = -1000005;
    private static final int MISSING = -1000006;
    private static final int SIZE = -1000007;

    /** What a part answers that can take no more. */
    private static final int NO_ROOM = -1;

    private static final int MOST_PUPILS = 10;
    private static final int MOST_TEACHERS = 5;
    private static final int MOST_LIFTS = 6;
    private static final int MOST_SLOPES = 8;
    private static final int MOST_ASKS = 10;
    private static final int MOST_NUMBERS = 10;
    private static final int MOST_NAMED = 3;
    private static final int KINDS = 4;
    private static final int TONGUE_SETS = 16;
    private static final int TOP_SKILL = 9;
    private static final int PLACES = 6;
    private static final int HANDS = 100;
    private static final int HOURS = 8;
    private static final int SHEETS = 4;

    private static final int CHILD = 1;
    private static final int RACER = 2;
    private static final int TINY = 3;
    private static final int LEARNER = 1;
    private static final int MASTER = 2;

    /** Each kind with all that it is under, as bits. */
    private static final int[] PUPIL_KINDS = {1, 3, 5, 11};
    private static final int[] TEACHER_KINDS = {1, 3, 5, 13};

    private final Roll roll;
    private final Planner planner;
    private final Mountain mountain;
    private final Diary diary;
    private final Sheet[] sheets;
    private int findings;

    public SnowSchool() {
        roll = new Roll();
        planner = new Planner();
        mountain = new Mountain();
        diary = new Diary();
        sheets = new Sheet[SHEETS];
        for (int i = 0; i < SHEETS; i++) {
            sheets[i] = new Sheet();
        }
    }

    // ---- pupils and teachers

    public int pupil(int kind, int age, int tongues) {
        if (!isBelow(kind, KINDS) || age < 3 || age > 90 || !isTongues(tongues)) {
            return finding(BEYOND);
        }
        return orFull(roll.addPupil(kind, age, tongues));
    }

    public int teacher(int kind, int tongues) {
        if (!isBelow(kind, KINDS) || !isTongues(tongues)) {
            return finding(BEYOND);
        }
        return orFull(roll.addTeacher(kind, tongues));
    }

    public int as(int one, boolean teacher, int kind) {
        boolean known = teacher ? roll.hasTeacher(one) : roll.hasPupil(one);
        if (!known || !isBelow(kind, KINDS)) {
            return finding(BEYOND);
        }
        boolean fits = teacher ? roll.teachers[one].isA(kind) : roll.pupils[one].isA(kind);
        return fits ? one : finding(KIND);
    }

    public int of(int pupil, int what) {
        if (!roll.hasPupil(pupil)) {
            return finding(BEYOND);
        }
        Pupil one = roll.pupils[pupil];
        switch (what) {
            case 0: return one.kind;
            case 1: return one.age;
            case 2: return one.tongues;
            case 3: return one.low;
            case 4: return one.high;
            case 5: return has(roll.here, pupil) ? 1 : 0;
            case 6: return one.friend;
            case 7: return roll.teacherAskedBy(pupil);
            case 8: return roll.teacherOver(pupil);
            case 9: return one.handedTo;
            default: return finding(BEYOND);
        }
    }

    public int here(int pupil, boolean is) {
        if (!roll.hasPupil(pupil)) {
            return finding(BEYOND);
        }
        if (has(roll.here, pupil) == is) {
            return 0;
        }
        roll.here ^= 1 << pupil;
        return 1;
    }

    public int friend(int pupil, int other) {
        if (!roll.hasPupil(pupil) || other != -1 && !roll.hasPupil(other) || pupil == other) {
            return finding(BEYOND);
        }
        Pupil one = roll.pupils[pupil];
        int before = one.friend;
        one.friend = other;
        return before;
    }

    public int wish(int pupil, int teacher) {
        if (!roll.hasPupil(pupil) || teacher != -1 && !roll.hasTeacher(teacher)) {
            return finding(BEYOND);
        }
        int before = roll.teacherAskedBy(pupil);
        roll.moveAsking(pupil, before, teacher);
        return before;
    }

    public int saw(int pupil, int low, int high) {
        if (!roll.hasPupil(pupil) || low < 0 || high > TOP_SKILL || low > high) {
            return finding(BEYOND);
        }
        Pupil one = roll.pupils[pupil];
        return one.narrow(low, high) ? one.high - one.low : finding(STATE);
    }

    public int ill(int teacher, boolean is) {
        if (!roll.hasTeacher(teacher)) {
            return finding(BEYOND);
        }
        Teacher one = roll.teachers[teacher];
        boolean isNew = one.isIll != is;
        one.isIll = is;
        return isNew ? 1 : 0;
    }

    public int terms(int most, int spread, int keep, int wish) {
        boolean sizes = most >= 1 && most <= 10 && spread >= 0 && spread <= 90;
        if (!sizes || !isBelow(keep, 10) || !isBelow(wish, 10)) {
            return finding(BEYOND);
        }
        roll.most = most;
        roll.spread = spread;
        roll.keepWorth = keep;
        roll.wishWorth = wish;
        return 1;
    }

    // ---- classes

    public int level(int set) {
        if (!roll.hasAll(set)) {
            return finding(BEYOND);
        }
        Group group = roll.gather(set);
        return group.hasLevel() ? group.level : finding(NONE);
    }

    public int may(int teacher, int set) {
        if (!roll.hasTeacher(teacher) || !roll.hasAll(set)) {
            return finding(BEYOND);
        }
        return roll.reasonAgainst(roll.teachers[teacher], roll.gather(set));
    }

    public int classing() {
        if (!planner.plans(roll, false)) {
            return finding(NONE);
        }
        roll.makeClasses(planner.plan);
        return roll.countClasses();
    }

    public int noon() {
        if (!planner.plans(roll, true)) {
            return finding(NONE);
        }
        int moved = roll.countMoved(planner.plan);
        roll.makeClasses(planner.plan);
        return moved;
    }

    public int worth() {
        if (!planner.plans(roll, false)) {
            return finding(NONE);
        }
        return roll.worthOfAll(planner.plan);
    }

    public int set(int teacher) {
        if (!roll.hasTeacher(teacher)) {
            return finding(BEYOND);
        }
        return roll.teachers[teacher].taught;
    }

    // ---- the mountain

    public int lift(int from, int to) {
        if (!isWay(from, to)) {
            return finding(BEYOND);
        }
        return orFull(mountain.addLift(from, to));
    }

    public int slope(int from, int to, int skill) {
        if (!isWay(from, to) || skill < 0 || skill > TOP_SKILL) {
            return finding(BEYOND);
        }
        return orFull(mountain.addSlope(from, to, skill));
    }

    public int stop(int lift, boolean is) {
        if (!isBelow(lift, mountain.liftCount)) {
            return finding(BEYOND);
        }
        Way way = mountain.lifts[lift];
        boolean isNew = way.isStopped != is;
        way.isStopped = is;
        return isNew ? 1 : 0;
    }

    public int meeting(int place) {
        if (!isBelow(place, PLACES)) {
            return finding(BEYOND);
        }
        int before = mountain.meetingPlace;
        mountain.meetingPlace = place;
        return before;
    }

    public int serves(int set) {
        if (!roll.hasAll(set)) {
            return finding(BEYOND);
        }
        Group group = roll.gather(set);
        return group.hasLevel() ? mountain.servingSlopes(group.level) : finding(NONE);
    }

    public int stranded(int set, int lift) {
        if (!roll.hasAll(set) || !isBelow(lift, mountain.liftCount)) {
            return finding(BEYOND);
        }
        Group group = roll.gather(set);
        return group.hasLevel() ? mountain.strandingPlaces(group.level, lift) : finding(NONE);
    }

    // ---- hands

    public int name(int pupil, int hand) {
        if (!roll.hasPupil(pupil) || !isBelow(hand, HANDS)) {
            return finding(BEYOND);
        }
        Pupil one = roll.pupils[pupil];
        if (!one.isA(CHILD)) {
            return finding(KIND);
        }
        if (one.hasNamed(hand)) {
            return finding(SIZE);
        }
        return orFull(one.addNamed(hand));
    }

    public int hand(int pupil, int hand) {
        if (!roll.hasPupil(pupil) || !isBelow(hand, HANDS)) {
            return finding(BEYOND);
        }
        Pupil one = roll.pupils[pupil];
        if (!one.isA(CHILD)) {
            return finding(KIND);
        }
        if (!one.isAway()) {
            return finding(STATE);
        }
        if (!one.hasNamed(hand)) {
            return finding(NONE);
        }
        one.handedTo = hand;
        return 1;
    }

    public int back(int pupil) {
        if (!roll.hasPupil(pupil)) {
            return finding(BEYOND);
        }
        Pupil one = roll.pupils[pupil];
        if (!one.isA(CHILD)) {
            return finding(KIND);
        }
        if (one.isAway()) {
            return finding(STATE);
        }
        int before = one.handedTo;
        one.handedTo = -1;
        return before;
    }

    public int left() {
        return roll.childrenAway() & roll.here;
    }

    // ---- private hours

    public int ask(int teacher, int from, int to, int pay) {
        if (!roll.hasTeacher(teacher) || !areHours(from, to) || pay < 0 || pay > 1000) {
            return finding(BEYOND);
        }
        return orFull(diary.addAsk(teacher, from, to, pay));
    }

    public int hours(int first, int last) {
        if (!areHours(first, last)) {
            return finding(BEYOND);
        }
        diary.firstHour = first;
        diary.lastHour = last;
        return 1;
    }

    public int book(int ask) {
        if (!isBelow(ask, diary.askCount)) {
            return finding(BEYOND);
        }
        Ask one = diary.asks[ask];
        if (one.isBooked) {
            return finding(STATE);
        }
        if (!roll.hasTeacher(one.teacher) || !diary.isFree(one, roll.teachers[one.teacher])) {
            return finding(NONE);
        }
        one.isBooked = true;
        return one.pay;
    }

    public int open(int ask) {
        if (!isBelow(ask, diary.askCount)) {
            return finding(BEYOND);
        }
        Ask one = diary.asks[ask];
        boolean wasBooked = one.isBooked;
        one.isBooked = false;
        return wasBooked ? 1 : 0;
    }

    public int choice(int teacher, boolean pay) {
        if (!roll.hasTeacher(teacher)) {
            return finding(BEYOND);
        }
        int value = diary.bestValue(teacher, roll.teachers[teacher]);
        return pay ? Diary.payIn(value) : Diary.asksIn(value);
    }

    public int choose(int teacher) {
        if (!roll.hasTeacher(teacher)) {
            return finding(BEYOND);
        }
        int chosen = Diary.asksIn(diary.bestValue(teacher, roll.teachers[teacher]));
        diary.bookOnly(teacher, chosen);
        return Integer.bitCount(chosen);
    }

    // ---- sheets

    public int sheet(int s, int bits, int n) {
        if (!isBelow(s, SHEETS) || bits != 0 && bits != 8 && bits != 16 && bits != 32) {
            return finding(BEYOND);
        }
        if (n < 0) {
            return finding(SIZE);
        }
        if (n > MOST_NUMBERS) {
            return finding(BEYOND);
        }
        Sheet one = sheets[s];
        one.begin(bits, bits == 0 ? 0 : n);
        return one.size;
    }

    public int write(int s, int i, int v) {
        if (!isBelow(s, SHEETS)) {
            return finding(BEYOND);
        }
        Sheet one = sheets[s];
        if (one.isMissing()) {
            return finding(MISSING);
        }
        if (!isBelow(i, one.size)) {
            return finding(BEYOND);
        }
        int before = one.row[i];
        one.row[i] = one.lowestBits(v);
        return before;
    }

    public int copy(int s, int from, int t, int to, int n) {
        if (!isBelow(s, SHEETS) || !isBelow(t, SHEETS)) {
            return finding(BEYOND);
        }
        Sheet source = sheets[s];
        Sheet target = sheets[t];
        if (source.isMissing() || target.isMissing()) {
            return finding(MISSING);
        }
        if (source.bits != target.bits) {
            return finding(KIND);
        }
        if (!source.hasRun(from, n) || !target.hasRun(to, n)) {
            return finding(BEYOND);
        }
        System.arraycopy(source.row, from, target.row, to, n);
        return n;
    }

    public int read(int s) {
        if (!isBelow(s, SHEETS)) {
            return finding(BEYOND);
        }
        Sheet one = sheets[s];
        if (one.isMissing()) {
            return finding(MISSING);
        }
        if (one.size > roll.pupilCount || !one.holdsSpans()) {
            return finding(BEYOND);
        }
        int seen = 0;
        while (seen < one.size && roll.pupils[seen].narrow(one.row[seen] / 10, one.row[seen] % 10)) {
            seen++;
        }
        return seen;
    }

    public int told(int what) {
        switch (what) {
            case 0: return roll.pupilCount;
            case 1: return roll.teacherCount;
            case 2: return roll.countClasses();
            case 3: return mountain.liftCount;
            case 4: return mountain.slopeCount;
            case 5: return diary.countBooked();
            case 6: return findings;
            default: return finding(BEYOND);
        }
    }

    // ---- what all parts ask

    private int finding(int code) {
        findings++;
        return code;
    }

    private int orFull(int answer) {
        return answer == NO_ROOM ? finding(FULL) : answer;
    }

    private static boolean isBelow(int number, int count) {
        return number >= 0 && number < count;
    }

    private static boolean has(int set, int number) {
        return ((set >> number) & 1) != 0;
    }

    private static boolean isTongues(int tongues) {
        return tongues > 0 && tongues < TONGUE_SETS;
    }

    private static boolean isWay(int from, int to) {
        return isBelow(from, PLACES) && isBelow(to, PLACES) && from != to;
    }

    private static boolean areHours(int first, int last) {
        return first >= 0 && first <= last && last < HOURS;
    }

    private static final class Pupil {
        int kind;
        int age;
        int tongues;
        int low;
        int high = TOP_SKILL;
        int friend = -1;
        final int[] named = new int[MOST_NAMED];
        int namedCount;
        int handedTo = -1;

        boolean isA(int wanted) {
            return kind >= 0 && kind < PUPIL_KINDS.length && ((PUPIL_KINDS[kind] >> wanted) & 1) != 0;
        }

        /** False, and nothing changed, if the spans have no skill in common (a turned one never has). */
        boolean narrow(int seenLow, int seenHigh) {
            int newLow = Math.max(low, seenLow);
            int newHigh = Math.min(high, seenHigh);
            if (seenLow > seenHigh || newLow > newHigh) {
                return false;
            }
            low = newLow;
            high = newHigh;
            return true;
        }

        boolean hasNamed(int wanted) {
            for (int i = 0; i < namedCount; i++) {
                if (named[i] == wanted) {
                    return true;
                }
            }
            return false;
        }

        int addNamed(int added) {
            if (namedCount >= MOST_NAMED) {
                return NO_ROOM;
            }
            named[namedCount] = added;
            namedCount++;
            return namedCount;
        }

        boolean isAway() {
            return handedTo < 0;
        }
    }

    private static final class Teacher {
        int kind;
        int tongues;
        boolean isIll;
        /** The PUPILS with a TONGUE in common; kept, since no TONGUES change once told. */
        int understood;
        /** The PUPILS that ask for this one. */
        int askedBy;
        /** The set in THE CLASSES. */
        int taught;

        boolean isA(int wanted) {
            return kind >= 0 && kind < TEACHER_KINDS.length && ((TEACHER_KINDS[kind] >> wanted) & 1) != 0;
        }

        boolean isGoodEnoughFor(Group group) {
            if (group.hasRacer || group.level >= 8) {
                return isA(MASTER);
            }
            return group.level <= 3 || !isA(LEARNER);
        }
    }

    /** What matters of a set of PUPILS, whoever would teach it: gathered once for all TEACHERS. */
    private static final class Group {
        int members;
        int size;
        int level;
        int lowestHigh;
        int youngest;
        int oldest;
        int friends;
        boolean hasTiny;
        boolean hasRacer;

        void begin(int set) {
            members = set;
            size = Integer.bitCount(set);
            level = 0;
            lowestHigh = TOP_SKILL;
            youngest = 90;
            oldest = 0;
            friends = 0;
            hasTiny = false;
            hasRacer = false;
        }

        void take(Pupil one) {
            level = Math.max(level, one.low);
            lowestHigh = Math.min(lowestHigh, one.high);
            youngest = Math.min(youngest, one.age);
            oldest = Math.max(oldest, one.age);
            if (one.friend >= 0) {
                friends |= 1 << one.friend;
            }
            hasTiny = hasTiny || one.isA(TINY);
            hasRacer = hasRacer || one.isA(RACER);
        }

        boolean hasLevel() {
            return lowestHigh >= level;
        }
    }

    /** PUPILS, TEACHERS, the terms and THE CLASSES; all are made at once, so that no place is null. */
    private static final class Roll {
        final Pupil[] pupils = new Pupil[MOST_PUPILS];
        int pupilCount;
        final Teacher[] teachers = new Teacher[MOST_TEACHERS];
        int teacherCount;
        int here;
        int most = 6;
        int spread = 90;
        int keepWorth = 2;
        int wishWorth = 1;
        private final Group group = new Group();

        Roll() {
            for (int i = 0; i < MOST_PUPILS; i++) {
                pupils[i] = new Pupil();
            }
            for (int i = 0; i < MOST_TEACHERS; i++) {
                teachers[i] = new Teacher();
            }
        }

        boolean hasPupil(int number) {
            return isBelow(number, pupilCount);
        }

        boolean hasTeacher(int number) {
            return isBelow(number, teacherCount);
        }

        boolean hasAll(int set) {
            return set > 0 && set < 1 << pupilCount;
        }

        int addPupil(int kind, int age, int tongues) {
            int number = pupilCount;
            if (number >= MOST_PUPILS) {
                return NO_ROOM;
            }
            Pupil one = pupils[number];
            one.kind = kind;
            one.age = age;
            one.tongues = tongues;
            here |= 1 << number;
            for (int t = 0; t < teacherCount; t++) {
                acquaint(teachers[t], number);
            }
            pupilCount++;
            return number;
        }

        int addTeacher(int kind, int tongues) {
            int number = teacherCount;
            if (number >= MOST_TEACHERS) {
                return NO_ROOM;
            }
            Teacher one = teachers[number];
            one.kind = kind;
            one.tongues = tongues;
            for (int p = 0; p < pupilCount; p++) {
                acquaint(one, p);
            }
            teacherCount++;
            return number;
        }

        private void acquaint(Teacher one, int pupil) {
            if (isBelow(pupil, MOST_PUPILS) && (one.tongues & pupils[pupil].tongues) != 0) {
                one.understood |= 1 << pupil;
            }
        }

        int teacherAskedBy(int pupil) {
            for (int t = 0; t < teacherCount; t++) {
                if (has(teachers[t].askedBy, pupil)) {
                    return t;
                }
            }
            return -1;
        }

        void moveAsking(int pupil, int before, int after) {
            if (hasTeacher(before)) {
                teachers[before].askedBy &= ~(1 << pupil);
            }
            if (hasTeacher(after)) {
                teachers[after].askedBy |= 1 << pupil;
            }
        }

        int teacherOver(int pupil) {
            for (int t = 0; t < teacherCount; t++) {
                if (has(teachers[t].taught, pupil)) {
                    return t;
                }
            }
            return -1;
        }

        /** The answer is the one group of this roll: it holds until the next one is gathered. */
        Group gather(int set) {
            group.begin(set);
            for (int p = 0; p < pupilCount; p++) {
                if (has(set, p)) {
                    group.take(pupils[p]);
                }
            }
            return group;
        }

        int reasonAgainst(Teacher one, Group pack) {
            if (one.isIll) {
                return 1;
            }
            if ((pack.members & ~one.understood) != 0) {
                return 2;
            }
            if (!pack.hasLevel()) {
                return 3;
            }
            if (pack.size > (pack.hasTiny ? most / 2 : most)) {
                return 4;
            }
            if (pack.oldest - pack.youngest > spread) {
                return 5;
            }
            if ((pack.friends & here & ~pack.members) != 0) {
                return 6;
            }
            return one.isGoodEnoughFor(pack) ? 0 : 7;
        }

        int worthOf(Teacher one, int set) {
            return keepWorth * Integer.bitCount(set & one.taught)
                    + wishWorth * Integer.bitCount(set & one.askedBy);
        }

        /** The PUPILS whose TEACHER may still be theirs; all others move in every CLASSING AT NOON. */
        int settled() {
            int set = 0;
            for (int t = 0; t < teacherCount; t++) {
                if (!teachers[t].isIll) {
                    set |= teachers[t].taught;
                }
            }
            return set;
        }

        int movedTo(Teacher one, int set) {
            return Integer.bitCount(set & ~one.taught);
        }

        int worthOfAll(int[] plan) {
            int sum = 0;
            for (int t = 0; t < teacherCount && t < plan.length; t++) {
                sum += worthOf(teachers[t], plan[t]);
            }
            return sum;
        }

        int countMoved(int[] plan) {
            int sum = 0;
            for (int t = 0; t < teacherCount && t < plan.length; t++) {
                sum += movedTo(teachers[t], plan[t]);
            }
            return sum;
        }

        void makeClasses(int[] plan) {
            for (int t = 0; t < teacherCount && t < plan.length; t++) {
                teachers[t].taught = plan[t];
            }
        }

        int countClasses() {
            int count = 0;
            for (int t = 0; t < teacherCount; t++) {
                if (teachers[t].taught != 0) {
                    count++;
                }
            }
            return count;
        }

        int childrenAway() {
            int away = 0;
            for (int p = 0; p < pupilCount; p++) {
                if (pupils[p].isA(CHILD) && pupils[p].isAway()) {
                    away |= 1 << p;
                }
            }
            return away;
        }
    }

    /**
     * Finds the best CLASSING. A class's price is one number: above, what is to be least; below, its set in
     * bits that are its TEACHER's own, TEACHER 0's highest. So the least sum of prices is the best CLASSING
     * with its ties broken as the document says, and the sets can be read from it.
     */
    private static final class Planner {
        private static final int SETS = 1 << MOST_PUPILS;
        private static final int TIE_BITS = MOST_PUPILS * MOST_TEACHERS;
        /** Above the price of every CLASSING, and two of them still fit into a long. */
        private static final long UNREACHED = 1L << 61;
        /** More than all WORTH can be (10 times 9 and 9), so that one class less outweighs it. */
        private static final int CLASS_WEIGHT = 256;
        /** More than all classes can be, so that one PUPIL moved less outweighs them. */
        private static final int MOVE_WEIGHT = 8;

        private final long[][] prices = new long[MOST_TEACHERS][SETS];
        /** For each TEACHER all PUPILS of sets that it MAY TEACH: no other sets are worth a try. */
        private final int[] pools = new int[MOST_TEACHERS];
        /** For each TEACHER the least price of a class that it, or one ahead of it, may have. */
        private final long[] cheapest = new long[MOST_TEACHERS];
        /** No class has more PUPILS. */
        private int largest;
        /** For each set of PUPILS the least price at which just these have been placed. */
        private final long[] least = new long[SETS];
        final int[] plan = new int[MOST_TEACHERS];

        /** Whether there is a CLASSING; if so, the best one's sets stand in plan. */
        boolean plans(Roll roll, boolean atNoon) {
            int here = roll.here & (SETS - 1);
            priceAllSets(roll, here, atNoon);
            Arrays.fill(least, UNREACHED);
            least[0] = 0;
            // The last TEACHER first: ties go to it, so a good CLASSING soon stands against which all else is dear.
            for (int t = roll.teacherCount - 1; t >= 0; t--) {
                placeBy(t, here);
            }
            long whole = least[here];
            for (int t = 0; t < MOST_TEACHERS; t++) {
                plan[t] = (int) (whole >> tieShift(t)) & (SETS - 1);
            }
            return whole < UNREACHED;
        }

        private void priceAllSets(Roll roll, int here, boolean atNoon) {
            Arrays.fill(pools, 0);
            Arrays.fill(cheapest, UNREACHED);
            largest = 0;
            int settled = atNoon ? roll.settled() : 0;
            for (int set = here; set > 0; set = (set - 1) & here) {
                Group group = roll.gather(set);
                for (int t = 0; t < roll.teacherCount; t++) {
                    long price = UNREACHED;
                    if (roll.reasonAgainst(roll.teachers[t], group) == 0) {
                        long cost = atNoon ? noonCost(roll, t, set & settled) : dayCost(roll, t, set);
                        price = (cost << TIE_BITS) + ((long) set << tieShift(t));
                        pools[t] |= set;
                        cheapest[t] = Math.min(cheapest[t], price);
                        largest = Math.max(largest, group.size);
                    }
                    prices[t][set] = price;
                }
            }
            for (int t = 1; t < MOST_TEACHERS; t++) {
                cheapest[t] = Math.min(cheapest[t], cheapest[t - 1]);
            }
        }

        private static int dayCost(Roll roll, int t, int set) {
            return CLASS_WEIGHT - roll.worthOf(roll.teachers[t], set);
        }

        private static int noonCost(Roll roll, int t, int settledSet) {
            return MOVE_WEIGHT * roll.movedTo(roll.teachers[t], settledSet) + 1;
        }

        private static int tieShift(int t) {
            return MOST_PUPILS * (MOST_TEACHERS - 1 - t);
        }

        /**
         * Goes down, so that what this TEACHER has just placed (a greater set) is not its start again. To take
         * all the rest is tried first: a part is worth a try only if enough others are left, and still pay.
         */
        private void placeBy(int t, int here) {
            for (int done = here; done >= 0; done--) {
                long paid = least[done];
                if (paid + cheapest[t] < least[here]) {
                    int rest = here & ~done;
                    least[here] = Math.min(least[here], paid + prices[t][rest]);
                    int more = Math.max(2, classesFor(rest));
                    if (more <= t + 1 && paid + more * cheapest[t] < least[here]) {
                        placeEachOf(rest & pools[t], prices[t], done);
                    }
                }
            }
        }

        private int classesFor(int rest) {
            return largest > 0 ? (Integer.bitCount(rest) + largest - 1) / largest : 0;
        }

        private void placeEachOf(int rest, long[] priceOfSet, int done) {
            long paid = least[done];
            for (int set = rest; set > 0; set = (set - 1) & rest) {
                long sum = paid + priceOfSet[set];
                if (sum < least[done | set]) {
                    least[done | set] = sum;
                }
            }
        }
    }

    /** A LIFT or a SLOPE: a LIFT is one that asks for no skill. */
    private static final class Way {
        int from;
        int to;
        int skill;
        boolean isStopped;

        boolean isOpenAt(int level) {
            return !isStopped && skill <= level;
        }
    }

    private static final class Mountain {
        final Way[] lifts = new Way[MOST_LIFTS];
        int liftCount;
        private final Way[] slopes = new Way[MOST_SLOPES];
        int slopeCount;
        int meetingPlace;
        /** For each PLACE the PLACES one way off; made anew for each question. */
        private final int[] exits = new int[PLACES];

        Mountain() {
            for (int i = 0; i < MOST_LIFTS; i++) {
                lifts[i] = new Way();
            }
            for (int i = 0; i < MOST_SLOPES; i++) {
                slopes[i] = new Way();
            }
        }

        int addLift(int from, int to) {
            int number = liftCount;
            if (number >= MOST_LIFTS) {
                return NO_ROOM;
            }
            lifts[number].from = from;
            lifts[number].to = to;
            liftCount++;
            return number;
        }

        int addSlope(int from, int to, int skill) {
            int number = slopeCount;
            if (number >= MOST_SLOPES) {
                return NO_ROOM;
            }
            slopes[number].from = from;
            slopes[number].to = to;
            slopes[number].skill = skill;
            slopeCount++;
            return number;
        }

        int servingSlopes(int level) {
            int outward = reach(level, -1, false);
            int homeward = reach(level, -1, true);
            int serving = 0;
            for (int i = 0; i < slopeCount; i++) {
                Way one = slopes[i];
                if (one.isOpenAt(level) && has(outward, one.from) && has(homeward, one.to)) {
                    serving |= 1 << i;
                }
            }
            return serving;
        }

        int strandingPlaces(int level, int lift) {
            int visited = reach(level, -1, false) & reach(level, -1, true);
            return visited & ~reach(level, lift, true);
        }

        /** The PLACES to which one can come from THE MEETING; homeward: from which one can come to it. */
        private int reach(int level, int barredLift, boolean homeward) {
            Arrays.fill(exits, 0);
            for (int i = 0; i < liftCount; i++) {
                if (i != barredLift && lifts[i].isOpenAt(level)) {
                    join(lifts[i], homeward);
                }
            }
            for (int i = 0; i < slopeCount; i++) {
                if (slopes[i].isOpenAt(level)) {
                    join(slopes[i], homeward);
                }
            }
            return flood();
        }

        private void join(Way one, boolean homeward) {
            int start = homeward ? one.to : one.from;
            int end = homeward ? one.from : one.to;
            if (isBelow(start, PLACES)) {
                exits[start] |= 1 << end;
            }
        }

        private int flood() {
            int places = 1 << meetingPlace;
            for (int round = 1; round < PLACES; round++) {
                for (int p = 0; p < PLACES; p++) {
                    if (has(places, p)) {
                        places |= exits[p];
                    }
                }
            }
            return places;
        }
    }

    private static final class Ask {
        int teacher;
        int from;
        int to;
        int pay;
        boolean isBooked;

        boolean meets(int first, int last) {
            return from <= last && first <= to;
        }
    }

    private static final class Diary {
        /** A pay counts this much, and an ASK's bit is taken off: so less bits win among equal pays. */
        private static final int PAY_WEIGHT = 1 << MOST_ASKS;

        final Ask[] asks = new Ask[MOST_ASKS];
        int askCount;
        int firstHour = 2;
        int lastHour = 4;
        /** For each HOUR the best value of ASKS that begin then or later. */
        private final int[] bestFrom = new int[HOURS + 1];

        Diary() {
            for (int i = 0; i < MOST_ASKS; i++) {
                asks[i] = new Ask();
            }
        }

        int addAsk(int teacher, int from, int to, int pay) {
            int number = askCount;
            if (number >= MOST_ASKS) {
                return NO_ROOM;
            }
            Ask one = asks[number];
            one.teacher = teacher;
            one.from = from;
            one.to = to;
            one.pay = pay;
            askCount++;
            return number;
        }

        boolean isFree(Ask one, Teacher teacher) {
            for (int i = 0; i < askCount; i++) {
                Ask other = asks[i];
                boolean isRival = other != one && other.isBooked && other.teacher == one.teacher;
                if (isRival && one.meets(other.from, other.to)) {
                    return false;
                }
            }
            return suitsDay(one, teacher);
        }

        private boolean suitsDay(Ask one, Teacher teacher) {
            return !teacher.isIll && (teacher.taught == 0 || !one.meets(firstHour, lastHour));
        }

        /** The value of THE CHOICE, from which both its pay and its ASKS can be read. */
        int bestValue(int number, Teacher teacher) {
            bestFrom[HOURS] = 0;
            for (int hour = HOURS - 1; hour >= 0; hour--) {
                int best = bestFrom[hour + 1];
                for (int i = 0; i < askCount; i++) {
                    Ask one = asks[i];
                    boolean begins = one.teacher == number && one.from == hour && one.to < HOURS;
                    if (begins && suitsDay(one, teacher)) {
                        int value = one.pay * PAY_WEIGHT - (1 << i);
                        best = Math.max(best, value + bestFrom[one.to + 1]);
                    }
                }
                bestFrom[hour] = best;
            }
            return bestFrom[0];
        }

        static int payIn(int value) {
            return (value + PAY_WEIGHT - 1) / PAY_WEIGHT;
        }

        static int asksIn(int value) {
            return payIn(value) * PAY_WEIGHT - value;
        }

        void bookOnly(int teacher, int chosen) {
            for (int i = 0; i < askCount; i++) {
                if (asks[i].teacher == teacher) {
                    asks[i].isBooked = has(chosen, i);
                }
            }
        }

        int countBooked() {
            int count = 0;
            for (int i = 0; i < askCount; i++) {
                if (asks[i].isBooked) {
                    count++;
                }
            }
            return count;
        }
    }

    private static final class Sheet {
        /** 0 while the sheet is MISSING. */
        int bits;
        int size;
        final int[] row = new int[MOST_NUMBERS];

        void begin(int newBits, int newSize) {
            bits = newBits;
            size = newSize;
            Arrays.fill(row, 0);
        }

        boolean isMissing() {
            return bits == 0;
        }

        /** With their sign, in 8 and 16 bits as it must be in 32. */
        int lowestBits(int value) {
            if (bits == 8) {
                return (byte) value;
            }
            return bits == 16 ? (short) value : value;
        }

        boolean hasRun(int from, int count) {
            return from >= 0 && count >= 0 && from <= size - count;
        }

        boolean holdsSpans() {
            for (int i = 0; i < size; i++) {
                if (row[i] < 0 || row[i] > 99) {
                    return false;
                }
            }
            return true;
        }
    }
}
