/** Promises 34 to 38, edge by edge: sheets and their numbers, read() up to where it can be, and what is told. */
public final class SheetEdgesTest {
    private static final int BEYOND = Edges.BEYOND;
    private static final int MISSING = Edges.MISSING;
    private static final int SIZE = Edges.SIZE;
    private static final int KIND = Edges.KIND;
    private static final int MIN = Edges.MIN;
    private static final int MAX = Edges.MAX;
    private static final Edges EDGES = new Edges();

    /** Sheet 0 has 4 numbers of 8 bits (38 to 41), sheet 1 has 6, sheet 2 has 3 of 16 bits, sheet 3 is MISSING. */
    private static final Edges.Deed BUSY = Edges.BUSY;
    private static final Edges.Deed FULL_HOUSE = Edges.FULL_HOUSE;

    private static final int[] NO_SHEET = {-1, -2, 4, 5, 31, 32, 64, MIN, MAX};
    private static final int[] NO_BITS = {-1, -8, 1, 4, 7, 9, 15, 17, 24, 31, 33, 64, MIN, MAX};

    private static void sheet() {
        EDGES.promise(34);
        for (int s : NO_SHEET) {
            EDGES.refuses("sheet(" + s + ", 8, 1)", BEYOND, BUSY, x -> x.sheet(s, 8, 1));
            EDGES.refuses("sheet(" + s + ", 8, -1): BEYOND ahead of SIZE", BEYOND, BUSY, x -> x.sheet(s, 8, -1));
            EDGES.refuses("sheet(" + s + ", 0, 0)", BEYOND, BUSY, x -> x.sheet(s, 0, 0));
        }
        for (int bits : NO_BITS) {
            EDGES.refuses("sheet(0, " + bits + ", 1)", BEYOND, BUSY, x -> x.sheet(0, bits, 1));
            EDGES.refuses("sheet(0, " + bits + ", -1): BEYOND ahead of SIZE", BEYOND, BUSY, x -> x.sheet(0, bits, -1));
            EDGES.refuses("sheet(3, " + bits + ", 0)", BEYOND, BUSY, x -> x.sheet(3, bits, 0));
        }
        for (int bits : new int[] {0, 8, 16, 32}) {
            for (int s = 0; s < 4; s++) {
                sheetOf(s, bits);
            }
        }
        EDGES.answers("the same again: all 0", 0, BUSY.then(x -> x.sheet(0, 8, 4)), x -> x.write(0, 1, 1));
        EDGES.answers("more numbers: all 0", 0, BUSY.then(x -> x.sheet(0, 8, 10)), x -> x.write(0, 1, 1));
        EDGES.answers("fewer, then more: all 0", 0,
                BUSY.then(x -> x.sheet(0, 8, 1)).then(x -> x.sheet(0, 8, 4)), x -> x.write(0, 3, 1));
        EDGES.answers("MISSING, then again: all 0", 0,
                BUSY.then(x -> x.sheet(0, 0, 4)).then(x -> x.sheet(0, 8, 4)), x -> x.write(0, 3, 1));
        EDGES.answers("other sheets stay", 39, BUSY.then(x -> x.sheet(1, 8, 10)), x -> x.write(0, 1, 1));
        EDGES.asksOnly("MISSING as before", 0, BUSY, x -> x.sheet(3, 0, 0));
        EDGES.asksOnly("MISSING as before, of 10", 0, BUSY, x -> x.sheet(3, 0, 10));
    }

    private static void sheetOf(int s, int bits) {
        for (int n : new int[] {-1, -2, -10, MIN}) {
            EDGES.refuses("sheet(" + s + ", " + bits + ", " + n + ")", SIZE, BUSY, x -> x.sheet(s, bits, n));
        }
        for (int n : new int[] {11, 12, 100, MAX}) {
            EDGES.refuses("sheet(" + s + ", " + bits + ", " + n + ")", BEYOND, BUSY, x -> x.sheet(s, bits, n));
        }
        for (int n = 0; n <= 10; n++) {
            int count = n;
            String name = "sheet(" + s + ", " + bits + ", " + n + ")";
            Edges.Deed made = BUSY.then(x -> x.sheet(s, bits, count));
            EDGES.answers(name, bits == 0 ? 0 : n, BUSY, x -> x.sheet(s, bits, count));
            if (bits == 0) {
                EDGES.refuses(name + ": it is MISSING", MISSING, made, x -> x.write(s, 0, 1));
                continue;
            }
            if (n > 0) {
                EDGES.answers(name + ": its last number is 0", 0, made, x -> x.write(s, count - 1, 1));
            }
            EDGES.refuses(name + ": it has no more numbers", BEYOND, made, x -> x.write(s, count, 1));
        }
    }

    private static void write() {
        EDGES.promise(35);
        for (int s : NO_SHEET) {
            EDGES.refuses("write(" + s + ", 0, 1)", BEYOND, BUSY, x -> x.write(s, 0, 1));
        }
        for (int i : new int[] {-1, 0, 10, MIN, MAX}) {
            EDGES.refuses("write(3, " + i + ", 1): MISSING ahead of BEYOND", MISSING, BUSY, x -> x.write(3, i, 1));
        }
        for (int i : new int[] {-1, -2, 4, 5, 9, 10, 32, MIN, MAX}) {
            EDGES.refuses("write(0, " + i + ", 1)", BEYOND, BUSY, x -> x.write(0, i, 1));
        }
        for (int i : new int[] {-1, 10, 11}) {
            EDGES.refuses("write(3, " + i + ", 1) of ten", BEYOND, FULL_HOUSE, x -> x.write(3, i, 1));
        }
        EDGES.refuses("write(0, 0, 1) of none", BEYOND, x -> x.sheet(0, 8, 0), x -> x.write(0, 0, 1));
        EDGES.answers("the first number: what it was", 38, BUSY, x -> x.write(0, 0, 1));
        EDGES.answers("the last number: what it was", 41, BUSY, x -> x.write(0, 3, 1));
        EDGES.answers("the tenth number: what it was", 102, FULL_HOUSE, x -> x.write(3, 9, 1));
        EDGES.answers("the number below stays", 38, BUSY.then(x -> x.write(0, 1, -1)), x -> x.write(0, 0, 1));
        EDGES.answers("the number above stays", 40, BUSY.then(x -> x.write(0, 1, -1)), x -> x.write(0, 2, 1));
        EDGES.answers("the same number of another sheet stays", 0, BUSY.then(x -> x.write(0, 1, -1)),
                x -> x.write(1, 1, 1));
        EDGES.asksOnly("the same value", 39, BUSY, x -> x.write(0, 1, 39));
        EDGES.asksOnly("the same value but for the bits above 8", 39, BUSY, x -> x.write(0, 1, 39 + 256));
    }

    private static void writeKeepsTheLowestBits() {
        EDGES.promise(35);
        int[][] inBits = {{0, 0, 0}, {1, 1, 1}, {-1, -1, -1}, {127, 127, 127}, {128, -128, 128}, {129, -127, 129},
            {255, -1, 255}, {256, 0, 256}, {257, 1, 257}, {-128, -128, -128}, {-129, 127, -129}, {-256, 0, -256},
            {32767, -1, 32767}, {32768, 0, -32768}, {32769, 1, -32767}, {65535, -1, -1}, {65536, 0, 0}, {65537, 1, 1},
            {-32768, 0, -32768}, {-32769, -1, 32767}, {-65536, 0, 0}, {MAX, -1, -1}, {MIN, 0, 0}, {MIN + 1, 1, 1},
            {-1000001, -65, -16961}};
        for (int[] v : inBits) {
            wrote(8, v[0], v[1]);
            wrote(16, v[0], v[2]);
            wrote(32, v[0], v[0]);
        }
    }

    /** Also where what it was is below -1000000: the act was not refused, so it is no finding. */
    private static void wrote(int bits, int value, int wanted) {
        EDGES.answers(value + " in " + bits + " bits", wanted,
                x -> {
                    x.sheet(0, bits, 3);
                    x.write(0, 1, value);
                }, x -> x.write(0, 1, 0));
    }

    private static void copyRefuses() {
        EDGES.promise(36);
        for (int s : NO_SHEET) {
            EDGES.refuses("copy from sheet " + s, BEYOND, BUSY, x -> x.copy(s, 0, 0, 0, 1));
            EDGES.refuses("copy to sheet " + s, BEYOND, BUSY, x -> x.copy(0, 0, s, 0, 1));
            EDGES.refuses("copy from sheet " + s + " to one that is MISSING", BEYOND, BUSY, x -> x.copy(s, 0, 3, 0, 1));
            EDGES.refuses("copy to sheet " + s + " from one that is MISSING", BEYOND, BUSY, x -> x.copy(3, 0, s, 0, 1));
        }
        EDGES.refuses("from one that is MISSING", MISSING, BUSY, x -> x.copy(3, 0, 0, 0, 1));
        EDGES.refuses("to one that is MISSING", MISSING, BUSY, x -> x.copy(0, 0, 3, 0, 1));
        EDGES.refuses("both are MISSING", MISSING, BUSY, x -> x.copy(3, 0, 3, 0, 1));
        EDGES.refuses("none from one that is MISSING", MISSING, BUSY, x -> x.copy(3, 0, 0, 0, 0));
        EDGES.refuses("MISSING ahead of BEYOND", MISSING, BUSY, x -> x.copy(0, -1, 3, -1, -1));
        EDGES.refuses("MISSING ahead of BEYOND, the other way", MISSING, BUSY, x -> x.copy(3, 99, 0, 99, 99));
        EDGES.refuses("8 bits to 16", KIND, BUSY, x -> x.copy(0, 0, 2, 0, 1));
        EDGES.refuses("16 bits to 8", KIND, BUSY, x -> x.copy(2, 0, 0, 0, 1));
        EDGES.refuses("16 bits to 32", KIND, BUSY.then(x -> x.sheet(3, 32, 3)), x -> x.copy(2, 0, 3, 0, 1));
        EDGES.refuses("none of 8 bits to 16", KIND, BUSY, x -> x.copy(0, 0, 2, 0, 0));
        EDGES.refuses("KIND ahead of BEYOND: n", KIND, BUSY, x -> x.copy(0, 0, 2, 0, -1));
        EDGES.refuses("KIND ahead of BEYOND: from", KIND, BUSY, x -> x.copy(0, -1, 2, 0, 1));
        EDGES.refuses("KIND ahead of BEYOND: too many", KIND, BUSY, x -> x.copy(0, 0, 2, 0, 10));
    }

    private static void copyRefusesRuns() {
        EDGES.promise(36);
        int[][] beyond = {{-1, 0, 1}, {0, -1, 1}, {0, 0, -1}, {-1, -1, -1}, {-1, 0, 0}, {0, -1, 0}, {4, 0, 1},
            {0, 6, 1}, {5, 0, 0}, {0, 7, 0}, {0, 0, 5}, {1, 0, 4}, {3, 0, 2}, {0, 3, 4}, {0, 5, 2}, {0, 6, 1},
            {5, 0, -1}, {0, 7, -1}, {MAX, 0, 1}, {0, MAX, 1}, {0, 0, MAX}, {MAX, MAX, MAX}, {MIN, 0, 1}, {0, MIN, 1},
            {0, 0, MIN}, {MIN, MIN, MIN}, {1, 0, MAX}, {0, 1, MAX}, {MAX, 0, 2}, {0, MAX, 2}, {MIN, 0, MAX},
            {MAX, 0, MIN}};
        for (int[] c : beyond) {
            EDGES.refuses("copy(0, " + c[0] + ", 1, " + c[1] + ", " + c[2] + ")", BEYOND, BUSY,
                    x -> x.copy(0, c[0], 1, c[1], c[2]));
        }
        EDGES.refuses("more than it has from the larger sheet", BEYOND, BUSY, x -> x.copy(1, 0, 0, 0, 5));
        EDGES.refuses("more than there is to itself", BEYOND, BUSY, x -> x.copy(0, 0, 0, 1, 4));
        EDGES.refuses("from a sheet of none", BEYOND, BUSY.then(x -> x.sheet(3, 8, 0)), x -> x.copy(3, 0, 0, 0, 1));
        EDGES.refuses("to a sheet of none", BEYOND, BUSY.then(x -> x.sheet(3, 8, 0)), x -> x.copy(0, 0, 3, 0, 1));
    }

    private static void copy() {
        EDGES.promise(36);
        copied("all of it", 4, 0, 1, 0, new int[] {38, 39, 40, 41, 15, 0});
        copied("to the end", 4, 0, 1, 2, new int[] {0, 0, 38, 39, 40, 41});
        copied("the last one to the last one", 1, 3, 1, 5, new int[] {0, 0, 5, 10, 15, 41});
        copied("the first one to the first one", 1, 0, 1, 0, new int[] {38, 0, 5, 10, 15, 0});
        copied("none", 0, 0, 1, 0, new int[] {0, 0, 5, 10, 15, 0});
        copied("none, from and to behind the last", 0, 4, 1, 6, new int[] {0, 0, 5, 10, 15, 0});
        copied("to itself, up: as they all were", 3, 0, 0, 1, new int[] {38, 38, 39, 40});
        copied("to itself, down: as they all were", 3, 1, 0, 0, new int[] {39, 40, 41, 41});
        copied("to itself, where it is", 4, 0, 0, 0, new int[] {38, 39, 40, 41});
        EDGES.answers("the sheet it came from stays", 39, BUSY.then(x -> x.copy(0, 0, 1, 0, 4)), x -> x.write(0, 1, 0));
        EDGES.answers("a copy is by itself", 39,
                BUSY.then(x -> x.copy(0, 0, 1, 0, 4)).then(x -> x.write(0, 1, 7)), x -> x.write(1, 1, 0));
        EDGES.answers("all ten of 32 bits", 10, FULL_HOUSE, x -> x.copy(3, 0, 0, 0, 10));
        EDGES.answers("the tenth of them", 102, FULL_HOUSE.then(x -> x.copy(3, 0, 0, 0, 10)), x -> x.write(0, 9, 0));
        EDGES.answers("none of none", 0, x -> {
            x.sheet(0, 16, 0);
            x.sheet(1, 16, 0);
        }, x -> x.copy(0, 0, 1, 0, 0));
        EDGES.answers("a number below 0", -3000, BUSY.then(x -> x.sheet(3, 16, 1)).then(x -> x.copy(2, 1, 3, 0, 1)),
                x -> x.write(3, 0, 0));
    }

    /** From sheet 0 to a sheet: its numbers behind it. */
    private static void copied(String name, int n, int from, int t, int to, int[] wanted) {
        EDGES.answers(name, n, BUSY, x -> x.copy(0, from, t, to, n));
        for (int i = 0; i < wanted.length; i++) {
            int asked = i;
            EDGES.answers(name + ": number " + i, wanted[i], BUSY.then(x -> x.copy(0, from, t, to, n)),
                    x -> x.write(t, asked, 0));
        }
    }

    private static Edges.Deed written(int pupils, int bits, int... numbers) {
        return Edges.school(pupils, 0).then(x -> {
            x.sheet(0, bits, numbers.length);
            for (int i = 0; i < numbers.length; i++) {
                x.write(0, i, numbers[i]);
            }
        });
    }

    private static void readRefuses() {
        EDGES.promise(37);
        for (int s : NO_SHEET) {
            EDGES.refuses("read(" + s + ")", BEYOND, BUSY, x -> x.read(s));
        }
        EDGES.refuses("MISSING", MISSING, BUSY, x -> x.read(3));
        EDGES.refuses("MISSING again", MISSING, BUSY.then(x -> x.sheet(0, 0, 0)), x -> x.read(0));
        EDGES.refuses("one number more than PUPILS", BEYOND, written(2, 8, 55, 55, 55), x -> x.read(0));
        EDGES.refuses("one number, no PUPILS", BEYOND, written(0, 8, 9), x -> x.read(0));
        EDGES.refuses("ten numbers, nine PUPILS", BEYOND, written(9, 8, 9, 9, 9, 9, 9, 9, 9, 9, 9, 9), x -> x.read(0));
        for (int value : new int[] {100, 101, 127, -1, -99}) {
            for (int bits : new int[] {8, 16, 32}) {
                String name = value + " in " + bits + " bits";
                EDGES.refuses(name + " first", BEYOND, written(2, bits, value, 55), x -> x.read(0));
                EDGES.refuses(name + " behind what could be", BEYOND, written(2, bits, 55, value), x -> x.read(0));
                EDGES.refuses(name + " behind what can't be", BEYOND, written(2, bits, 10, value), x -> x.read(0));
            }
        }
        for (int value : new int[] {1000, 32767, -32768}) {
            EDGES.refuses(value + " in 16 bits", BEYOND, written(1, 16, value), x -> x.read(0));
        }
        EDGES.refuses("MIN in 32 bits", BEYOND, written(1, 32, MIN), x -> x.read(0));
        EDGES.refuses("MAX in 32 bits", BEYOND, written(1, 32, MAX), x -> x.read(0));
        EDGES.refuses("200 in 8 bits", BEYOND, written(1, 8, 200), x -> x.read(0));
        EDGES.answers("256 in 8 bits is 0", 1, written(1, 8, 256), x -> x.read(0));
    }

    private static void read() {
        EDGES.promise(37);
        EDGES.answers("a sheet of none, no PUPILS", 0, written(0, 8), x -> x.read(0));
        EDGES.asksOnly("a sheet of none, PUPILS", 0, written(3, 32), x -> x.read(0));
        EDGES.answers("as many as PUPILS", 2, written(2, 8, 9, 9), x -> x.read(0));
        EDGES.answers("fewer than PUPILS", 2, written(3, 8, 55, 55), x -> x.read(0));
        EDGES.answers("fewer than PUPILS: the third stays", 0, written(3, 8, 55, 55).then(x -> x.read(0)),
                x -> x.of(2, 3));
        EDGES.answers("ten", 10, written(10, 32, 0, 9, 99, 0, 9, 99, 0, 9, 99, 0), x -> x.read(0));
        for (int number = 0; number < 100; number++) {
            int low = number / 10;
            int high = number % 10;
            boolean can = low <= high;
            Edges.Deed given = written(1, 8, number);
            EDGES.answers("read of " + number, can ? 1 : 0, given, x -> x.read(0));
            EDGES.answers(number + ": LOW", can ? low : 0, given.then(x -> x.read(0)), x -> x.of(0, 3));
            EDGES.answers(number + ": HIGH", can ? high : 9, given.then(x -> x.read(0)), x -> x.of(0, 4));
        }
        EDGES.asksOnly("a low above its high at once: none, no finding", 0, written(2, 8, 10, 55), x -> x.read(0));
        Edges.Deed turned = written(3, 8, 55, 98, 55);
        EDGES.answers("a low above its high in the middle", 1, turned, x -> x.read(0));
        EDGES.answers("what was ahead of it was seen", 5, turned.then(x -> x.read(0)), x -> x.of(0, 3));
        EDGES.answers("it was not seen itself", 0, turned.then(x -> x.read(0)), x -> x.of(1, 3));
        EDGES.answers("what is behind it was not seen", 0, turned.then(x -> x.read(0)), x -> x.of(2, 3));
        Edges.Deed apart = written(3, 8, 24, 89, 24).then(x -> x.saw(1, 3, 7));
        EDGES.answers("nothing in common in the middle", 1, apart, x -> x.read(0));
        EDGES.answers("nothing in common: the span stays", 7, apart.then(x -> x.read(0)), x -> x.of(1, 4));
        EDGES.answers("nothing in common: what is behind it was not seen", 0, apart.then(x -> x.read(0)),
                x -> x.of(2, 3));
        EDGES.answers("one SKILL in common above", 3, written(3, 8, 24, 79, 24).then(x -> x.saw(1, 3, 7)),
                x -> x.read(0));
        EDGES.answers("one SKILL in common below", 3, written(3, 8, 24, 3, 24).then(x -> x.saw(1, 3, 7)),
                x -> x.read(0));
        EDGES.answers("its span becomes what both have", 3,
                written(3, 8, 24, 3, 24).then(x -> x.saw(1, 3, 7)).then(x -> x.read(0)), x -> x.of(1, 4));
        EDGES.answers("what can't be is no finding", 0, turned.then(x -> x.read(0)), x -> x.told(6));
        EDGES.answers("the sheet stays", 98, turned.then(x -> x.read(0)), x -> x.write(0, 1, 0));
        EDGES.asksOnly("the same read twice", 1, turned.then(x -> x.read(0)), x -> x.read(0));
        EDGES.answers("one that is not HERE is seen, too", 1, written(1, 8, 55).then(x -> x.here(0, false)),
                x -> x.read(0));
    }

    private static void told() {
        EDGES.promise(38);
        for (int what : new int[] {-1, -2, 7, 8, 32, MIN, MAX}) {
            EDGES.refuses("told(" + what + ")", BEYOND, BUSY, x -> x.told(what));
        }
        int[] busy = {6, 3, 2, 3, 4, 2, 0};
        int[] full = {10, 5, 3, 6, 8, 2, 0};
        for (int what = 0; what < 7; what++) {
            int asked = what;
            EDGES.asksOnly("told(" + what + ")", busy[what], BUSY, x -> x.told(asked));
            EDGES.asksOnly("told(" + what + ") of a full house", full[what], FULL_HOUSE, x -> x.told(asked));
        }
        EDGES.leaves("one that answers a finding counts, too", 1, BUSY.then(x -> x.told(7)), x -> x.told(6));
        EDGES.leaves("told(6) is none itself", 1, BUSY.then(x -> x.told(7)).then(x -> x.told(6)), x -> x.told(6));
        EDGES.leaves("the same one twice counts twice", 2, BUSY.then(x -> x.told(7)).then(x -> x.told(7)),
                x -> x.told(6));
        EDGES.leaves("findings of all seven names", 7, BUSY.then(x -> {
            x.told(7);
            for (int i = 0; i < 4; i++) {
                x.slope(0, 1, 0);
            }
            x.slope(0, 1, 0);
            x.back(0);
            x.level(6);
            x.book(0);
            x.read(3);
            x.sheet(0, 8, -1);
        }), x -> x.told(6));
        EDGES.leaves("511 findings, the most before told(6)", 511, x -> {
            for (int i = 0; i < 511; i++) {
                x.told(7);
            }
        }, x -> x.told(6));
    }

    public static void main(String[] args) {
        sheet();
        write();
        writeKeepsTheLowestBits();
        copyRefuses();
        copyRefusesRuns();
        copy();
        readRefuses();
        read();
        told();
        System.exit(EDGES.end());
    }
}
