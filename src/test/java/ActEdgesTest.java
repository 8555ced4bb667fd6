/** The limits that part 4 of the document and promises 18 to 22, 37, 40 and 41 name, sentence by sentence. */
public final class ActEdgesTest {
    private static final int STATE = Edge.STATE, NONE = Edge.NONE, CAST = Edge.CAST, INDEX = Edge.INDEX, STORE = Edge.STORE;
    private static final long LEAST = Long.MIN_VALUE, MOST = Long.MAX_VALUE;

    public static void main(String[] args) {
        copiesToTheEdge();
        copiesOfEachKind();
        copiesWithinAPlane();
        lastRowFirst();
        copiesOfNothing();
        stopsAheadOfARow();
        stopsByPairs();
        stopsFromTheLastRow();
        copiesOfUnlikeKinds();
        rowsThatCame();
        wholeNumbers();
        wholeNumbersFarOut();
        signs();
        halvesAndDoubles();
        gradesThatCount();
        masksThatTellOne();
        masksOfEachKind();
        whatIsAnAct();
        whatIsNoAct();
        theLatestTwenty();
        twentyOfManyKinds();
        actsForgotten();
        jobsAsActs();
        jobsOfAllTiles();
        whatStays();
        undoneRows();
        counts();
        Check.end();
    }

    /** "OUTSIDE: w, h not 1 .. 32, or beyond a PLANE"; "How many rows came (h)". */
    private static void copiesToTheEdge() {
        RasterHouse r = new RasterHouse();
        r.plane(5, 32, 32);
        r.plane(5, 32, 32);
        r.put(0, 0, 0, 1);
        r.put(0, 31, 31, 2);
        Check.due("32 by 32", r.copy(0, 0, 0, 32, 32, 1, 0, 0), 32);
        Check.due("all alike", r.compare(0, 1, 0), 0);
        Check.due("all its TILES", r.size(1, 3), 16);
        Check.due("1 by 1, from the last to the first", r.copy(0, 31, 31, 1, 1, 1, 0, 0), 1);
        Check.due("1 by 1", r.dot(1, 0, 0), 2);
        Check.due("beside it", r.dot(1, 1, 0), 0);
        Check.due("below it", r.dot(1, 0, 1), 0);
        Check.due("to the last", r.copy(0, 0, 0, 1, 1, 1, 31, 31), 1);
        Check.due("to the last", r.dot(1, 31, 31), 1);
        int[][] beyond = {{1, 0, 32, 1, 0, 0}, {0, 1, 1, 32, 0, 0}, {31, 0, 2, 1, 0, 0}, {0, 31, 1, 2, 0, 0},
            {0, 0, 32, 1, 1, 0}, {0, 0, 1, 32, 0, 1}, {0, 0, 2, 1, 31, 0}, {0, 0, 1, 2, 0, 31}};
        for (int[] b : beyond) Check.due("beyond", r.copy(0, b[0], b[1], b[2], b[3], 1, b[4], b[5]), Edge.OUTSIDE);
        Check.due("one row", r.copy(0, 0, 31, 32, 1, 1, 0, 5), 1);
        Check.due("one column", r.copy(0, 31, 0, 1, 32, 1, 5, 0), 32);
        Check.due("the row", r.dot(1, 31, 5), 2);
        Check.due("the column", r.dot(1, 5, 31), 2);
    }

    /** Cells go as they are: also what is no number, infinite, or -0.0. */
    private static void copiesOfEachKind() {
        for (int kind = 0; kind < 8; kind++) {
            RasterHouse r = new RasterHouse();
            r.plane(kind, 3, 1);
            r.plane(kind, 3, 1);
            r.put(0, 0, 0, MOST);
            r.put(0, 1, 0, LEAST);
            Check.due("rows", r.copy(0, 0, 0, 3, 1, 1, 0, 0), 1);
            Check.due("kind " + kind, r.compare(0, 1, 0), 0);
            Check.due("no FAULT", r.finding(), 0);
        }
        for (int kind = 6; kind < 8; kind++) {
            RasterHouse r = new RasterHouse();
            r.plane(kind, 4, 2);
            r.spoil(0, 0, 0);
            r.put(0, 1, 0, 1);
            r.grade(0, 6);
            r.grade(0, 5);
            r.copy(0, 0, 0, 4, 1, 0, 0, 1);
            Check.due("no number", r.sort(0, 0, 1), 3);
            Check.number("finer than eighths", r.glow(0, 1, 1), -0.0625);
            Check.number("-0.0", r.glow(0, 2, 1), -0.0);
            r.copy(0, 3, 0, 1, 1, 0, 0, 1);
            Check.due("a number again", r.sort(0, 0, 1), 0);
            for (int i = 0; i < 4; i++) r.put(0, 3, 0, MOST);
            for (int i = 0; i < 70; i++) r.grade(0, 7);
            r.copy(0, 3, 0, 1, 1, 0, 3, 1);
            Check.due("as great", r.sort(0, 3, 1), kind == 6 ? 1 : 0);
            Check.number("as great", r.glow(0, 3, 1), r.glow(0, 3, 0));
        }
    }

    /** 4 by 4 DOTS that tell 10 y + x + 1. */
    private static RasterHouse square() {
        RasterHouse r = new RasterHouse();
        r.plane(5, 4, 4);
        for (int y = 0; y < 4; y++) for (int x = 0; x < 4; x++) r.put(0, x, y, 10 * y + x + 1);
        return r;
    }

    private static void tells(String what, RasterHouse r, int... due) {
        for (int i = 0; i < 16; i++) Check.due(what + ", dot " + i % 4 + ", " + i / 4, r.dot(0, i % 4, i / 4), due[i]);
    }

    /** "row by row, each row as it was ahead of itself; the last row first, if it is the same PLANE and v above y". */
    private static void copiesWithinAPlane() {
        RasterHouse right = square();
        Check.due("right", right.copy(0, 0, 0, 3, 4, 0, 1, 0), 4);
        tells("right", right, 1, 1, 2, 3, 11, 11, 12, 13, 21, 21, 22, 23, 31, 31, 32, 33);
        RasterHouse left = square();
        Check.due("left", left.copy(0, 1, 0, 3, 4, 0, 0, 0), 4);
        tells("left", left, 2, 3, 4, 4, 12, 13, 14, 14, 22, 23, 24, 24, 32, 33, 34, 34);
        RasterHouse down = square();
        Check.due("down", down.copy(0, 0, 0, 4, 3, 0, 0, 1), 3);
        tells("down", down, 1, 2, 3, 4, 1, 2, 3, 4, 11, 12, 13, 14, 21, 22, 23, 24);
        RasterHouse up = square();
        Check.due("up", up.copy(0, 0, 1, 4, 3, 0, 0, 0), 3);
        tells("up", up, 11, 12, 13, 14, 21, 22, 23, 24, 31, 32, 33, 34, 31, 32, 33, 34);
        RasterHouse both = square();
        Check.due("down and right", both.copy(0, 0, 0, 3, 3, 0, 1, 1), 3);
        tells("down and right", both, 1, 2, 3, 4, 11, 1, 2, 3, 21, 11, 12, 13, 31, 21, 22, 23);
        RasterHouse back = square();
        Check.due("up and left", back.copy(0, 1, 1, 3, 3, 0, 0, 0), 3);
        tells("up and left", back, 12, 13, 14, 4, 22, 23, 24, 14, 32, 33, 34, 24, 31, 32, 33, 34);
        RasterHouse same = square();
        Check.due("onto itself", same.copy(0, 0, 0, 4, 4, 0, 0, 0), 4);
        tells("onto itself", same, 1, 2, 3, 4, 11, 12, 13, 14, 21, 22, 23, 24, 31, 32, 33, 34);
    }

    /** Which row is first shows where it stops: two PLANES, and v not above y, begin at the top. */
    private static void lastRowFirst() {
        // rows 0 to 7 are there, of rows 8 to 15 those up to row 11
        for (int way = 0; way < 4; way++) {
            RasterHouse r = new RasterHouse();
            r.plane(1, 8, 16);
            r.plane(1, 8, 16);
            r.tile(0, 0, 1, 1, 32);
            int from = way == 1 ? 1 : 0, y = way == 3 ? 1 : 0, v = way == 0 ? 1 : way == 1 ? 1 : way == 2 ? 0 : 0;
            int came = r.copy(from, 0, y, 8, 15, 0, 0, v);
            Check.due("it stops, way " + way, came, INDEX);
            // way 0, v above y: row 14 to row 15 is none; 1, another plane: rows 0 to 10 came to rows 1 to 11;
            // 2, v is y: rows 0 to 11; 3, v below y: rows 1 to 11
            Check.due("rows, way " + way, r.copied(), new int[] {0, 11, 12, 11}[way]);
        }
    }

    /** A TILE that is NOTHING gives its BLANK; one that is to become something becomes a ROW. */
    private static void copiesOfNothing() {
        RasterHouse r = new RasterHouse();
        r.plane(3, 16, 8);
        r.plane(3, 16, 8);
        r.blank(0, 7);
        r.blank(1, 9);
        Check.due("rows", r.copy(0, 8, 0, 1, 8, 1, 15, 0), 8);
        Check.due("it stays NOTHING", r.size(0, 3), 0);
        Check.due("one ROW", r.size(1, 3), 1);
        Check.due("the BLANK of the first", r.dot(1, 15, 7), 7);
        Check.due("the BLANK of its own", r.dot(1, 14, 7), 9);
        Check.due("rows", r.copy(0, 0, 0, 1, 1, 0, 0, 0), 1);
        Check.due("onto itself it becomes a ROW", r.size(0, 3), 1);
    }

    /** "It stops ahead of a row of which a DOT .. is a HOLE: STORE (a TILE's ROW is of another KIND), INDEX." */
    private static void stopsAheadOfARow() {
        for (int side = 0; side < 2; side++) {
            for (int fault : new int[] {STORE, INDEX}) {
                for (int cells : new int[] {0, 1, 31}) {
                    RasterHouse r = new RasterHouse();
                    r.plane(1, 16, 16);
                    r.plane(1, 16, 16);
                    r.blank(0, 5);
                    r.tile(side, 1, 1, fault == STORE ? 3 : 1, cells);
                    Check.due("it stops", r.copy(0, 0, 0, 16, 16, 1, 0, 0), fault);
                    Check.due("finding", r.finding(), -10 - fault);
                    int came = fault == STORE ? 8 : 8 + cells / 8;
                    Check.due("rows", r.copied(), came);
                    Check.due("the last that came", r.dot(1, 0, came - 1), 5);
                    Check.due("the next did not, nor any DOT of it", r.dot(1, 0, came), 0);
                    Check.due("an ACT", r.told(2), 2);
                    Check.due("its UNITS", r.told(4), 16);
                    r.undo();
                    Check.due("taken back", r.dot(1, 0, came - 1), 0);
                    Check.due("copied() is not", r.copied(), came);
                }
            }
        }
        RasterHouse r = new RasterHouse();
        r.plane(1, 8, 8);
        r.tile(0, 0, 0, 1, 0);
        Check.due("ahead of the first row", r.copy(0, 0, 0, 1, 1, 0, 1, 1), INDEX);
        Check.due("no row", r.copied(), 0);
        Check.due("an ACT, also if it changes nothing", r.told(2), 2);
        Check.due("its UNITS", r.told(4), 16);
        Check.due("holes beside it are none", r.copy(0, 0, 0, 1, 1, 0, 0, 0), INDEX);
        r.tile(0, 0, 0, 1, 2);
        Check.due("holes beside it are none", r.copy(0, 0, 0, 1, 1, 0, 1, 0), 1);
        RasterHouse q = new RasterHouse();
        q.plane(1, 24, 24);
        q.plane(1, 24, 24);
        for (int i = 0; i < 9; i++) if (i != 4) q.tile(i % 2, i % 3, i / 3, 5, 64);
        for (int i = 0; i < 9; i++) if (i != 4) q.tile(1 - i % 2, i % 3, i / 3, 1, 0);
        Check.due("holes all around are none", q.copy(0, 8, 8, 8, 8, 1, 8, 8), 8);
    }

    /** "(by pairs from the left, of the first PLANE, then the other)". */
    private static void stopsByPairs() {
        // first has CAST at x 8 on (tile 1), other has INDEX at x 8 on
        for (int shift = -1; shift <= 1; shift++) {
            RasterHouse r = new RasterHouse();
            r.plane(1, 16, 8);
            r.plane(1, 16, 8);
            r.tile(0, 1, 0, 3, 64);
            r.tile(1, 1, 0, 1, 0);
            // the pair of first's x 8 is with other's x 8 + shift: with shift 1 the other's hole comes one pair ahead
            int got = r.copy(0, 1, 0, 12, 1, 1, 1 + shift, 0);
            Check.due("the first HOLE of all pairs, shift " + shift, got, shift > 0 ? INDEX : STORE);
            int back = r.copy(1, 1, 0, 12, 1, 0, 1 + shift, 0);
            Check.due("the other way, shift " + shift, back, shift > 0 ? STORE : INDEX);
        }
    }

    /** With the last row first it stops from below. */
    private static void stopsFromTheLastRow() {
        RasterHouse r = new RasterHouse();
        r.plane(5, 8, 24);
        for (int y = 0; y < 24; y++) r.put(0, 0, y, y + 1);
        r.tile(0, 0, 0, 4, 64);
        // rows 4 to 18 go to rows 5 to 19, from below: rows 18 to 8 come, row 7 is a HOLE
        Check.due("it stops", r.copy(0, 0, 4, 8, 15, 0, 0, 5), STORE);
        Check.due("rows", r.copied(), 11);
        Check.due("the last row", r.dot(0, 0, 19), 19);
        Check.due("the first that came", r.dot(0, 0, 9), 9);
        Check.due("the next did not", r.dot(0, 0, 8), 9);
        r.undo();
        Check.due("taken back", r.dot(0, 0, 19), 20);
        r.redo();
        Check.due("done again", r.dot(0, 0, 19), 19);
    }

    /** "CAST: PLANES of unlike KINDS (no row comes)", for each two KINDS. */
    private static void copiesOfUnlikeKinds() {
        for (int a = 0; a < 8; a++) {
            for (int b = 0; b < 8; b++) {
                RasterHouse r = new RasterHouse();
                r.plane(a, 4, 4);
                r.plane(b, 4, 4);
                r.plane(a, 4, 4);
                r.put(0, 0, 0, 1);
                r.copy(0, 0, 0, 1, 3, 2, 0, 0);
                Check.due("kinds " + a + ", " + b, r.copy(0, 0, 0, 2, 2, 1, 0, 0), a == b ? 2 : CAST);
                Check.due("finding", r.finding(), a == b ? 0 : 2);
                Check.due("copied", r.copied(), a == b ? 2 : 0);
                Check.due("NOTHING yet", r.size(1, 3), a == b ? 1 : 0);
                Check.due("an ACT or none", r.told(2), a == b ? 3 : 2);
                Check.due("UNITS or none", r.told(4), a == b ? 32 : 16);
            }
        }
        RasterHouse r = new RasterHouse();
        r.plane(1, 8, 8);
        r.plane(4, 8, 8);
        r.tile(0, 0, 0, 4, 64);
        Check.due("by the PLANES' KINDS, not the ROW's", r.copy(0, 0, 0, 1, 1, 1, 0, 0), CAST);
        Check.due("its own KIND is STORE", r.copy(0, 0, 0, 1, 1, 0, 1, 1), STORE);
    }

    /** "How many rows came by the latest copy() that was not refused." */
    private static void rowsThatCame() {
        RasterHouse r = new RasterHouse();
        Check.due("ahead of any", r.copied(), 0);
        r.plane(1, 8, 8);
        r.plane(2, 8, 8);
        r.copy(0, 0, 0, 1, 5, 0, 1, 0);
        Check.due("5", r.copied(), 5);
        r.copy(0, 0, 0, 1, 9, 0, 1, 0);
        r.copy(9, 0, 0, 1, 1, 0, 1, 0);
        r.copy(0, 8, 0, 1, 1, 0, 1, 0);
        Check.due("refused ones leave it", r.copied(), 5);
        r.undo();
        Check.due("undo leaves it", r.copied(), 5);
        r.shape(0);
        r.begin(0, NONE, 0, 0);
        r.copy(0, 0, 0, 1, 1, 0, 1, 0);
        Check.due("refused during a JOB", r.copied(), 5);
        r.halt();
        r.copy(0, 0, 0, 1, 1, 1, 0, 0);
        Check.due("CAST is not refused: no row came", r.copied(), 0);
        r.copy(0, 0, 0, 1, 8, 0, 1, 0);
        Check.due("8", r.copied(), 8);
    }

    private static void grade(int what, double[] from, double[] due) {
        for (int kind = 6; kind < 8; kind++) {
            RasterHouse r = new RasterHouse();
            r.plane(kind, from.length, 1);
            int unlike = 0;
            for (int x = 0; x < from.length; x++) {
                r.put(0, x, 0, (long) (from[x] * 8));
                if (from[x] != due[x]) unlike++;
            }
            Check.due("grade " + what + ": how many are another one", r.grade(0, what), unlike);
            for (int x = 0; x < from.length; x++) {
                Check.number("grade " + what + " of " + from[x] + ", kind " + kind, r.glow(0, x, 0), due[x]);
            }
        }
    }

    /** "0 the greatest whole number not above it, 1 the least not below it, 2 the nearest one, of two the even one (0 to 2 keep the sign of what comes to 0)". */
    private static void wholeNumbers() {
        double[] from = {0.125, 0.5, 0.875, 1, 1.5, 2.5, -0.125, -0.5, -0.875, -1, -1.5, -2.5, 0.625, -0.625, 0};
        grade(0, from, new double[] {0, 0, 0, 1, 1, 2, -1, -1, -1, -1, -2, -3, 0, -1, 0});
        grade(1, from, new double[] {1, 1, 1, 1, 2, 3, -0.0, -0.0, -0.0, -1, -1, -2, 1, -0.0, 0});
        grade(2, from, new double[] {0, 0, 1, 1, 2, 2, -0.0, -0.0, -1, -1, -2, -2, 1, -1, 0});
        RasterHouse r = new RasterHouse();
        r.plane(7, 1, 1);
        r.put(0, 0, 0, 0);
        r.grade(0, 5);
        for (int what = 0; what < 3; what++) {
            Check.due("-0.0 is whole", r.grade(0, what), 0);
            Check.number("-0.0 keeps its sign", r.glow(0, 0, 0), -0.0);
        }
    }

    /** Up to where all numbers are whole, and beyond. */
    private static void wholeNumbersFarOut() {
        double[] from = {8388607.5, 8388606.5, -8388607.5, -8388606.5, 8388608, 16777216, 1048576.125, -1048575.875};
        grade(0, from, new double[] {8388607, 8388606, -8388608, -8388607, 8388608, 16777216, 1048576, -1048576});
        grade(1, from, new double[] {8388608, 8388607, -8388607, -8388606, 8388608, 16777216, 1048577, -1048575});
        grade(2, from, new double[] {8388608, 8388606, -8388608, -8388606, 8388608, 16777216, 1048576, -1048576});
        RasterHouse r = new RasterHouse();
        r.plane(7, 6, 1);
        long half = (1L << 51) * 8 + 4;
        long[] words = {half, -half, half + 8, -half - 8, MOST, LEAST};
        double two = 0x1p51;
        double[][] due = {{two, -two - 1, two + 1, -two - 2, 0x1p60, -0x1p60}, {two + 1, -two, two + 2, -two - 1, 0x1p60, -0x1p60},
            {two, -two, two + 2, -two - 2, 0x1p60, -0x1p60}};
        for (int what = 0; what < 3; what++) {
            for (int x = 0; x < 6; x++) r.put(0, x, 0, words[x]);
            Check.due("four are another one", r.grade(0, what), 4);
            for (int x = 0; x < 6; x++) Check.number("grade " + what + ", dot " + x, r.glow(0, x, 0), due[what][x]);
        }
    }

    /** "3 1.0, -1.0 as its sign (0.0, -0.0 itself), 4 itself without sign, 5 turned". */
    private static void signs() {
        double[] from = {0.125, 7, -0.125, -7, 0, 1, -1};
        grade(3, from, new double[] {1, 1, -1, -1, 0, 1, -1});
        grade(4, from, new double[] {0.125, 7, 0.125, 7, 0, 1, 1});
        grade(5, from, new double[] {-0.125, -7, 0.125, 7, -0.0, -1, 1});
        grade(6, from, new double[] {0.0625, 3.5, -0.0625, -3.5, 0, 0.5, -0.5});
        grade(7, from, new double[] {0.25, 14, -0.25, -14, 0, 2, -2});
        for (int kind = 6; kind < 8; kind++) {
            RasterHouse r = new RasterHouse();
            r.plane(kind, 1, 1);
            r.put(0, 0, 0, 0);
            Check.due("0.0 and -0.0 are no other ones (!=)", r.grade(0, 5), 0);
            for (int what : new int[] {3, 6, 7}) {
                Check.due("-0.0 itself", r.grade(0, what), 0);
                Check.number("-0.0 itself", r.glow(0, 0, 0), -0.0);
            }
            r.grade(0, 5);
            Check.number("turned", r.glow(0, 0, 0), 0.0);
            r.grade(0, 5);
            Check.due("without sign it is no other one", r.grade(0, 4), 0);
            Check.number("without sign", r.glow(0, 0, 0), 0.0);
        }
    }

    /** "6 half, 7 twice": at the least float and double, and beyond the greatest. */
    private static void halvesAndDoubles() {
        RasterHouse r = new RasterHouse();
        r.plane(6, 2, 1);
        r.put(0, 0, 0, 1);
        r.put(0, 1, 0, -3);
        for (int i = 0; i < 146; i++) r.grade(0, 6);
        Check.number("2^-149, the least float", r.glow(0, 0, 0), 0x1p-149);
        Check.number("3 times it", r.glow(0, 1, 0), -3 * 0x1p-149);
        Check.due("half of it", r.grade(0, 6), 2);
        Check.number("is 0.0, the even one", r.glow(0, 0, 0), 0.0);
        Check.number("half of 3 is 2", r.glow(0, 1, 0), -2 * 0x1p-149);
        r.grade(0, 6);
        Check.due("to -0.0", r.grade(0, 6), 1);
        Check.number("to -0.0", r.glow(0, 1, 0), -0.0);
        Check.due("none is another one", r.grade(0, 6), 0);
        RasterHouse q = new RasterHouse();
        q.plane(7, 1, 1);
        q.put(0, 0, 0, 1);
        int s = Edge.box(q, 0, 0, 256, 256);
        q.style(s, 3, 4);
        q.style(s, 11, 1);
        for (int i = 0; i < 357; i++) q.paint(0, NONE, s, 0);
        Check.number("2^-1074, the least double", q.glow(0, 0, 0), 0x0.0000000000001p-1022);
        Check.due("half of it", q.grade(0, 6), 1);
        Check.number("is 0.0", q.glow(0, 0, 0), 0.0);
        RasterHouse up = new RasterHouse();
        up.plane(6, 2, 1);
        up.put(0, 0, 0, 8);
        up.put(0, 1, 0, -8);
        for (int i = 0; i < 128; i++) Check.due("twice", up.grade(0, 7), 2);
        Check.due("above all", up.sort(0, 0, 0), 1);
        Check.due("below all", up.sort(0, 1, 0), 2);
        int[] due = {0, 0, 0, 2, 1, 2, 0, 0};
        for (int what = 0; what < 8; what++) {
            Check.due("infinite ones, grade " + what, up.grade(0, what), due[what]);
            up.undo();
        }
    }

    /** "each DOT .. whose TILE is not NOTHING, and that is no HOLE"; "what is no number stays, and counts". */
    private static void gradesThatCount() {
        for (int kind = 6; kind < 8; kind++) {
            RasterHouse r = new RasterHouse();
            r.plane(kind, 16, 16);
            r.blank(0, 12);
            for (int what = 0; what < 8; what++) Check.due("all NOTHING", r.grade(0, what), 0);
            Check.number("the BLANK stays", r.glow(0, 0, 0), 1.5);
            r.put(0, 0, 0, 8);
            Check.due("63 of a TILE", r.grade(0, 0), 63);
            Check.due("then none", r.grade(0, 0), 0);
            r.tile(0, 1, 0, kind, 10);
            r.tile(0, 0, 1, kind == 6 ? 7 : 6, 64);
            Check.due("all 64 of the first TILE, and no HOLE", r.grade(0, 7), 64);
            r.spoil(0, 9, 0);
            for (int what = 0; what < 8; what++) {
                int first = what < 3 || what == 4 ? 0 : 64;
                Check.due("no number counts, grade " + what, r.grade(0, what), first + 1);
                Check.due("and stays", r.sort(0, 9, 0), 3);
                r.undo();
            }
            Check.due("the PLANE's TILES", r.size(0, 3), 3);
        }
        RasterHouse r = new RasterHouse();
        r.plane(6, 9, 9);
        r.put(0, 8, 8, 4);
        Check.due("CELLS that are no DOTS do not count", r.grade(0, 7), 1);
        Check.due("an ACT", r.told(2), 2);
    }

    /** "each DOT, no HOLE, at which a PLANE of MASKS of the same WIDTH and HEIGHT tells 1 becomes what a WORD tells: how many." */
    private static void masksThatTellOne() {
        RasterHouse r = new RasterHouse();
        r.plane(5, 16, 9);
        r.plane(0, 16, 9);
        Check.due("none tells 1", r.mask(0, 1, 5), 0);
        Check.due("all NOTHING", r.size(0, 3), 0);
        Check.due("an ACT", r.told(2), 1);
        r.blank(1, 1);
        Check.due("all tell 1", r.mask(0, 1, 5), 144);
        Check.due("all", r.dot(0, 15, 8), 5);
        Check.due("MASKS stay NOTHING", r.size(1, 3), 0);
        r.put(1, 3, 3, 0);
        Check.due("all but one", r.mask(0, 1, 6), 143);
        Check.due("that one", r.dot(0, 3, 3), 5);
        Check.due("they count also if they stay what they were", r.mask(0, 1, 6), 143);
        r.tile(0, 1, 0, 5, 10);
        Check.due("HOLES of the PLANE", r.mask(0, 1, 7), 143 - 54);
        r.tile(0, 1, 0, 4, 64);
        Check.due("HOLES of the PLANE", r.mask(0, 1, 7), 143 - 64);
        r.tile(1, 0, 0, 0, 20);
        Check.due("HOLES of the MASKS, and 0", r.mask(0, 1, 7), 16);
        r.tile(1, 0, 1, 5, 64);
        Check.due("HOLES of the MASKS", r.mask(0, 1, 7), 8);
        Check.due("no FAULT", r.finding(), 0);
    }

    /** A PLANE of each KIND, by the WORD as put() does; MASKS by other MASKS, too. */
    private static void masksOfEachKind() {
        long[] words = {0, 1, -1, 256, 65536, MOST, LEAST};
        for (int kind = 0; kind < 8; kind++) {
            RasterHouse r = new RasterHouse();
            r.plane(kind, 2, 2);
            r.plane(0, 2, 2);
            r.plane(kind, 2, 2);
            r.put(1, 1, 1, 1);
            for (long word : words) {
                Check.due("one", r.mask(0, 1, word), 1);
                r.put(2, 1, 1, word);
                Check.due("as put, kind " + kind, r.dot(0, 1, 1), r.dot(2, 1, 1));
                Check.due("no other", r.dot(0, 0, 1), 0);
            }
            if (kind >= 6) {
                r.spoil(0, 1, 1);
                r.mask(0, 1, 8);
                Check.due("no number becomes one", r.sort(0, 1, 1), 0);
            }
        }
        int[][] sizes = {{2, 1}, {1, 2}, {3, 2}, {2, 3}};
        for (int[] size : sizes) {
            RasterHouse r = new RasterHouse();
            r.plane(1, 2, 2);
            r.plane(0, size[0], size[1]);
            Check.due("another size", r.mask(0, 1, 1), STATE);
        }
        for (int kind = 1; kind < 8; kind++) {
            RasterHouse r = new RasterHouse();
            r.plane(0, 2, 2);
            r.plane(kind, 2, 2);
            Check.due("no MASKS", r.mask(0, 1, 1), CAST);
            Check.due("no ACT", r.told(2), 0);
        }
    }

    /** "Each call that names an ACT, and is not refused, nor comes to a FAULT .., is one, also if it changes nothing". */
    private static void whatIsAnAct() {
        RasterHouse r = new RasterHouse();
        r.plane(6, 8, 8);
        r.plane(0, 8, 8);
        r.shape(0);
        r.put(0, 0, 0, 0);
        r.undo();
        Edge.Call[] acts = {h -> h.put(0, 0, 0, 0), h -> h.put(0, 0, 0, 0), h -> h.spoil(0, 0, 0), h -> h.spoil(0, 0, 0),
            h -> h.tile(1, 0, 0, 0, 64), h -> h.tile(1, 0, 0, 0, 64), h -> h.wipe(1, 0, 0), h -> h.wipe(1, 0, 0),
            h -> h.copy(0, 0, 0, 1, 1, 0, 0, 0), h -> h.grade(0, 0), h -> h.mask(0, 1, 1), h -> h.paint(1, NONE, 0, 0)};
        for (int i = 0; i < acts.length; i++) {
            acts[i].on(r);
            Check.due("ACT " + i, r.told(2), i + 1);
            Check.due("none can be done again", r.told(3), 0);
        }
        for (int i = acts.length - 1; i >= 0; i--) {
            Check.due("how many can be yet", r.undo(), i);
            Check.due("told", r.told(2), i);
            Check.due("told", r.told(3), acts.length - i);
        }
        for (int i = acts.length - 1; i >= 0; i--) Check.due("how many can be yet", r.redo(), i);
    }

    /** All other calls are none, nor are refused ones or those that come to a FAULT: acts taken back stay, too. */
    private static void whatIsNoAct() {
        RasterHouse r = new RasterHouse();
        r.plane(6, 8, 8);
        r.plane(1, 8, 8);
        r.tile(0, 0, 0, 6, 1);
        r.put(1, 0, 0, 1);
        r.put(1, 0, 0, 2);
        r.undo();
        Edge.Call[] none = {h -> h.plane(0, 8, 8), h -> h.blank(1, 5), h -> h.shape(0), h -> h.shape(6), h -> h.shape(8),
            h -> h.point(0, 0, 0), h -> h.point(0, 900, 900), h -> h.move(0, 1, 1), h -> h.join(2, 0), h -> h.style(0, 0, 1),
            h -> h.stop(0, 1, 1), h -> h.glyph(0, 1, 1), h -> h.say(1, 0), h -> h.put(0, 1, 0, 1), h -> h.put(9, 0, 0, 1),
            h -> h.spoil(0, 1, 0), h -> h.spoil(1, 0, 0), h -> h.tile(0, 0, 0, 0, -1), h -> h.tile(0, 0, 0, 0, 65),
            h -> h.wipe(0, 1, 0), h -> h.copy(0, 0, 0, 1, 1, 1, 0, 0), h -> h.copy(0, 0, 0, 9, 1, 0, 0, 0), h -> h.grade(1, 0),
            h -> h.grade(0, 8), h -> h.mask(0, 1, 1), h -> h.mask(0, 0, 1), h -> h.begin(9, NONE, 0, 0),
            h -> h.paint(1, NONE, 0, 2), h -> h.go(1), h -> h.halt(), h -> h.dot(0, 0, 0), h -> h.digest(0)};
        for (int i = 0; i < none.length; i++) {
            none[i].on(r);
            Check.due("no ACT " + i, r.told(2), 2);
            Check.due("one can be done again " + i, r.told(3), 1);
        }
        Check.due("done again", r.redo(), 0);
        Check.due("as it was", r.dot(1, 0, 0), 2);
    }

    /** "The latest 20 are kept". */
    private static void theLatestTwenty() {
        for (int acts : new int[] {19, 20, 21, 40, 50}) {
            RasterHouse r = new RasterHouse();
            r.plane(5, 8, 8);
            for (int i = 1; i <= acts; i++) r.put(0, 0, 0, i);
            int kept = Math.min(acts, 20);
            Check.due("kept", r.told(2), kept);
            for (int i = 1; i <= kept; i++) {
                Check.due("how many can be yet", r.undo(), kept - i);
                Check.due("as it was ahead of it", r.dot(0, 0, 0), acts - i);
            }
            Check.due("none can", r.undo(), STATE);
            Check.due("the first ones stay", r.size(0, 3), acts > 20 ? 1 : 0);
            for (int i = 1; i <= kept; i++) {
                Check.due("how many can be yet", r.redo(), kept - i);
                Check.due("as it was behind it", r.dot(0, 0, 0), acts - kept + i);
            }
            Check.due("none can", r.redo(), STATE);
            r.undo();
            r.put(0, 0, 0, 99);
            Check.due("as many again", r.told(2), kept);
            r.put(0, 0, 0, 98);
            Check.due("not more than 20", r.told(2), Math.min(kept + 1, 20));
        }
    }

    /** Twenty ACTS of many kinds, over all PLANES, back and forth. */
    private static void twentyOfManyKinds() {
        RasterHouse r = new RasterHouse();
        for (int p = 0; p < 8; p++) r.plane(p, 16, 16);
        int s = Edge.make(r, 5, 0, 0, 4096, 4096);
        r.style(s, 0, 0x01020304);
        r.style(s, 2, 7);
        r.style(s, 1, -3);
        long[][] digests = new long[30][8];
        int acts = 29;
        for (int i = 0; i <= acts; i++) {
            for (int p = 0; p < 8; p++) digests[i][p] = r.digest(p);
            int p = i % 8;
            if (i == acts) break;
            if (i % 5 == 0) r.put(p, 9, 9, i + 1);
            if (i % 5 == 1) Check.due("paint", r.paint(p, p == 2 || p >= 6 ? NONE : 2, s, i / 5 % 2), 4);
            if (i % 5 == 2) r.tile(p, i % 2, 1, p, 8 + i);
            if (i % 5 == 3) r.copy(p, 0, 0, 5, 5, p, 2, 2);
            if (i % 5 == 4) r.wipe(p, 1, 1);
        }
        for (int i = acts - 1; i >= acts - 20; i--) {
            Check.due("undo", r.undo(), i - (acts - 20));
            for (int p = 0; p < 8; p++) Check.due("ahead of " + i + ", plane " + p, r.digest(p), digests[i][p]);
        }
        Check.due("none can", r.undo(), STATE);
    }

    /** "another ACT forgets those taken back". */
    private static void actsForgotten() {
        Edge.Call[] acts = {h -> h.put(0, 0, 0, 0), h -> h.spoil(0, 0, 0), h -> h.tile(1, 0, 0, 0, 64), h -> h.wipe(1, 0, 0),
            h -> h.copy(0, 0, 0, 1, 1, 0, 0, 0), h -> h.grade(0, 0), h -> h.mask(0, 1, 1), h -> h.paint(1, NONE, 0, 0),
            h -> h.begin(1, NONE, 1, 0), h -> h.copy(2, 0, 0, 1, 1, 2, 1, 1)};
        for (int i = 0; i < acts.length; i++) {
            RasterHouse r = new RasterHouse();
            r.plane(6, 8, 8);
            r.plane(0, 8, 8);
            r.plane(1, 8, 8);
            r.shape(0);
            r.shape(8);
            r.tile(2, 0, 0, 4, 64);
            for (int k = 1; k <= 3; k++) r.put(0, 5, 5, k);
            r.undo();
            r.undo();
            Check.due("two can be done again", r.told(3), 2);
            acts[i].on(r);
            Check.due("ACT " + i + " forgets them", r.told(3), 0);
            Check.due("none can", r.redo(), STATE);
            Check.due("ACTS", r.told(2), 3);
            r.undo();
            Check.due("as it was", r.dot(0, 5, 5), 1);
            r.undo();
            Check.due("as it was", r.dot(0, 5, 5), 0);
        }
    }

    /** "a JOB is one as it ends, or is halted". */
    private static void jobsAsActs() {
        for (int way = 0; way < 4; way++) {
            RasterHouse r = new RasterHouse();
            r.plane(5, 16, 16);
            r.plane(2, 16, 16);
            r.blank(1, 5);
            int s = Edge.box(r, 0, 0, 4096, 4096);
            r.style(s, 0, 1);
            r.put(0, 0, 0, 100);
            r.put(0, 0, 0, 200);
            r.undo();
            r.begin(0, 1, s, 0);
            Check.due("not as it begins", r.told(2), 1);
            Check.due("nothing is forgotten yet", r.told(3), 1);
            r.go(3);
            Check.due("not while it is under way", r.told(2), 1);
            Check.due("none can be taken back then", r.undo(), STATE);
            Check.due("none can be done again then", r.redo(), STATE);
            int tiles = 3;
            if (way == 0) r.halt();
            if (way == 1) r.go(1);
            if (way == 2) r.go(2000);
            if (way == 3) {
                r.go(0);
                r.halt();
            }
            if (way == 1 || way == 2) tiles = 4;
            Check.due("one ACT", r.told(2), 2);
            Check.due("that forgets", r.told(3), 0);
            Check.due("TILES", r.size(0, 3), tiles);
            Check.due("TILES of the DEPTH PLANE", r.size(1, 3), tiles);
            r.undo();
            Check.due("ahead of it", r.dot(0, 0, 0), 100);
            Check.due("ahead of it", r.size(0, 3), 1);
            Check.due("the DEPTH PLANE ahead of it", r.size(1, 3), 0);
            r.redo();
            Check.due("behind it", r.dot(0, 0, 0), 116);
            Check.due("behind it", r.size(0, 3), tiles);
            Check.due("the DEPTH PLANE behind it", r.dot(1, 0, 0), 0);
            Check.due("no more UNITS count", r.told(4), 4);
        }
    }

    /** A JOB may change all TILES of its PLANE and of its DEPTH PLANE: all are taken back and done again. */
    private static void jobsOfAllTiles() {
        for (int order = 0; order < 2; order++) {
            for (int way = 0; way < 2; way++) {
                RasterHouse r = new RasterHouse();
                r.plane(order == 0 ? 5 : 7, 32, 32);
                r.plane(order == 0 ? 7 : 5, 32, 32);
                int sums = order, lights = 1 - order;
                r.blank(sums, 3);
                for (int i = 0; i < 16; i += 3) r.put(sums, i % 4 * 8, i / 4 * 8, 50);
                r.blank(lights, 80);
                long before = r.digest(sums), deep = r.digest(lights);
                int tiles = r.size(sums, 3);
                int s = Edge.box(r, 0, 0, 8192, 8192);
                r.style(s, 0, 1);
                Check.due("UNITS", r.paint(sums, lights, s, way), 16);
                Check.due("WRITTEN", r.done(2), 1024);
                long after = r.digest(sums), deeper = r.digest(lights);
                r.undo();
                Check.due("the PLANE ahead of it", r.digest(sums), before);
                Check.due("its TILES", r.size(sums, 3), tiles);
                Check.due("the DEPTH PLANE ahead of it", r.digest(lights), deep);
                Check.due("its TILES", r.size(lights, 3), 0);
                r.redo();
                Check.due("the PLANE behind it", r.digest(sums), after);
                Check.due("the DEPTH PLANE behind it", r.digest(lights), deeper);
                Check.due("its TILES", r.size(lights, 3), 16);
            }
        }
    }

    /** "(BLANKS, SHAPES and STYLES stay as they are. PLANES that came later, too.)" */
    private static void whatStays() {
        RasterHouse r = new RasterHouse();
        r.plane(5, 8, 8);
        r.shape(0);
        r.put(0, 0, 0, 4);
        r.blank(0, 9);
        r.style(0, 0, 5);
        r.point(0, 1, 1);
        r.move(0, 2, 2);
        r.stop(0, 3, 3);
        r.plane(5, 8, 8);
        r.blank(1, 8);
        r.tile(1, 0, 0, 5, 3);
        r.shape(6);
        r.say(1, 3);
        Check.due("the later PLANE's ACT", r.undo(), 1);
        Check.due("NOTHING, and its BLANK", r.dot(1, 0, 0), 8);
        Check.due("the first ACT", r.undo(), 0);
        Check.due("NOTHING, and its BLANK as it is", r.dot(0, 0, 0), 9);
        Check.due("STYLE", r.look(0, 20), 5);
        Check.due("POINT", r.at(0, 0, 0), 3);
        Check.due("STOP", r.look(0, 4), 1);
        Check.due("LETTER", r.look(1, 3), 1);
        Check.due("PLANES", r.told(0), 2);
        Check.due("SHAPES", r.told(1), 2);
        r.plane(7, 8, 8);
        r.redo();
        r.redo();
        Check.due("a ROW of 0s, as it was made", r.dot(0, 1, 0), 0);
        Check.due("its DOT", r.dot(0, 0, 0), 4);
        Check.due("the later PLANE's ROW", r.row(1, 0, 0, 1), 3);
        Check.due("the last PLANE", r.size(2, 3), 0);
    }

    /** "undo() makes the TILES .. what they were": NOTHING, KIND, CELLS, and what is no number. */
    private static void undoneRows() {
        RasterHouse r = new RasterHouse();
        r.plane(7, 8, 8);
        r.put(0, 0, 0, 12);
        r.spoil(0, 0, 0);
        r.tile(0, 0, 0, 0, 5);
        r.wipe(0, 0, 0);
        r.tile(0, 0, 0, 7, 64);
        r.put(0, 1, 0, 8);
        r.grade(0, 5);
        r.undo();
        Check.number("ahead of the grade", r.glow(0, 0, 0), 0.0);
        Check.number("ahead of the grade", r.glow(0, 1, 0), 1.0);
        r.redo();
        Check.number("behind it", r.glow(0, 0, 0), -0.0);
        Check.number("behind it", r.glow(0, 1, 0), -1.0);
        for (int i = 0; i < 3; i++) r.undo();
        Check.due("NOTHING", r.row(0, 0, 0, 0), NONE);
        r.undo();
        Check.due("of another KIND", r.row(0, 0, 0, 0), 0);
        Check.due("of 5 CELLS", r.row(0, 0, 0, 1), 5);
        Check.due("a HOLE again", r.put(0, 0, 0, 1), CAST);
        r.undo();
        Check.due("no number again", r.sort(0, 0, 0), 3);
        r.undo();
        Check.number("a number again", r.glow(0, 0, 0), 1.5);
        r.undo();
        Check.due("NOTHING again", r.size(0, 3), 0);
        Check.due("all can be done again", r.told(3), 7);
        for (int i = 0; i < 7; i++) r.redo();
        Check.number("the last", r.glow(0, 1, 0), -1.0);
    }

    /** "0 PLANES, 1 SHAPES, 2 ACTS that can be taken back, 3 that can be done again, 4 UNITS .., 5 whether a JOB is under way." */
    private static void counts() {
        RasterHouse r = new RasterHouse();
        for (int what = 0; what < 6; what++) Check.due("a new object", r.told(what), 0);
        r.plane(1, 9, 9);
        r.shape(0);
        r.shape(8);
        r.put(0, 0, 0, 1);
        r.put(0, 0, 0, 1);
        r.put(0, 0, 0, 1);
        r.undo();
        r.begin(0, NONE, 0, 0);
        int[] due = {1, 2, 2, 1, 4, 1};
        for (int what = 0; what < 6; what++) Check.due("told " + what, r.told(what), due[what]);
        Check.due("below", r.told(-1), Edge.OUTSIDE);
        Check.due("above", r.told(6), Edge.OUTSIDE);
    }
}
