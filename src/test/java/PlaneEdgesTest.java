/** The limits that part 1 of the document and promises 1 to 7, 26 to 30 and 38 to 40 name, sentence by sentence. */
public final class PlaneEdgesTest {
    private static final int UNKNOWN = Edge.UNKNOWN, NONE = Edge.NONE, CAST = Edge.CAST, INDEX = Edge.INDEX,
        SIZE = Edge.SIZE, OUTSIDE = Edge.OUTSIDE;
    private static final long LEAST = Long.MIN_VALUE, MOST = Long.MAX_VALUE;

    public static void main(String[] args) {
        sizes();
        blankAtFirst();
        wholeWords();
        realWords();
        castToALong();
        cells();
        tilesAsDotsNeed();
        rowsOfNoneTo64();
        nothingTellsTheBlank();
        holesOfAnotherKind();
        nothingBecomesARow();
        rowsMadeAnew();
        nothingStaysByFaults();
        spoiledDots();
        newRows();
        wiped();
        glows();
        sorts();
        rowsTold();
        comparedWords();
        comparedHoles();
        digests();
        findings();
        Check.end();
    }

    /** "PLANES 0 .. 7, as they come, each of a KIND, with a WIDTH and a HEIGHT (1 .. 32)". */
    private static void sizes() {
        RasterHouse r = new RasterHouse();
        int[][] sides = {{1, 1}, {32, 32}, {1, 32}, {32, 1}, {8, 8}, {9, 7}, {7, 9}, {31, 2}};
        for (int p = 0; p < 8; p++) {
            int w = sides[p][0], h = sides[p][1];
            Check.due("as they come", r.plane(7 - p, w, h), p);
            Check.due("how many", r.told(0), p + 1);
            Check.due("KIND", r.size(p, 0), 7 - p);
            Check.due("WIDTH", r.size(p, 1), w);
            Check.due("HEIGHT", r.size(p, 2), h);
            Check.due("TILES that are not NOTHING", r.size(p, 3), 0);
            Check.due("its last DOT", r.put(p, w - 1, h - 1, 1), 1);
            Check.due("no DOT beyond WIDTH", r.put(p, w, h - 1, 1), UNKNOWN);
            Check.due("no DOT beyond HEIGHT", r.put(p, w - 1, h, 1), UNKNOWN);
            Check.due("its last DOT is told", r.dot(p, w - 1, h - 1), 1);
        }
    }

    /** "a BLANK (0 at first)". */
    private static void blankAtFirst() {
        RasterHouse r = new RasterHouse();
        for (int kind = 0; kind < 8; kind++) {
            r.plane(kind, 3, 3);
            Check.due("0 at first", r.dot(kind, 2, 2), 0);
            Check.number("0 at first", r.glow(kind, 2, 2), 0.0);
            Check.due("a number at first", r.sort(kind, 2, 2), 0);
        }
    }

    /** "A CELL becomes what a WORD v tells: whether v is not 0; the lowest 8, 16, 16, 32 bits; v" and BLANKS likewise. */
    private static void wholeWords() {
        long[][] masks = {{0, 0}, {1, 1}, {-1, 1}, {2, 1}, {256, 1}, {1L << 32, 1}, {LEAST, 1}, {MOST, 1}};
        long[][] greys = {{0, 0}, {255, 255}, {256, 0}, {257, 1}, {-1, 255}, {-256, 0}, {128, 128}, {-129, 127}, {LEAST, 0},
            {MOST, 255}, {(5L << 32) + 9, 9}};
        long[][] depths = {{32767, 32767}, {32768, -32768}, {-32768, -32768}, {-32769, 32767}, {65535, -1}, {65536, 0},
            {LEAST, 0}, {MOST, -1}};
        long[][] codes = {{32768, 32768}, {65535, 65535}, {65536, 0}, {-1, 65535}, {-65536, 0}, {LEAST, 0}, {MOST, 65535}};
        long[][] colours = {{2147483647, 2147483647}, {2147483648L, -2147483648L}, {-2147483648L, -2147483648L},
            {-2147483649L, 2147483647}, {4294967295L, -1}, {4294967296L, 0}, {LEAST, 0}, {MOST, -1}};
        long[][] sums = {{LEAST, LEAST}, {MOST, MOST}, {-1, -1}, {4294967296L, 4294967296L}};
        long[][][] all = {masks, greys, depths, codes, colours, sums};
        for (int kind = 0; kind < 6; kind++) {
            RasterHouse r = new RasterHouse();
            r.plane(kind, 2, 2);
            r.plane(kind, 2, 2);
            for (long[] pair : all[kind]) {
                r.put(0, 1, 1, pair[0]);
                Check.due("kind " + kind + ", put " + pair[0], r.dot(0, 1, 1), pair[1]);
                Check.due("blank is 1", r.blank(1, pair[0]), 1);
                Check.due("kind " + kind + ", blank " + pair[0], r.dot(1, 1, 1), pair[1]);
                Check.number("kind " + kind + ", the number", r.glow(0, 1, 1), (double) pair[1]);
            }
        }
    }

    /** "(float) v / 8.0f; (double) v / 8.0": what is too fine is rounded, to the even one of two. */
    private static void realWords() {
        long[] words = {1, -1, 16777216, 16777217, 16777219, 9007199254740992L, 9007199254740993L, 9007199254740995L,
            LEAST, MOST, MOST - 511, MOST - 512};
        long[] glows = {1, -1, 16777216, 16777216, 16777220, 9007199254740992L, 9007199254740992L, 9007199254740992L,
            LEAST, MOST, MOST, MOST};
        long[] lights = {1, -1, 16777216, 16777217, 16777219, 9007199254740992L, 9007199254740992L, 9007199254740996L,
            LEAST, MOST, MOST, MOST - 1023};
        for (int kind = 6; kind < 8; kind++) {
            RasterHouse r = new RasterHouse();
            r.plane(kind, 2, 2);
            r.plane(kind, 2, 2);
            for (int i = 0; i < words.length; i++) {
                long due = kind == 6 ? glows[i] : lights[i];
                r.put(0, 1, 1, words[i]);
                Check.due("kind " + kind + ", put " + words[i], r.dot(0, 1, 1), due);
                r.blank(1, words[i]);
                Check.due("kind " + kind + ", blank " + words[i], r.dot(1, 1, 1), due);
                Check.due("a number", r.sort(0, 1, 1), 0);
            }
            r.put(0, 1, 1, MOST);
            Check.number("2^63 by 8", r.glow(0, 1, 1), 1152921504606846976.0);
            r.put(0, 1, 1, -13);
            Check.number("by eighths", r.glow(0, 1, 1), -1.625);
        }
    }

    /** "a GLOW, a LIGHT times 8 (8.0f, 8.0), cast to a long": toward 0, and held at the ends. */
    private static void castToALong() {
        for (int kind = 6; kind < 8; kind++) {
            RasterHouse r = new RasterHouse();
            r.plane(kind, 4, 1);
            r.put(0, 0, 0, 3);
            r.put(0, 1, 0, -3);
            r.put(0, 2, 0, MOST);
            r.put(0, 3, 0, LEAST);
            r.grade(0, 6);
            Check.due("1.5 is cut to 1", r.dot(0, 0, 0), 1);
            Check.due("-1.5 is cut to -1", r.dot(0, 1, 0), -1);
            Check.due("2^62", r.dot(0, 2, 0), 1L << 62);
            r.grade(0, 6);
            Check.due("-0.75 is cut to 0", r.dot(0, 1, 0), 0);
            for (int i = 0; i < 4; i++) r.grade(0, 7);
            Check.due("above the greatest long", r.dot(0, 2, 0), MOST);
            Check.due("below the least long", r.dot(0, 3, 0), LEAST);
            Check.due("though it is a number", r.sort(0, 2, 0), 0);
        }
    }

    /** "DOTS x, y of a PLANE are in TILES X, Y of 8 by 8: x / 8, y / 8, there CELL 8 (y % 8) + x % 8"; "has no such CELL (INDEX)". */
    private static void cells() {
        for (int n = 0; n <= 64; n += 1) {
            RasterHouse r = new RasterHouse();
            r.plane(3, 16, 16);
            r.blank(0, 5);
            Check.due("n is answered", r.tile(0, 1, 1, 3, n), n);
            if (n > 0) Check.due("the last CELL", r.put(0, 8 + (n - 1) % 8, 8 + (n - 1) / 8, 9), 1);
            if (n > 0) Check.due("the last CELL is told", r.dot(0, 8 + (n - 1) % 8, 8 + (n - 1) / 8), 9);
            if (n < 64) Check.due("no such CELL", r.put(0, 8 + n % 8, 8 + n / 8, 9), INDEX);
            if (n < 64) Check.due("no such CELL", r.sort(0, 8 + n % 8, 8 + n / 8), INDEX);
            Check.due("left of the TILE", r.dot(0, 7, 8), 5);
            Check.due("above the TILE", r.dot(0, 8, 7), 5);
            Check.due("one TILE", r.size(0, 3), 1);
        }
    }

    /** "(TILES are as many as DOTS need)". */
    private static void tilesAsDotsNeed() {
        for (int side = 1; side <= 32; side++) {
            RasterHouse r = new RasterHouse();
            r.plane(0, side, 1);
            r.plane(0, 1, side);
            int tiles = side <= 8 ? 1 : side <= 16 ? 2 : side <= 24 ? 3 : 4;
            Check.due("the last TILE along x of " + side, r.row(0, tiles - 1, 0, 0), NONE);
            Check.due("no TILE beyond it", r.row(0, tiles, 0, 0), UNKNOWN);
            Check.due("no TILE beyond it along y", r.row(0, 0, 1, 0), UNKNOWN);
            Check.due("the last TILE along y of " + side, r.row(1, 0, tiles - 1, 0), NONE);
            Check.due("no TILE beyond it", r.tile(1, 0, tiles, 0, 0), UNKNOWN);
            Check.due("no TILE beyond it along x", r.wipe(1, 1, 0), UNKNOWN);
            Check.due("no TILE ahead", r.row(0, -1, 0, 0), UNKNOWN);
            Check.due("no TILE ahead", r.row(1, 0, -1, 0), UNKNOWN);
        }
    }

    /** "a ROW of CELLS, of a KIND (perhaps another than the PLANE's), 0 .. 64 of them"; "OUTSIDE: KIND, n above 64; SIZE". */
    private static void rowsOfNoneTo64() {
        for (int kind = 0; kind < 8; kind++) {
            RasterHouse r = new RasterHouse();
            r.plane(3, 8, 8);
            Check.due("64", r.tile(0, 0, 0, kind, 64), 64);
            Check.due("its KIND", r.row(0, 0, 0, 0), kind);
            Check.due("its CELLS", r.row(0, 0, 0, 1), 64);
            Check.due("65", r.tile(0, 0, 0, kind, 65), OUTSIDE);
            Check.due("-1", r.tile(0, 0, 0, kind, -1), SIZE);
            Check.due("its CELLS stay", r.row(0, 0, 0, 1), 64);
            Check.due("0", r.tile(0, 0, 0, kind, 0), 0);
            Check.due("its KIND", r.row(0, 0, 0, 0), kind);
            Check.due("no CELLS", r.row(0, 0, 0, 1), 0);
            Check.due("a ROW of none is not NOTHING", r.size(0, 3), 1);
            Check.due("a HOLE", r.sort(0, 0, 0), kind == 3 ? INDEX : CAST);
        }
    }

    /** "A DOT of a TILE that is NOTHING tells the BLANK, as it is then". */
    private static void nothingTellsTheBlank() {
        RasterHouse r = new RasterHouse();
        r.plane(5, 16, 8);
        r.blank(0, 4);
        r.put(0, 0, 0, 1);
        r.blank(0, 6);
        Check.due("a ROW has the BLANK as it was", r.dot(0, 7, 7), 4);
        Check.due("NOTHING has it as it is", r.dot(0, 8, 7), 6);
        r.wipe(0, 0, 0);
        Check.due("NOTHING again", r.dot(0, 0, 0), 6);
        r.undo();
        r.blank(0, 8);
        Check.due("as a ROW again", r.dot(0, 7, 7), 4);
        r.undo();
        Check.due("the BLANK is not taken back", r.dot(0, 0, 0), 8);
        Check.due("blank is no ACT", r.told(2), 0);
    }

    /** "a DOT is a HOLE, if its TILE's ROW is of another KIND (CAST), or has no such CELL (INDEX)": each KIND by each. */
    private static void holesOfAnotherKind() {
        for (int kind = 0; kind < 8; kind++) {
            for (int other = 0; other < 8; other++) {
                RasterHouse r = new RasterHouse();
                r.plane(kind, 8, 8);
                r.blank(0, 1);
                r.tile(0, 0, 0, other, 63);
                boolean same = kind == other;
                Check.due("put", r.put(0, 6, 7, 0), same ? 1 : CAST);
                Check.due("finding", r.finding(), same ? 0 : 2);
                Check.due("put, no such CELL", r.put(0, 7, 7, 0), same ? INDEX : CAST);
                Check.due("finding", r.finding(), same ? 3 : 2);
                Check.due("sort", r.sort(0, 6, 7), same ? 0 : CAST);
                Check.due("a HOLE tells 0, not the BLANK", r.dot(0, 7, 7), 0);
                Check.due("finding", r.finding(), same ? 3 : 2);
                Check.number("a HOLE's number is 0.0", r.glow(0, 7, 7), 0.0);
                Check.due("spoil", r.spoil(0, 6, 7), same && kind >= 6 ? 1 : CAST);
                Check.due("spoil, no such CELL", r.spoil(0, 7, 7), same && kind >= 6 ? INDEX : CAST);
                Check.due("the ROW stays", r.row(0, 0, 0, 0), other);
                Check.due("ACTS", r.told(2), 1 + (same ? 1 : 0) + (same && kind >= 6 ? 1 : 0));
            }
        }
    }

    private static void isBlankRow(String what, RasterHouse r, int plane, int kind) {
        Check.due(what + ": one TILE", r.size(plane, 3), 1);
        Check.due(what + ": of the PLANE's KIND", r.row(plane, 1, 0, 0), kind);
        Check.due(what + ": of 64 CELLS", r.row(plane, 1, 0, 1), 64);
        r.blank(plane, 0);
        Check.due(what + ": all the BLANK", r.dot(plane, 15, 7), 1);
        Check.due(what + ": all the BLANK", r.dot(plane, 9, 0), 1);
        Check.due(what + ": the others are NOTHING", r.dot(plane, 7, 0), 0);
    }

    /** "Where a DOT is to become something and its TILE is NOTHING, that becomes a ROW of 64 CELLS .. all the BLANK, ahead of it." */
    private static void nothingBecomesARow() {
        for (int kind = 0; kind < 8; kind++) {
            for (int way = 0; way < 5; way++) {
                RasterHouse r = new RasterHouse();
                r.plane(kind, 16, 8);
                r.plane(0, 16, 8);
                r.blank(0, 1);
                r.put(1, 8, 0, 1);
                int dot = Edge.box(r, 2048, 0, 2304, 256);
                if (way == 0) r.put(0, 8, 0, 1);
                if (way == 1) r.copy(0, 0, 0, 1, 1, 0, 8, 0);
                if (way == 2) r.mask(0, 1, 1);
                if (way == 3) r.paint(0, NONE, dot, 0);
                if (way == 4 && kind >= 6) r.spoil(0, 8, 0);
                if (way != 4 || kind >= 6) isBlankRow("way " + way + ", kind " + kind, r, 0, kind);
            }
        }
        for (int kind : new int[] {2, 6, 7}) {
            RasterHouse r = new RasterHouse();
            r.plane(1, 16, 8);
            r.plane(kind, 16, 8);
            r.blank(1, 1);
            int dot = Edge.box(r, 2048, 0, 2304, 256);
            r.style(dot, 1, -5);
            r.paint(0, 1, dot, 0);
            isBlankRow("a DEPTH PLANE of kind " + kind, r, 1, kind);
            Check.number("its DOT", r.glow(1, 8, 0), -5);
        }
    }

    /** A ROW that is new is all the BLANK, whatever the TILE had been: also what was no number is one then. */
    private static void rowsMadeAnew() {
        for (int kind = 6; kind < 8; kind++) {
            RasterHouse r = new RasterHouse();
            r.plane(kind, 16, 8);
            for (int x = 0; x < 8; x++) r.spoil(0, x, 0);
            r.wipe(0, 0, 0);
            r.put(0, 0, 7, 1);
            r.put(0, 8, 7, 1);
            for (int x = 0; x < 16; x++) Check.due("a number", r.sort(0, x, 0), 0);
            for (int i = 0; i < 22; i++) r.spoil(0, i % 8, i / 8);
            r.wipe(0, 0, 0);
            for (int i = 0; i < 22; i++) r.put(0, 0, 0, 0);
            for (int x = 0; x < 8; x++) Check.due("a number", r.sort(0, x, 1), 0);
        }
    }

    /** What becomes nothing leaves NOTHING: grades, masks of none, paintings of too few samples, faults, undo. */
    private static void nothingStaysByFaults() {
        RasterHouse r = new RasterHouse();
        r.plane(6, 8, 8);
        r.plane(0, 8, 8);
        r.plane(3, 8, 8);
        for (int what = 0; what < 8; what++) Check.due("grade of NOTHING", r.grade(0, what), 0);
        Check.due("mask of none", r.mask(0, 1, 5), 0);
        Check.due("spoil of CODES", r.spoil(2, 0, 0), CAST);
        int few = Edge.samples(r, 0, 0, 7);
        r.paint(2, NONE, few, 0);
        r.paint(1, NONE, few, 0);
        for (int p = 0; p < 3; p++) Check.due("all NOTHING yet", r.size(p, 3), 0);
        r.put(0, 0, 0, 1);
        r.undo();
        Check.due("NOTHING again", r.row(0, 0, 0, 1), NONE);
    }

    /** "a DOT of GLOWS, LIGHTS becomes no number: 1"; its WORD, number and SORT; a WORD makes it a number again. */
    private static void spoiledDots() {
        for (int kind = 0; kind < 8; kind++) {
            RasterHouse r = new RasterHouse();
            r.plane(kind, 9, 9);
            r.put(0, 8, 8, 1);
            int due = kind < 6 ? CAST : 1;
            Check.due("spoil of kind " + kind, r.spoil(0, 8, 8), due);
            Check.due("spoil of NOTHING, kind " + kind, r.spoil(0, 0, 8), due);
            Check.due("finding", r.finding(), kind < 6 ? 2 : 0);
            Check.due("sort", r.sort(0, 8, 8), kind < 6 ? 0 : 3);
            Check.due("its WORD", r.dot(0, 8, 8), kind < 6 ? 1 : 0);
            Check.due("no FAULT", r.finding(), 0);
            Check.number("its number", r.glow(0, 8, 8), kind < 6 ? 1 : 0);
            Check.due("twice", r.spoil(0, 8, 8), due);
            r.put(0, 8, 8, 0);
            Check.due("a number again", r.sort(0, 8, 8), 0);
            r.undo();
            Check.due("taken back", r.sort(0, 8, 8), kind < 6 ? 0 : 3);
        }
    }

    /** "TILE x, y becomes a new ROW of a KIND with n CELLS, all 0 (no): n." */
    private static void newRows() {
        for (int kind = 0; kind < 8; kind++) {
            RasterHouse r = new RasterHouse();
            r.plane(kind, 8, 8);
            r.blank(0, 1);
            for (int x = 0; x < 8; x++) r.put(0, x, 7, 1);
            if (kind >= 6) r.spoil(0, 0, 7);
            Check.due("n", r.tile(0, 0, 0, kind, 64), 64);
            for (int x = 0; x < 8; x++) Check.due("all 0", r.dot(0, x, 7), 0);
            for (int x = 0; x < 8; x++) Check.due("all numbers", r.sort(0, x, 7), 0);
            for (int x = 0; x < 8; x++) Check.due("not the BLANK", r.dot(0, x, 0), 0);
            r.undo();
            Check.due("taken back", r.dot(0, 7, 7), 1);
            Check.due("taken back", r.dot(0, 7, 6), 1);
            r.redo();
            Check.due("done again", r.dot(0, 7, 7), 0);
        }
    }

    /** "TILE x, y becomes NOTHING: 1; 0: it was." */
    private static void wiped() {
        RasterHouse r = new RasterHouse();
        r.plane(5, 9, 9);
        Check.due("it was", r.wipe(0, 1, 1), 0);
        r.put(0, 8, 8, 7);
        Check.due("wipe", r.wipe(0, 1, 1), 1);
        Check.due("NOTHING", r.row(0, 1, 1, 0), NONE);
        Check.due("it was", r.wipe(0, 1, 1), 0);
        r.tile(0, 0, 1, 3, 0);
        Check.due("a ROW of no CELLS was not NOTHING", r.wipe(0, 0, 1), 1);
        Check.due("each is an ACT, also if it changes nothing", r.told(2), 6);
        r.undo();
        Check.due("the ROW of no CELLS", r.row(0, 0, 1, 0), 3);
        Check.due("the ROW of no CELLS", r.row(0, 0, 1, 1), 0);
    }

    /** "The number that a DOT is (of a MASK 1.0, 0.0). 0.0: no number, UNKNOWN, a HOLE. (No FAULT.)" */
    private static void glows() {
        RasterHouse r = new RasterHouse();
        for (int kind = 0; kind < 8; kind++) r.plane(kind, 2, 2);
        long[] words = {-1, -1, -32768, -1, -2147483648L, LEAST, -8, -8};
        double[] due = {1.0, 255.0, -32768.0, 65535.0, -2147483648.0, -9223372036854775808.0, -1.0, -1.0};
        for (int kind = 0; kind < 8; kind++) {
            Check.number("0.0 at first", r.glow(kind, 0, 0), 0.0);
            r.put(kind, 0, 0, words[kind]);
            Check.number("the number of kind " + kind, r.glow(kind, 0, 0), due[kind]);
        }
        r.put(5, 0, 0, MOST);
        Check.number("the greatest SUM", r.glow(5, 0, 0), 9223372036854775807.0);
        r.spoil(6, 0, 0);
        r.tile(4, 0, 0, 5, 64);
        r.tile(3, 0, 0, 3, 0);
        r.sort(3, 0, 0);
        Check.number("no number", r.glow(6, 0, 0), 0.0);
        Check.number("a HOLE, CAST", r.glow(4, 0, 0), 0.0);
        Check.number("a HOLE, INDEX", r.glow(3, 0, 0), 0.0);
        Check.number("UNKNOWN", r.glow(8, 0, 0), 0.0);
        Check.number("UNKNOWN", r.glow(5, 2, 0), 0.0);
        Check.due("no FAULT, nor 0", r.finding(), 3);
        r.grade(7, 6);
        for (int i = 0; i < 4; i++) r.grade(7, 6);
        Check.number("finer than eighths", r.glow(7, 0, 0), -0.03125);
    }

    /** "Whether a DOT is 0 a number, 1 above all numbers (infinite), 2 below, 3 no number." */
    private static void sorts() {
        RasterHouse r = new RasterHouse();
        for (int kind = 0; kind < 8; kind++) {
            r.plane(kind, 3, 3);
            Check.due("NOTHING", r.sort(kind, 2, 2), 0);
            r.put(kind, 1, 1, MOST);
            Check.due("the greatest WORD", r.sort(kind, 1, 1), 0);
            r.put(kind, 1, 1, LEAST);
            Check.due("the least WORD", r.sort(kind, 1, 1), 0);
        }
        r.put(6, 0, 0, 8);
        for (int i = 0; i < 127; i++) r.grade(6, 7);
        Check.due("2^127 is a number", r.sort(6, 0, 0), 0);
        Check.number("2^127", r.glow(6, 0, 0), 0x1p127);
        Check.due("2^60 less 2^187 went below", r.sort(6, 1, 1), 2);
        r.grade(6, 7);
        Check.due("2^128 is above all floats", r.sort(6, 0, 0), 1);
        Check.number("infinite", r.glow(6, 0, 0), Double.POSITIVE_INFINITY);
        r.grade(6, 5);
        Check.due("turned", r.sort(6, 0, 0), 2);
        Check.due("turned", r.sort(6, 1, 1), 1);
        lightsAboveAll();
        theGreatestLight();
    }

    /** (2^53 - 1) by 8, 108 times by 512 and twice by 2: each step is exact, and the last number is the greatest double. */
    private static void theGreatestLight() {
        RasterHouse r = new RasterHouse();
        r.plane(7, 1, 1);
        r.put(0, 0, 0, 9007199254740991L);
        int whole = Edge.box(r, 0, 0, 256, 256);
        r.style(whole, 3, 4);
        r.style(whole, 11, 4096);
        for (int i = 0; i < 108; i++) r.paint(0, NONE, whole, 0);
        r.grade(0, 7);
        r.grade(0, 7);
        Check.number("the greatest double", r.glow(0, 0, 0), Double.MAX_VALUE);
        Check.due("is a number", r.sort(0, 0, 0), 0);
        r.grade(0, 5);
        Check.number("the least double", r.glow(0, 0, 0), -Double.MAX_VALUE);
        Check.due("is a number", r.sort(0, 0, 0), 0);
        r.grade(0, 7);
        Check.due("twice it is not", r.sort(0, 0, 0), 2);
        r.undo();
        r.style(whole, 3, 11);
        r.paint(0, NONE, whole, 0);
        Check.number("its rest is far less than it", r.glow(0, 0, 0), 0.0);
    }

    /** 1.0 is doubled by painting v * 1000 first, since a double wants 1024 doublings. */
    private static void lightsAboveAll() {
        RasterHouse r = new RasterHouse();
        r.plane(7, 1, 1);
        r.put(0, 0, 0, -8);
        int whole = Edge.box(r, 0, 0, 256, 256);
        r.style(whole, 3, 4);
        r.style(whole, 11, 8000);
        for (int i = 0; i < 102; i++) r.paint(0, NONE, whole, 0);
        for (int i = 0; i < 7; i++) r.grade(0, 7);
        Check.due("-1.28e308 is a number", r.sort(0, 0, 0), 0);
        Check.due("its WORD is the least", r.dot(0, 0, 0), LEAST);
        r.grade(0, 7);
        Check.due("-2.56e308 is below all doubles", r.sort(0, 0, 0), 2);
        Check.due("its WORD is the least", r.dot(0, 0, 0), LEAST);
        Check.number("infinite", r.glow(0, 0, 0), Double.NEGATIVE_INFINITY);
        r.grade(0, 4);
        Check.due("above all", r.sort(0, 0, 0), 1);
        Check.due("its WORD is the greatest", r.dot(0, 0, 0), MOST);
    }

    /** "Of TILE x, y: 0 KIND, 1 how many CELLS; NONE: NOTHING." and "3 how many TILES are not NOTHING". */
    private static void rowsTold() {
        RasterHouse r = new RasterHouse();
        r.plane(4, 32, 32);
        int many = 0;
        for (int y = 0; y < 4; y++) {
            for (int x = 0; x < 4; x++) {
                Check.due("NOTHING", r.row(0, x, y, 0), NONE);
                Check.due("NOTHING", r.row(0, x, y, 1), NONE);
                Check.due("n", r.tile(0, x, y, (x + y) % 8, 4 * y + x), 4 * y + x);
                many++;
                Check.due("so many", r.size(0, 3), many);
            }
        }
        for (int y = 0; y < 4; y++) {
            for (int x = 0; x < 4; x++) {
                Check.due("KIND", r.row(0, x, y, 0), (x + y) % 8);
                Check.due("CELLS", r.row(0, x, y, 1), 4 * y + x);
            }
        }
        Check.due("no TILE", r.row(0, 4, 0, 0), UNKNOWN);
        Check.due("no TILE", r.row(0, 0, 4, 0), UNKNOWN);
    }

    /** "0 how many DOTS tell unlike WORDS .., 1 the first of them: 32 y + x; NONE." */
    private static void comparedWords() {
        RasterHouse r = new RasterHouse();
        r.plane(6, 32, 32);
        r.plane(5, 32, 32);
        Check.due("none", r.compare(0, 1, 0), 0);
        Check.due("none", r.compare(0, 1, 1), NONE);
        r.put(0, 31, 31, 1);
        Check.due("the last DOT", r.compare(0, 1, 1), 32 * 31 + 31);
        r.put(1, 31, 0, 1);
        Check.due("by y, then x", r.compare(0, 1, 1), 31);
        r.put(1, 0, 0, -1);
        Check.due("the first DOT", r.compare(1, 0, 1), 0);
        Check.due("three", r.compare(0, 1, 0), 3);
        Check.due("a PLANE and itself", r.compare(0, 0, 0), 0);
        Check.due("a PLANE and itself", r.compare(0, 0, 1), NONE);
        r.wipe(0, 3, 3);
        r.blank(0, 5);
        r.blank(1, 5);
        Check.due("NOTHING by its BLANK: all but the two ROWS are alike", r.compare(0, 1, 0), 2 * 64);
        r.blank(0, 4);
        Check.due("another BLANK: none is alike", r.compare(0, 1, 0), 1024);
        RasterHouse q = new RasterHouse();
        q.plane(7, 3, 2);
        q.plane(5, 3, 2);
        q.spoil(0, 1, 0);
        Check.due("no number tells 0", q.compare(0, 1, 0), 0);
        q.put(0, 2, 1, 1);
        q.grade(0, 6);
        Check.due("a half of an eighth tells 0", q.compare(0, 1, 1), NONE);
        q.put(0, 2, 1, MOST);
        q.put(1, 2, 1, MOST);
        Check.due("2^63 tells the greatest long", q.compare(0, 1, 1), NONE);
        q.put(1, 2, 1, MOST - 1);
        Check.due("another WORD", q.compare(0, 1, 1), 34);
        q.plane(5, 2, 3);
        q.plane(5, 3, 3);
        q.plane(5, 2, 2);
        for (int p = 2; p < 5; p++) Check.due("STATE: another size", q.compare(0, p, 0), Edge.STATE);
    }

    /** "(a HOLE is unlike all but HOLES of the same FAULT)". */
    private static void comparedHoles() {
        RasterHouse r = new RasterHouse();
        r.plane(1, 8, 1);
        r.plane(5, 8, 1);
        r.put(1, 0, 0, 0);
        r.tile(0, 0, 0, 1, 6);
        Check.due("a HOLE and 0", r.compare(0, 1, 0), 2);
        Check.due("the first HOLE", r.compare(0, 1, 1), 6);
        r.put(1, 7, 0, -4);
        r.put(1, 6, 0, -13);
        Check.due("a HOLE and any WORD", r.compare(1, 0, 0), 2);
        r.tile(1, 0, 0, 5, 7);
        Check.due("INDEX and INDEX, INDEX and a WORD", r.compare(0, 1, 0), 1);
        r.tile(1, 0, 0, 1, 64);
        Check.due("WORDS and CAST, INDEX and CAST", r.compare(0, 1, 0), 8);
        r.tile(0, 0, 0, 7, 0);
        Check.due("CAST and CAST", r.compare(0, 1, 0), 0);
        Check.due("a PLANE of HOLES and itself", r.compare(0, 0, 0), 0);
    }

    /** "h, 7 at first, becomes for each DOT 31 h and its WORD (of a HOLE -1 less its FAULT). 0: UNKNOWN." */
    private static void digests() {
        RasterHouse r = new RasterHouse();
        r.plane(5, 1, 1);
        Check.due("one DOT of 0", r.digest(0), 217);
        r.put(0, 0, 0, MOST);
        Check.due("it wraps around", r.digest(0), 217 + MOST);
        r.tile(0, 0, 0, 5, 0);
        Check.due("INDEX is -4", r.digest(0), 213);
        r.tile(0, 0, 0, 4, 0);
        Check.due("CAST is -3", r.digest(0), 214);
        r.plane(5, 32, 32);
        long h = 7;
        for (int i = 0; i < 1024; i++) h = 31 * h;
        Check.due("1024 DOTS of 0", r.digest(1), h);
        r.put(1, 31, 31, -5);
        Check.due("the last DOT comes last", r.digest(1), h - 5);
        r.plane(5, 2, 2);
        r.put(2, 1, 0, 1);
        Check.due("by y, then x", r.digest(2), 7L * 31 * 31 * 31 * 31 + 31 * 31);
        r.plane(7, 1, 1);
        r.spoil(3, 0, 0);
        Check.due("no number is 0", r.digest(3), 217);
        Check.due("no PLANE", r.digest(4), 0);
        Check.due("no PLANE", r.digest(-1), 0);
    }

    /** "The FAULT of the latest call that names one: 0: it came to none, or was refused (0 ahead of any)." */
    private static void findings() {
        RasterHouse r = new RasterHouse();
        Check.due("ahead of any", r.finding(), 0);
        r.plane(6, 8, 8);
        r.plane(0, 8, 8);
        r.tile(0, 0, 0, 6, 1);
        Edge.Call[] names = {h -> h.put(0, 0, 0, 1), h -> h.spoil(0, 0, 0), h -> h.tile(1, 0, 0, 0, 64), h -> h.copy(1, 0, 0, 1, 1, 1, 1, 1),
            h -> h.grade(0, 5), h -> h.mask(0, 1, 1), h -> h.dot(0, 0, 0), h -> h.sort(0, 0, 0)};
        for (Edge.Call call : names) {
            r.put(0, 7, 7, 1);
            Check.due("INDEX", r.finding(), 3);
            call.on(r);
            Check.due("it came to none", r.finding(), 0);
        }
        Edge.Call[] others = {h -> h.plane(0, 8, 8), h -> h.blank(1, 0), h -> h.wipe(1, 0, 0), h -> h.shape(6),
            h -> h.point(0, 0, 0), h -> h.move(0, 1, 1), h -> h.shape(8), h -> h.join(1, 0), h -> h.style(0, 0, 1),
            h -> h.stop(0, 1, 1), h -> h.glyph(0, 1, 1), h -> h.say(0, 0), h -> h.begin(1, NONE, 0, 0), h -> h.go(0),
            h -> h.halt(), h -> h.paint(1, NONE, 0, 0), h -> h.undo(), h -> h.redo(), h -> h.done(0),
            h -> (long) h.glow(0, 7, 7), h -> h.size(0, 0), h -> h.row(0, 0, 0, 0), h -> h.look(0, 0), h -> h.at(0, 0, 0),
            h -> h.covered(0, 0, 0), h -> h.hit(0, 0, 0), h -> h.bounds(0, 0), h -> h.colour(0, 0, 0), h -> h.copied(),
            h -> h.compare(0, 1, 0), h -> h.digest(0), h -> h.told(0), h -> h.finding()};
        r.sort(0, 7, 7);
        for (int i = 0; i < others.length; i++) {
            others[i].on(r);
            Check.due("call " + i + " names none, so it stays", r.finding(), 3);
        }
    }
}
