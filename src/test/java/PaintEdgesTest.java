/** The limits that part 3 of the document and promises 16, 17, 23 to 25 and 36 name, sentence by sentence. */
public final class PaintEdgesTest {
    private static final int STATE = Edge.STATE, OUTSIDE = Edge.OUTSIDE, NONE = Edge.NONE;
    private static final long LEAST = Long.MIN_VALUE, MOST = Long.MAX_VALUE;

    public static void main(String[] args) {
        counts();
        countsAtTheLastDots();
        countsThroughFrames();
        eightOrMore();
        masksByMode();
        writtenAlsoIfItStays();
        missedDots();
        missedOfDepthPlanes();
        testsOfDepth();
        testsOfInfiniteDepth();
        depthsWritten();
        behindIsNoMore();
        sumsWrapAround();
        greys();
        greysByCounts();
        coloursByBytes();
        lightsByMode();
        lightsByCounts();
        lightsOfNoNumber();
        lightsBeyondAllNumbers();
        floatsAndDoubles();
        rests();
        plainTextures();
        fineTextures();
        texturesWithHoles();
        grainsBetweenPlaces();
        coloursAsTheyLie();
        coloursOfEmptyBounds();
        unitsOfJobs();
        waysOfJobs();
        jobsOfNoUnits();
        unitsThatGo();
        haltedJobs();
        depthPlanesThatServe();
        texturesThatMayBe();
        Check.end();
    }

    /** The DOT 0, 0 of a new PLANE of one DOT, painted with COUNT c by the STYLES told in pairs; before, it is the WORD v. */
    private static RasterHouse painted(int kind, long v, int c, int... styles) {
        RasterHouse r = new RasterHouse();
        r.plane(kind, 1, 1);
        r.put(0, 0, 0, v);
        int s = Edge.samples(r, 0, 0, c);
        for (int i = 0; i < styles.length; i += 2) r.style(s, styles[i], styles[i + 1]);
        r.paint(0, NONE, s, 0);
        return r;
    }

    private static void done(String what, RasterHouse r, int written, int behind, int missed) {
        Check.due(what + ": WRITTEN", r.done(2), written);
        Check.due(what + ": BEHIND", r.done(3), behind);
        Check.due(what + ": MISSED", r.done(4), missed);
    }

    /** "A LEAF is painted at each DOT where its COUNT c is 1 or more"; "SUMS: c times its COLOUR (with sign) more". */
    private static void counts() {
        for (int c = 1; c <= 16; c++) {
            Check.due("c times 1", painted(5, 0, c, 0, 1).dot(0, 0, 0), c);
            Check.due("c times -7 more", painted(5, 100, c, 0, -7).dot(0, 0, 0), 100 - 7 * c);
        }
        RasterHouse r = new RasterHouse();
        r.plane(5, 2, 1);
        int none = Edge.box(r, 0, 0, 8, 256);
        r.style(none, 0, 1);
        r.paint(0, NONE, none, 0);
        done("ahead of the first sample", r, 0, 0, 0);
        Check.due("NOTHING yet", r.size(0, 3), 0);
        int one = Edge.box(r, 0, 0, 9, 256);
        r.style(one, 0, 1);
        r.paint(0, NONE, one, 0);
        done("one sample", r, 1, 0, 0);
        Check.due("one sample", r.dot(0, 0, 0), 1);
        int last = Edge.box(r, 256 + 247, 0, 256 + 249, 256);
        r.style(last, 0, 1);
        r.paint(0, NONE, last, 0);
        Check.due("the last sample of the last DOT", r.dot(0, 1, 0), 1);
        int beyond = Edge.box(r, 512, 0, 900, 256);
        r.paint(0, NONE, beyond, 0);
        done("beyond the PLANE", r, 0, 0, 0);
        int before = Edge.box(r, -4096, -4096, 0, 0);
        r.paint(0, NONE, before, 0);
        done("ahead of the PLANE", r, 0, 0, 0);
        int more = Edge.box(r, -4096, -4096, 12287, 12287);
        r.paint(0, NONE, more, 0);
        done("more than the PLANE", r, 2, 0, 0);
    }

    /** A LEAF that reaches one sample of a DOT alone, at the edges of TILES and of the PLANE. */
    private static void countsAtTheLastDots() {
        for (int dot : new int[] {0, 7, 8, 15, 16, 24, 31}) {
            RasterHouse r = new RasterHouse();
            r.plane(5, 32, 32);
            int at = 256 * dot;
            int[][] boxes = {{at + 8, at, at + 9, at + 256}, {at, at + 8, at + 256, at + 9}, {at + 248, at, at + 249, at + 256},
                {at, at + 248, at + 256, at + 249}, {at, at, at + 256, at + 256}};
            for (int[] b : boxes) {
                int s = Edge.box(r, b[0], b[1], b[2], b[3]);
                r.style(s, 0, 1);
                r.paint(0, NONE, s, 0);
                done("dot " + dot, r, 1, 0, 0);
                Check.due("dot " + dot, r.dot(0, dot, dot), b[2] - b[0] == 256 && b[3] - b[1] == 256 ? 16 : 1);
                r.undo();
            }
        }
    }

    /** "how many of these it COVERS, and all its FRAMES, too (as they lie moved)". */
    private static void countsThroughFrames() {
        RasterHouse r = new RasterHouse();
        r.plane(5, 1, 1);
        int leaf = Edge.box(r, 0, 0, 144, 256);
        r.style(leaf, 0, 1);
        int frame = Edge.box(r, 32, 0, 256, 256);
        int clip = Edge.nest(r, 9, frame, leaf);
        Check.due("samples 2 to 8", r.covered(clip, 0, 0), 7);
        r.paint(0, NONE, clip, 0);
        Check.due("c is 7", r.dot(0, 0, 0), 7);
        int few = Edge.box(r, 0, 0, 256, 24);
        int both = Edge.nest(r, 9, few, clip);
        // of samples 2 to 8 none lies in the first 24 lines
        r.paint(0, NONE, both, 0);
        done("no sample through both", r, 0, 0, 0);
        r.move(few, 0, 16);
        // lines 16 to 39 hold the samples at 24 (k 13) and at 40 is out: none again
        r.paint(0, NONE, both, 0);
        done("no sample through both", r, 0, 0, 0);
        r.move(few, 0, 24);
        // lines 40 to 63 hold the samples at 40 (k 10) and 56 (k 7)
        r.paint(0, NONE, both, 0);
        Check.due("c is 1 more", r.dot(0, 0, 0), 8);
    }

    /** "each if c is 8 or more"; "DEPTHS: its DEPTH, if c is 8 or more. CODES: its CODE, if c is 8 or more." */
    private static void eightOrMore() {
        for (int c = 1; c <= 16; c++) {
            boolean enough = c >= 8;
            RasterHouse depth = painted(2, 5, c, 1, -32768);
            Check.due("DEPTH, c is " + c, depth.dot(0, 0, 0), enough ? -32768 : 5);
            done("DEPTH, c is " + c, depth, enough ? 1 : 0, 0, 0);
            RasterHouse code = painted(3, 5, c, 2, 65535, 1, 9);
            Check.due("CODE, c is " + c, code.dot(0, 0, 0), enough ? 65535 : 5);
            done("CODE, c is " + c, code, enough ? 1 : 0, 0, 0);
            RasterHouse grey = painted(1, 5, c, 0, 5);
            done("GREY, c is " + c, grey, 1, 0, 0);
        }
        Check.due("DEPTH 32767", painted(2, 5, 8, 1, 32767, 3, 11).dot(0, 0, 0), 32767);
        Check.due("CODE 0", painted(3, 5, 8, 2, 0, 3, 1).dot(0, 0, 0), 0);
    }

    /** "MASKS: m % 4 is 0: yes, 1: no, 2: turned, each if c is 8 or more; 3: yes." */
    private static void masksByMode() {
        for (int m = 0; m < 12; m++) {
            for (int was = 0; was < 2; was++) {
                for (int c : new int[] {1, 7, 8, 16}) {
                    RasterHouse r = painted(0, was, c, 3, m);
                    int then = m % 4 == 1 ? 0 : m % 4 == 2 ? 1 - was : 1;
                    boolean written = c >= 8 || m % 4 == 3;
                    String what = "mode " + m + ", c " + c + " over " + was;
                    Check.due(what, r.dot(0, 0, 0), written ? then : was);
                    done(what, r, written ? 1 : 0, 0, 0);
                }
            }
        }
    }

    /** "(With c less, where that is asked, nothing is written; WRITTEN are all others, also if the DOT stays what it was.)" */
    private static void writtenAlsoIfItStays() {
        done("a MASK that is", painted(0, 1, 8), 1, 0, 0);
        done("a CODE that is", painted(3, 9, 8, 2, 9), 1, 0, 0);
        done("a GREY by mode 1", painted(1, 9, 1, 3, 1), 1, 0, 0);
        done("a COLOUR by mode 1", painted(4, 9, 1, 3, 1), 1, 0, 0);
        done("a SUM of COLOUR 0", painted(5, 9, 1), 1, 0, 0);
        done("a LIGHT by mode 1", painted(7, 9, 1, 3, 1), 1, 0, 0);
        RasterHouse r = new RasterHouse();
        r.plane(5, 8, 8);
        int s = Edge.samples(r, 0, 0, 1);
        r.paint(0, NONE, s, 0);
        Check.due("then it is a ROW", r.size(0, 3), 1);
        Check.due("and an ACT", r.undo(), 0);
        Check.due("NOTHING again", r.size(0, 3), 0);
    }

    /** "if the DOT is a HOLE ..: it is MISSED, no more". */
    private static void missedDots() {
        for (int kind = 0; kind < 8; kind++) {
            for (int c : new int[] {1, 16}) {
                RasterHouse r = new RasterHouse();
                r.plane(kind, 8, 8);
                int s = Edge.samples(r, 1, 0, c);
                r.style(s, 3, 3);
                r.tile(0, 0, 0, (kind + 1) % 8, 64);
                r.paint(0, NONE, s, 0);
                done("of another KIND, c " + c, r, 0, 0, 1);
                r.tile(0, 0, 0, kind, 1);
                r.paint(0, NONE, s, 0);
                done("no such CELL, c " + c, r, 0, 0, 1);
                r.tile(0, 0, 0, kind, 2);
                r.paint(0, NONE, s, 0);
                boolean asks = kind == 2 || kind == 3;
                done("the last CELL, c " + c, r, asks && c < 8 ? 0 : 1, 0, 0);
            }
        }
        RasterHouse r = new RasterHouse();
        r.plane(4, 8, 8);
        int all = Edge.box(r, 0, 0, 2048, 2048);
        r.tile(0, 0, 0, 4, 0);
        r.paint(0, NONE, Edge.nest(r, 8, all, all), 0);
        done("each LEAF at each DOT", r, 0, 0, 128);
        Check.due("the ROW stays", r.row(0, 0, 0, 1), 0);
    }

    /** "or there is a DEPTH PLANE and its DOT is a HOLE: it is MISSED, no more". */
    private static void missedOfDepthPlanes() {
        for (int kind : new int[] {2, 6, 7}) {
            RasterHouse r = new RasterHouse();
            r.plane(5, 8, 8);
            r.plane(kind, 8, 8);
            int s = Edge.samples(r, 1, 0, 16);
            r.style(s, 0, 1);
            r.style(s, 1, -5);
            r.tile(1, 0, 0, 1, 64);
            r.paint(0, 1, s, 0);
            done("a DEPTH of another KIND", r, 0, 0, 1);
            r.tile(1, 0, 0, kind, 1);
            r.paint(0, 1, s, 0);
            done("no such CELL of the DEPTH PLANE", r, 0, 0, 1);
            Check.due("the PLANE is not painted", r.size(0, 3), 0);
            r.tile(0, 0, 0, 5, 0);
            r.paint(0, 1, s, 0);
            done("both are HOLES: once", r, 0, 0, 1);
            r.tile(1, 0, 0, kind, 64);
            r.paint(0, 1, s, 0);
            done("a HOLE of the PLANE alone", r, 0, 0, 1);
            Check.number("the DEPTH PLANE is not painted", r.glow(1, 1, 0), 0);
            r.style(s, 1, 5);
            r.paint(0, 1, s, 0);
            done("MISSED ahead of BEHIND", r, 0, 0, 1);
            r.paint(0, NONE, s, 0);
            done("without a DEPTH PLANE", r, 0, 0, 1);
        }
    }

    /** A GREY of one DOT over a DEPTH PLANE that is the WORD e (or no number, or infinite), painted with a DEPTH by a TEST. */
    private static boolean passes(int kind, long e, int doublings, int test, int depth, boolean spoiled) {
        RasterHouse r = new RasterHouse();
        r.plane(1, 1, 1);
        r.plane(kind, 1, 1);
        r.put(1, 0, 0, e);
        for (int i = 0; i < doublings; i++) r.grade(1, 7);
        if (spoiled) r.spoil(1, 0, 0);
        int s = Edge.samples(r, 0, 0, 8);
        r.style(s, 4, test);
        r.style(s, 1, depth);
        r.style(s, 0, 7);
        r.paint(0, 1, s, 0);
        int pass = r.done(2);
        done("passes or is behind", r, pass, 1 - pass, 0);
        Check.due("painted if it passes", r.dot(0, 0, 0), pass == 1 ? 4 : 0);
        if (pass == 1) Check.number("the DEPTH if it passes", r.glow(1, 0, 0), depth);
        return pass == 1;
    }

    private static void test(String what, int kind, long e, int depth, boolean... due) {
        for (int test = 0; test < 3; test++) {
            boolean got = passes(kind, e, 0, test, depth, false);
            Check.due(what + ", kind " + kind + ", test " + test, got ? 1 : 0, due[test] ? 1 : 0);
        }
    }

    /** "it PASSES, if its DEPTH is below e (TEST 0), not above (1), e is a number, also an infinite one (2)". */
    private static void testsOfDepth() {
        for (int kind : new int[] {2, 6, 7}) {
            long one = kind == 2 ? 1 : 8;
            test("below", kind, 5 * one, 4, true, true, true);
            test("as deep", kind, 5 * one, 5, false, true, true);
            test("above", kind, 5 * one, 6, false, false, true);
            test("the greatest", kind, 32767 * one, 32767, false, true, true);
            test("the least", kind, -32768 * one, -32768, false, true, true);
            test("below 0", kind, -1 * one, -2, true, true, true);
            test("0", kind, 0, 0, false, true, true);
        }
        for (int kind : new int[] {6, 7}) {
            test("5 is below 5.125", kind, 41, 5, true, true, true);
            test("6 is above 5.125", kind, 41, 6, false, false, true);
            test("-5 is above -5.125", kind, -41, -5, false, false, true);
            test("a number that no DEPTH is", kind, MOST, 32767, true, true, true);
            test("a number that no DEPTH is", kind, LEAST, -32768, false, false, true);
        }
    }

    /** "what is no number passes none", and infinite ones. */
    private static void testsOfInfiniteDepth() {
        for (int test = 0; test < 3; test++) {
            for (int kind : new int[] {6, 7}) {
                for (int depth : new int[] {-32768, 0, 32767}) {
                    Check.due("no number", passes(kind, 0, 0, test, depth, true) ? 1 : 0, 0);
                }
            }
            for (int depth : new int[] {-32768, 0, 32767}) {
                Check.due("below what is above all", passes(6, MOST, 68, test, depth, false) ? 1 : 0, 1);
                Check.due("above what is below all", passes(6, LEAST, 68, test, depth, false) ? 1 : 0, test == 2 ? 1 : 0);
            }
        }
        RasterHouse r = new RasterHouse();
        r.plane(1, 1, 1);
        r.plane(7, 1, 1);
        r.put(1, 0, 0, 0);
        r.grade(1, 5);
        int s = Edge.samples(r, 0, 0, 16);
        r.paint(0, 1, s, 0);
        done("0 is not below -0.0", r, 0, 1, 0);
        r.style(s, 4, 1);
        r.paint(0, 1, s, 0);
        done("0 is not above -0.0", r, 1, 0, 0);
    }

    /** "else, if c is 8 or more, the DOT of the DEPTH PLANE becomes the number DEPTH (not by eighths)". */
    private static void depthsWritten() {
        for (int kind : new int[] {2, 6, 7}) {
            for (int c : new int[] {1, 7, 8, 16}) {
                for (int depth : new int[] {-32768, 3, 32767}) {
                    RasterHouse r = new RasterHouse();
                    r.plane(5, 1, 1);
                    r.plane(kind, 1, 1);
                    int s = Edge.samples(r, 0, 0, c);
                    r.style(s, 0, 1);
                    r.style(s, 1, depth);
                    r.style(s, 4, 2);
                    r.paint(0, 1, s, 0);
                    done("c " + c, r, 1, 0, 0);
                    Check.due("the PLANE is painted, also if c is less", r.dot(0, 0, 0), c);
                    Check.number("the number, c " + c, r.glow(1, 0, 0), c >= 8 ? depth : 0);
                    Check.due("its WORD, c " + c, r.dot(1, 0, 0), c >= 8 ? kind == 2 ? depth : 8L * depth : 0);
                    Check.due("NOTHING, if c is less", r.size(1, 3), c >= 8 ? 1 : 0);
                }
            }
        }
    }

    /** "where it does not pass, it is BEHIND, no more"; a later LEAF finds the DEPTH of the one before. */
    private static void behindIsNoMore() {
        RasterHouse r = new RasterHouse();
        r.plane(3, 8, 8);
        r.plane(2, 8, 8);
        r.blank(1, 10);
        int[] depth = {5, 5, 4, 20};
        int[] leaves = new int[4];
        for (int i = 0; i < 4; i++) {
            leaves[i] = Edge.samples(r, 0, 0, i == 2 ? 7 : 8);
            r.style(leaves[i], 1, depth[i]);
            r.style(leaves[i], 2, 100 + i);
        }
        r.paint(0, 1, Edge.nest(r, 8, leaves), 1);
        // the first is written; the second is not below 5; the third passes with c 7: neither written nor behind; the fourth is behind
        done("of four LEAVES", r, 1, 2, 0);
        Check.due("the first's CODE", r.dot(0, 0, 0), 100);
        Check.due("the first's DEPTH", r.dot(1, 0, 0), 5);
        r.style(leaves[3], 1, 5);
        r.wipe(0, 0, 0);
        r.paint(0, 1, leaves[3], 0);
        done("not below", r, 0, 1, 0);
        Check.due("NOTHING yet", r.size(0, 3), 0);
        RasterHouse q = new RasterHouse();
        q.plane(3, 8, 8);
        q.plane(7, 8, 8);
        q.paint(0, 1, Edge.samples(q, 0, 0, 1), 0);
        done("BEHIND with one sample", q, 0, 1, 0);
    }

    /** "SUMS: c times its COLOUR (with sign) more", with Java's wrap-around. */
    private static void sumsWrapAround() {
        Check.due("beyond the greatest", painted(5, MOST, 16, 0, 1).dot(0, 0, 0), LEAST + 15);
        Check.due("below the least", painted(5, LEAST, 1, 0, -1).dot(0, 0, 0), MOST);
        Check.due("16 times the greatest int", painted(5, 0, 16, 0, 2147483647).dot(0, 0, 0), 34359738352L);
        Check.due("16 times the least int", painted(5, 0, 16, 0, -2147483648).dot(0, 0, 0), -34359738368L);
    }

    private static void grey(int mode, int s, int d, int due) {
        RasterHouse r = painted(1, d, 16, 3, mode, 0, 0x7F3C5500 | s);
        Check.due("mode " + mode + ", " + s + " over " + d, r.dot(0, 0, 0), due);
    }

    /** "GREYS: with d the GREY and s the lowest byte of COLOUR": what is held at 0 and 255, and the two halves of mode 11. */
    private static void greys() {
        int[][] held = {{2, 100, 155, 255}, {2, 100, 156, 255}, {2, 100, 154, 254}, {2, 255, 255, 255}, {3, 100, 100, 0},
            {3, 101, 100, 0}, {3, 99, 100, 1}, {3, 255, 0, 0}};
        for (int[] h : held) grey(h[0], h[1], h[2], h[3]);
        int[][] rounded = {{4, 255, 255, 255}, {4, 255, 1, 1}, {4, 1, 127, 0}, {4, 1, 128, 1}, {4, 2, 64, 1}, {4, 2, 63, 0},
            {5, 0, 0, 0}, {5, 255, 0, 255}, {5, 254, 127, 254}, {5, 254, 128, 255}, {5, 0, 77, 77}};
        for (int[] h : rounded) grey(h[0], h[1], h[2], h[3]);
        int[][] others = {{0, 200, 3, 200}, {1, 200, 3, 3}, {6, 4, 3, 3}, {6, 3, 4, 3}, {7, 4, 3, 4}, {7, 3, 4, 4},
            {8, 4, 9, 5}, {8, 9, 4, 5}, {8, 255, 0, 255}, {9, 255, 170, 85}, {9, 85, 85, 0}, {10, 0, 0, 0}, {10, 0, 1, 1},
            {10, 1, 1, 1}, {10, 255, 254, 255}, {10, 255, 255, 255}};
        for (int[] h : others) grey(h[0], h[1], h[2], h[3]);
        // below 128: (2 * 127 * 200 + 127) / 255 = 199; from 128 on: 255 - (2 * 127 * 55 + 127) / 255 = 200
        int[][] halves = {{11, 127, 200, 199}, {11, 128, 200, 200}, {11, 0, 255, 0}, {11, 255, 0, 255}, {11, 127, 255, 254},
            {11, 128, 0, 1}, {11, 127, 0, 0}, {11, 128, 255, 255}, {11, 1, 63, 0}, {11, 1, 64, 1}, {11, 1, 191, 1},
            {11, 1, 192, 2}, {11, 254, 192, 255}, {11, 254, 191, 254}, {11, 254, 64, 254}, {11, 254, 63, 253}};
        for (int[] h : halves) grey(h[0], h[1], h[2], h[3]);
    }

    /** "FLOOR((d (16 - c) + B c + 8) / 16)". */
    private static void greysByCounts() {
        int[][] due = {{0, 1, 7, 0}, {0, 1, 8, 1}, {1, 0, 8, 1}, {1, 0, 9, 0}, {0, 255, 1, 16}, {255, 0, 1, 239},
            {255, 255, 5, 255}, {100, 200, 16, 200}, {100, 200, 15, 194}, {100, 200, 1, 106}, {3, 2, 8, 3}};
        for (int[] v : due) {
            RasterHouse r = painted(1, v[0], v[2], 0, v[1]);
            Check.due(v[1] + " over " + v[0] + " by " + v[2], r.dot(0, 0, 0), v[3]);
        }
        Check.due("d - s is 0 at least, by half", painted(1, 10, 8, 0, 20, 3, 3).dot(0, 0, 0), 5);
        Check.due("d - s is 0 at least, by half", painted(1, 1, 8, 0, 2, 3, 3).dot(0, 0, 0), 1);
        Check.due("s + d is 255 at most, by half", painted(1, 200, 8, 0, 200, 3, 2).dot(0, 0, 0), 228);
    }

    /** "COLOURS: each of the four bytes so, with that of COLOUR." */
    private static void coloursByBytes() {
        int over = 0xFF00FF80, under = 0x00FF8001;
        int[] due = {0xFF00FF80, 0x00FF8001, 0xFFFFFF81, 0x00FF0000, 0x00008001, 0xFFFFFF80, 0x00008001, 0xFFFFFF80,
            0xFFFF7F7F, 0xFFFF7F81, 0x8080C041, 0xFF00FF02};
        for (int mode = 0; mode < 12; mode++) {
            Check.due("mode " + mode, painted(4, under, 16, 3, mode, 0, over).dot(0, 0, 0), due[mode]);
        }
        Check.due("by half", painted(4, 0x00FF0001, 8, 0, 0xFF00FF00).dot(0, 0, 0), 0x80808001);
        Check.due("none carries over", painted(4, 0xFFFFFFFF, 16, 0, 0x01010101, 3, 2).dot(0, 0, 0), -1);
        Check.due("none borrows", painted(4, 0x00000000, 16, 0, 0x01010101, 3, 3).dot(0, 0, 0), 0);
    }

    private static void light(int mode, int light, double v, double due) {
        for (int kind = 6; kind < 8; kind++) {
            RasterHouse r = painted(kind, (long) (v * 8), 16, 3, mode, 11, light);
            Check.number("kind " + kind + ", mode " + mode + ", LIGHT " + light + " over " + v, r.glow(0, 0, 0), due);
        }
    }

    /** "B by m: 0 l; 1 v; 2 v + l; .. 11 v % l", at LIGHT 0, below and above it, and at its ends. */
    private static void lightsByMode() {
        double[] up = {1.5, 5, 6.5, 3.5, 7.5, -1, 1.5, 5, 3.5, 5, 3.25, 0.5};
        double[] down = {-1.5, 5, 3.5, 6.5, -7.5, 11, -1.5, 5, 6.5, -5, 1.75, 0.5};
        double[] under = {1.5, -5, -3.5, -6.5, -7.5, 4, -5, 1.5, 6.5, 5, -1.75, -0.5};
        double[] zero = {0, 5, 5, 5, 0, 5, 0, 5, 5, 5, 2.5, -1};
        double[] most = {1000, 5, 1005, -995, 5000, -3995, 5, 1000, 995, 5, 502.5, 5};
        double[] least = {-1000, 5, -995, 1005, -5000, 4005, -1000, 5, 1005, -5, -497.5, 5};
        for (int mode = 0; mode < 12; mode++) {
            light(mode, 12, 5, up[mode]);
            light(mode, -12, 5, down[mode]);
            light(mode, 12, -5, under[mode]);
            light(mode, 0, 5, zero[mode]);
            light(mode, 8000, 5, most[mode]);
            light(mode, -8000, 5, least[mode]);
        }
        light(9, 0, -5, 5);
        light(9, -1, -5, -5);
        light(9, 1, 5, 5);
        light(8, 40, 5, 0);
        light(6, 40, 5, 5);
        light(7, 40, 5, 5);
    }

    /** "it becomes v + (B - v) * (c / 16)". */
    private static void lightsByCounts() {
        for (int kind = 6; kind < 8; kind++) {
            for (int c = 1; c <= 16; c++) {
                Check.number("from 1 to 17 by " + c, painted(kind, 8, c, 11, 136).glow(0, 0, 0), 1 + c);
                Check.number("from 1 to 2 by " + c, painted(kind, 8, c, 11, 16).glow(0, 0, 0), 1 + c * 0.0625);
                Check.number("mode 1 by " + c, painted(kind, -13, c, 3, 1).glow(0, 0, 0), -1.625);
            }
        }
    }

    /** "but -1.0, if v, B or that is no number". */
    private static void lightsOfNoNumber() {
        for (int kind = 6; kind < 8; kind++) {
            for (int mode = 0; mode < 12; mode++) {
                for (int c : new int[] {1, 16}) {
                    RasterHouse r = new RasterHouse();
                    r.plane(kind, 2, 2);
                    r.spoil(0, 0, 0);
                    int s = Edge.samples(r, 0, 0, c);
                    r.style(s, 3, mode);
                    r.paint(0, NONE, s, 0);
                    Check.number("v is no number, mode " + mode, r.glow(0, 0, 0), -1.0);
                    Check.due("it is one then", r.sort(0, 0, 0), 0);
                    done("it is WRITTEN", r, 1, 0, 0);
                }
            }
            for (long v : new long[] {0, 40, -40, MOST}) {
                Check.number("the rest by 0", painted(kind, v, 16, 3, 11, 11, 0).glow(0, 0, 0), -1.0);
                Check.number("the rest by 0, one sample", painted(kind, v, 1, 3, 11, 11, 0).glow(0, 0, 0), -1.0);
            }
        }
    }

    /** A plane of GLOWS whose one DOT is 1.5 times 2^k, with a box over c samples of it as SHAPE 0. */
    private static RasterHouse great(int k, boolean turned, int c) {
        RasterHouse r = new RasterHouse();
        r.plane(6, 1, 1);
        r.put(0, 0, 0, turned ? -12 : 12);
        for (int i = 0; i < k; i++) r.grade(0, 7);
        Edge.samples(r, 0, 0, c);
        return r;
    }

    /** Infinite ones: what is beyond all numbers is no number only where it is taken from itself. */
    private static void lightsBeyondAllNumbers() {
        for (int mode = 0; mode < 12; mode++) {
            for (int c : new int[] {1, 16}) {
                RasterHouse r = great(128, mode % 2 == 0, c);
                Check.due("infinite", r.sort(0, 0, 0), mode % 2 == 0 ? 2 : 1);
                r.style(0, 3, mode);
                r.style(0, 11, 20);
                r.paint(0, NONE, 0, 0);
                Check.number("from an infinite one, mode " + mode, r.glow(0, 0, 0), -1.0);
            }
        }
        int[][] due = {{2, 8, 0}, {3, 8, 0}, {4, 16, 1}, {4, -16, 2}, {5, 24, 2}, {5, -16, 1}, {10, 8000, 0}, {0, 8000, 0}};
        for (int[] d : due) {
            RasterHouse r = great(127, false, 16);
            r.style(0, 3, d[0]);
            r.style(0, 11, d[1]);
            r.paint(0, NONE, 0, 0);
            Check.due("B beyond all numbers, mode " + d[0] + ", LIGHT " + d[1], r.sort(0, 0, 0), d[2]);
        }
        RasterHouse r = great(127, true, 1);
        r.style(0, 3, 9);
        r.paint(0, NONE, 0, 0);
        Check.due("B - v beyond all numbers", r.sort(0, 0, 0), 1);
        RasterHouse q = great(127, true, 16);
        q.style(0, 3, 8);
        q.paint(0, NONE, 0, 0);
        Check.due("B - v beyond all numbers", q.sort(0, 0, 0), 1);
    }

    /** "(all in floats, in doubles)": each step is rounded as its KIND is. */
    private static void floatsAndDoubles() {
        long v = 16777216 * 8L;
        Check.number("2^24 + 1 in floats", painted(6, v, 16, 3, 2, 11, 8).glow(0, 0, 0), 16777216.0);
        Check.number("2^24 + 1 in doubles", painted(7, v, 16, 3, 2, 11, 8).glow(0, 0, 0), 16777217.0);
        Check.number("2^24 + 3 in floats", painted(6, v, 16, 3, 2, 11, 24).glow(0, 0, 0), 16777220.0);
        Check.number("2^24 + 3 in doubles", painted(7, v, 16, 3, 2, 11, 24).glow(0, 0, 0), 16777219.0);
        // (v + l) - v * l: in floats 16777216 - 16777216, in doubles 16777217 - 16777216
        Check.number("mode 5 in floats", painted(6, v, 16, 3, 5, 11, 8).glow(0, 0, 0), 0.0);
        Check.number("mode 5 in doubles", painted(7, v, 16, 3, 5, 11, 8).glow(0, 0, 0), 1.0);
        // 2^24 + (5 - 2^24) / 16 = 15728640.3125, and floats are whole there
        Check.number("a 16th in floats", painted(6, v, 1, 11, 40).glow(0, 0, 0), 15728640.0);
        Check.number("a 16th in doubles", painted(7, v, 1, 11, 40).glow(0, 0, 0), 15728640.3125);
    }

    /** "11 v % l": the sign of v, less than l without signs, exact. */
    private static void rests() {
        light(11, 20, 2.5, 0);
        light(11, 20, 2.375, 2.375);
        light(11, 20, 2.625, 0.125);
        light(11, -20, 2.625, 0.125);
        light(11, 20, -2.625, -0.125);
        light(11, -20, -2.625, -0.125);
        light(11, 20, 0, 0);
        light(11, 20, 0.5, 0.5);
        light(11, 20, -0.5, -0.5);
        light(11, 4, 1, 0);
        light(11, 4, -1, 0);
        light(11, 5, 1, 0.375);
        light(11, 1, 12345.875, 0);
        light(11, 8000, 2999.875, 999.875);
        light(11, 8000, -3000, 0);
        for (int kind = 6; kind < 8; kind++) {
            // 2^60 is 1152921504606846976; by 7 the rest is 1 (2^3 is 1 more than 7): 2^60 = (2^3)^20
            RasterHouse r = painted(kind, MOST, 16, 3, 11, 11, 56);
            Check.number("v + (1 - v) of 2^60", r.glow(0, 0, 0), 0.0);
            RasterHouse q = painted(kind, 16777217L * 8, 16, 3, 11, 11, 16);
            Check.number("an odd number by 2", q.glow(0, 0, 0), kind == 6 ? 0.0 : 1.0);
        }
    }

    /** "FINE 0: u = FLOOR((256 x + 128 - X0) WIDTH / (X1 - X0)), held 0 .. WIDTH - 1, v likewise". */
    private static void plainTextures() {
        RasterHouse r = new RasterHouse();
        r.plane(4, 3, 2);
        for (int y = 0; y < 2; y++) for (int x = 0; x < 3; x++) r.put(0, x, y, 10 * y + x + 1);
        // X0 = 640, 384 * 3 wide; Y0 = 512, 512 high: the middles of dots 4, 5, 6 are at 512, 768, 1024 of 1152
        Edge.make(r, 7, 640, 512, 640 + 1152, 1024);
        r.style(0, 13, 0);
        int[][] due = {{0, 2, 1}, {2, 2, 1}, {3, 2, 1}, {4, 2, 2}, {5, 2, 3}, {6, 2, 3}, {7, 2, 3}, {31, 2, 3}, {3, 0, 1},
            {3, 3, 11}, {3, 4, 11}, {31, 31, 13}};
        for (int[] d : due) Check.due("at " + d[0] + ", " + d[1], r.colour(0, d[0], d[1]), d[2]);
        // 384 wide from 1 on: the middle of dot 0 is at 127, one ahead of the second third
        Edge.make(r, 7, 1, 0, 385, 512);
        r.style(1, 13, 0);
        Check.due("127 * 3 / 384 is below 1", r.colour(1, 0, 0), 1);
        r.move(1, -1, 0);
        Check.due("128 * 3 / 384 is 1", r.colour(1, 0, 0), 2);
        // 258 high from 0 on: the middle of dot 0 is one ahead of the second half
        int tall = Edge.make(r, 7, 0, 0, 1152, 258);
        r.style(tall, 13, 0);
        Check.due("128 * 2 / 258 is below 1", r.colour(tall, 0, 0), 1);
        r.move(tall, 0, -1);
        Check.due("129 * 2 / 258 is 1", r.colour(tall, 0, 0), 11);
        int thin = Edge.make(r, 7, 0, 0, 1, 1);
        r.style(thin, 13, 0);
        r.style(thin, 0, 77);
        Check.due("BOUNDS of 1 by 1 are not EMPTY", r.colour(thin, 0, 0), 13);
        r.plane(1, 1, 1);
        r.put(1, 0, 0, 0xC5);
        r.style(1, 13, 1);
        for (int x : new int[] {0, 1, 31}) Check.due("a GREY in all four bytes", r.colour(1, x, x), 0xC5C5C5C5);
        r.style(1, 14, 1);
        for (int x : new int[] {0, 1, 31}) Check.due("one DOT, FINE", r.colour(1, x, x), 0xC5C5C5C5);
        for (int kind : new int[] {0, 2, 3, 5, 6, 7}) {
            RasterHouse q = new RasterHouse();
            q.plane(kind, 1, 1);
            q.blank(0, 1);
            Edge.make(q, 7, 0, 0, 256, 256);
            q.style(0, 13, 0);
            q.style(0, 0, 77);
            Check.due("a TEXTURE of KIND " + kind, q.colour(0, 0, 0), 77);
            q.style(0, 10, 1);
            q.stop(0, 0, 88);
            Check.due("then its GRAIN", q.colour(0, 0, 0), 88);
        }
    }

    /** "FINE 1: U = FLOOR(..) - 128, held 0 .. 256 (WIDTH - 1), u = U / 256, f = U % 256 .. (held at the border)". */
    private static void fineTextures() {
        RasterHouse r = new RasterHouse();
        r.plane(1, 2, 1);
        r.put(0, 0, 0, 40);
        r.put(0, 1, 0, 200);
        // eight dots wide: U = 256 (256 x + 128) 2 / 2048 - 128 = 64 x - 96
        Edge.make(r, 7, 0, 0, 2048, 256);
        r.style(0, 13, 0);
        r.style(0, 14, 1);
        // U = -96, -32, 32, 96, 160, 224, 288, 352, held 0 .. 256
        int[] due = {40, 40, 60, 100, 140, 180, 200, 200};
        for (int x = 0; x < 8; x++) Check.due("dot " + x, r.colour(0, x, 0), due[x] * 0x01010101);
        Check.due("far behind", r.colour(0, 31, 31), 200 * 0x01010101);
        r.plane(4, 2, 2);
        int[] corners = {0xFF000000, 0x00FF0000, 0x0000FF00, 0x000000FF};
        for (int i = 0; i < 4; i++) r.put(1, i % 2, i / 2, corners[i]);
        Edge.make(r, 7, 0, 0, 1024, 1024);
        r.style(1, 13, 1);
        r.style(1, 14, 1);
        // U, V = 128 x - 64: dot 1 is 64, dot 2 is 192; (192 192, 64 192, 192 64, 64 64) 255 / 65536
        Check.due("dot 1, 1", r.colour(1, 1, 1), 143 << 24 | 47 << 16 | 47 << 8 | 15);
        Check.due("dot 2, 1", r.colour(1, 2, 1), 47 << 24 | 143 << 16 | 15 << 8 | 47);
        Check.due("dot 1, 2", r.colour(1, 1, 2), 47 << 24 | 15 << 16 | 143 << 8 | 47);
        Check.due("dot 2, 2", r.colour(1, 2, 2), 15 << 24 | 47 << 16 | 47 << 8 | 143);
        Check.due("held at the first", r.colour(1, 0, 0), 0xFF000000);
        Check.due("held at the last", r.colour(1, 3, 3), 0x000000FF);
        Check.due("held across", r.colour(1, 3, 0), 0x00FF0000);
        Check.due("held down", r.colour(1, 0, 3), 0x0000FF00);
        roundedDownTexture();
        stepsOfFineTextures();
        fineTexturesByTiles();
    }

    /** U (or V) of 255, 256 and 257: the last way from the first DOT, the second itself, the first way from it. */
    private static void stepsOfFineTextures() {
        int[] due = {199, 200, 199};
        for (int axis = 0; axis < 2; axis++) {
            RasterHouse r = new RasterHouse();
            r.plane(1, axis == 0 ? 3 : 1, axis == 0 ? 1 : 3);
            int[] greys = {0, 200, 100};
            for (int i = 0; i < 3; i++) r.put(0, axis == 0 ? i : 0, axis == 0 ? 0 : i, greys[i]);
            for (int i = 0; i < 3; i++) {
                int first = -255 - i;
                int s = Edge.make(r, 7, axis == 0 ? first : 0, axis == 0 ? 0 : first, axis == 0 ? first + 768 : 768,
                    axis == 0 ? 768 : first + 768);
                r.style(s, 13, 0);
                r.style(s, 14, 1);
                Check.due("U " + (255 + i), r.colour(s, 0, 0), due[i] * 0x01010101);
            }
        }
        RasterHouse r = new RasterHouse();
        r.plane(1, 2, 2);
        for (int i = 0; i < 4; i++) r.put(0, i % 2, i / 2, i == 3 ? 254 : 255);
        int s = Edge.make(r, 7, -1, -1, 511, 511);
        r.style(s, 13, 0);
        r.style(s, 14, 1);
        Check.due("cut, not rounded: f and g are 1", r.colour(s, 0, 0), 254 * 0x01010101);
        r.plane(1, 1, 2);
        r.put(1, 0, 0, 10);
        r.put(1, 0, 1, 20);
        int down = Edge.make(r, 7, 0, 0, 1024, 1024);
        r.style(down, 13, 1);
        r.style(down, 14, 1);
        Check.due("V below 0 is held", r.colour(down, 0, 0), 10 * 0x01010101);
        Check.due("V 64", r.colour(down, 0, 1), 12 * 0x01010101);
    }

    /** "(held at the border)", where the border is a TILE's and the PLANE's. */
    private static void fineTexturesByTiles() {
        for (int side : new int[] {1, 7, 8, 9, 16, 31, 32}) {
            RasterHouse r = new RasterHouse();
            r.plane(1, side, side);
            r.blank(0, 50);
            r.put(0, side - 1, side - 1, 90);
            int s = Edge.make(r, 7, 0, 0, 256, 256);
            r.style(s, 13, 0);
            r.style(s, 14, 1);
            Check.due("the last DOT of " + side, r.colour(s, 31, 31), 90 * 0x01010101);
            Check.due("the last DOT of " + side, r.colour(s, 1, 1), 90 * 0x01010101);
            r.style(s, 14, 0);
            Check.due("the last DOT of " + side, r.colour(s, 31, 31), 90 * 0x01010101);
        }
    }

    /** A bound that does not divide: FLOOR ahead of 128 less. */
    private static void roundedDownTexture() {
        RasterHouse r = new RasterHouse();
        r.plane(1, 2, 1);
        r.put(0, 1, 0, 255);
        Edge.make(r, 7, 100, 0, 1000, 256);
        r.style(0, 13, 0);
        r.style(0, 14, 1);
        // dot 1: 284 * 512 / 900 = 161.5, U = 33; dot 2: 540 * 512 / 900 = 307.2, U = 179
        Check.due("U = 33", r.colour(0, 1, 0), 255 * 33 / 256 * 0x01010101);
        Check.due("U = 179", r.colour(0, 2, 0), 255 * 179 / 256 * 0x01010101);
        r.move(0, 200, 0);
        // dot 1: 84 * 512 / 900 = 47.8, U = -81, held
        Check.due("held at 0", r.colour(0, 1, 0), 0);
        Check.due("below 0", r.colour(0, 0, 0), 0);
    }

    /** "(A HOLE there: the BLANK.)" */
    private static void texturesWithHoles() {
        for (int kind : new int[] {1, 4}) {
            RasterHouse r = new RasterHouse();
            r.plane(kind, 2, 1);
            r.blank(0, 0x10);
            int blank = kind == 1 ? 0x10101010 : 0x10;
            Edge.make(r, 7, 0, 0, 512, 256);
            r.style(0, 13, 0);
            Check.due("NOTHING", r.colour(0, 0, 0), blank);
            r.put(0, 0, 0, 0x30);
            r.tile(0, 0, 0, kind, 1);
            Check.due("a CELL that is there is 0", r.colour(0, 0, 0), 0);
            Check.due("no such CELL", r.colour(0, 1, 0), blank);
            r.blank(0, 0x20);
            Check.due("the BLANK as it is", r.colour(0, 1, 0), 2 * blank);
            r.style(0, 14, 1);
            Check.due("FINE, no such CELL", r.colour(0, 1, 0), 2 * blank);
            r.tile(0, 0, 0, kind == 1 ? 4 : 1, 64);
            Check.due("FINE, of another KIND", r.colour(0, 0, 0), 2 * blank);
            r.style(0, 14, 0);
            Check.due("of another KIND", r.colour(0, 0, 0), 2 * blank);
            Check.due("colour comes to no FAULT", r.finding(), 0);
        }
    }

    /** "t .., held 0 .. 256: at most the first place: its COLOUR; at the last or above: its COLOUR; else of the places p, q with p <= t < q". */
    private static void grainsBetweenPlaces() {
        RasterHouse r = new RasterHouse();
        Edge.box(r, 0, 0, 2560, 2560);
        int[] places = {12, 64, 140, 243};
        int[] colours = {0xFF000000, 0x00FF00FF, 0x000000FF, 0x01020304};
        for (int i = 0; i < 4; i++) r.stop(0, places[i], colours[i]);
        r.style(0, 0, 5);
        Check.due("GRAIN 0", r.colour(0, 5, 5), 5);
        for (int grain = 1; grain <= 2; grain++) {
            r.style(0, 10, grain);
            // t is 12, 38, 64, 89, 115, 140, 166, 192, 217, 243 at dots 0 to 9
            int[] due = {0xFF000000, 26 * 255 / 52 << 24 | 26 * 255 / 52 << 16 | 26 * 255 / 52, 0x00FF00FF,
                51 * 255 / 76 << 16 | 255, 25 * 255 / 76 << 16 | 255, 0x000000FF, 0x000000BF, 0x00010180, 0x00010243};
            for (int i = 0; i < 9; i++) {
                Check.due("GRAIN " + grain + " at " + i, r.colour(0, grain == 1 ? i : 31, grain == 1 ? 31 : i), due[i]);
            }
            Check.due("the last place", r.colour(0, grain == 1 ? 9 : 0, grain == 1 ? 0 : 9), 0x01020304);
            Check.due("above it", r.colour(0, grain == 1 ? 10 : 0, grain == 1 ? 0 : 10), 0x01020304);
            Check.due("held at 256", r.colour(0, 31, 31), 0x01020304);
        }
        RasterHouse q = new RasterHouse();
        Edge.box(q, 4096, 4096, 8192, 8192);
        q.style(0, 10, 1);
        q.style(0, 0, 5);
        Check.due("a GRAIN without STOPS", q.colour(0, 0, 0), 5);
        q.stop(0, 0, 66);
        Check.due("held at 0: at most the first place", q.colour(0, 0, 0), 66);
        Check.due("one STOP is the last, too", q.colour(0, 31, 0), 66);
        q.stop(0, 256, 255);
        Check.due("held at 0", q.colour(0, 0, 0), 66);
        // dot 31: (8064 - 4096) 256 / 4096 = 248
        Check.due("between", q.colour(0, 31, 0), (66 * 8 + 255 * 248) / 256);
        Edge.box(q, 4096, 0, 8192, 1);
        q.style(1, 10, 1);
        q.stop(1, 0, 255);
        q.stop(1, 256, 0);
        Check.due("held at 0, not above", q.colour(1, 0, 0), 255);
        // dot 16: 128 * 256 / 4096 = 8
        Check.due("between", q.colour(1, 16, 0), 255 * 248 / 256);
        Edge.box(q, 0, 0, 1, 1);
        q.style(2, 10, 1);
        q.stop(2, 9, 5);
        Check.due("BOUNDS of 1 by 1 are not EMPTY", q.colour(2, 0, 0), 5);
    }

    /** "COLOUR at DOT x, y .., by the LEAF's BOUNDS as it lies". */
    private static void coloursAsTheyLie() {
        RasterHouse r = new RasterHouse();
        r.plane(4, 16, 8);
        r.plane(4, 2, 1);
        r.put(1, 0, 0, 11);
        r.put(1, 1, 0, 22);
        Edge.make(r, 7, 0, 0, 512, 256);
        r.style(0, 13, 1);
        Edge.box(r, 0, 256, 1024, 512);
        r.style(1, 10, 1);
        r.stop(1, 0, 0);
        r.stop(1, 256, 256);
        Edge.nest(r, 8, 0, 1);
        r.move(2, 1024, 512);
        r.paint(0, NONE, 2, 0);
        Check.due("a PICTURE moved", r.dot(0, 4, 2), 11);
        Check.due("a PICTURE moved", r.dot(0, 5, 2), 22);
        Check.due("beside it", r.dot(0, 6, 2), 0);
        int[] grain = {0, 0, 0, 0};
        for (int x = 0; x < 4; x++) grain[x] = r.colour(1, x, 0);
        for (int x = 0; x < 4; x++) Check.due("a GRAIN moved", r.dot(0, 4 + x, 3), grain[x]);
        Check.due("of itself it lies as it is", r.colour(0, 4, 2), 22);
        Edge.nest(r, 9, Edge.samples(r, 5, 2, 16), 2);
        r.wipe(0, 0, 0);
        r.paint(0, NONE, 4, 0);
        Check.due("a FRAME leaves the LEAF's BOUNDS", r.dot(0, 5, 2), 22);
        Check.due("though nothing else shows", r.dot(0, 4, 2), 0);
    }

    /** "with EMPTY BOUNDS its STYLE's. 0: UNKNOWN, OUTSIDE." */
    private static void coloursOfEmptyBounds() {
        RasterHouse r = new RasterHouse();
        r.plane(4, 1, 1);
        r.blank(0, 9);
        int[][] flat = {{5, 5, 5, 900}, {5, 5, 900, 5}, {5, 5}, {}};
        for (int[] at : flat) {
            int s = Edge.make(r, 7, at);
            r.style(s, 13, 0);
            r.style(s, 10, 1);
            r.stop(s, 0, 8);
            r.style(s, 0, 7);
            Check.due("EMPTY", r.bounds(s, 4), 1);
            Check.due("its STYLE's", r.colour(s, 0, 0), 7);
            r.style(s, 10, 2);
            Check.due("its STYLE's", r.colour(s, 31, 31), 7);
        }
        for (int sort = 0; sort < 8; sort++) {
            int s = r.shape(sort);
            r.style(s, 0, 7);
            r.style(s, 10, 1);
            r.stop(s, 0, 8);
            Check.due("without POINTS its STYLE's", r.colour(s, 0, 0), 7);
            Check.due("OUTSIDE", r.colour(s, 32, 0), 0);
            Check.due("OUTSIDE", r.colour(s, 0, 32), 0);
            Check.due("OUTSIDE", r.colour(s, -1, 0), 0);
            Check.due("OUTSIDE", r.colour(s, 0, -1), 0);
        }
        int text = Edge.make(r, 6, 0, 0);
        r.style(text, 0, 7);
        r.style(text, 10, 1);
        r.stop(text, 0, 8);
        Check.due("a TEXT without LETTERS is EMPTY", r.colour(text, 0, 0), 7);
        r.say(text, 0);
        Check.due("with one it is not", r.colour(text, 0, 0), 8);
        Check.due("UNKNOWN", r.colour(text + 1, 0, 0), 0);
    }

    /** "UNITS are one LEAF on one TILE": as many as LEAVES by TILES, whatever they cover. */
    private static void unitsOfJobs() {
        int[][] sides = {{1, 1, 1}, {8, 8, 1}, {9, 8, 2}, {8, 9, 2}, {9, 9, 4}, {32, 32, 16}, {25, 1, 4}};
        for (int[] side : sides) {
            RasterHouse r = new RasterHouse();
            r.plane(1, side[0], side[1]);
            r.shape(2);
            Edge.nest(r, 8, 0, 0, 0);
            Edge.nest(r, 9, 0, 1);
            Check.due("a LEAF without POINTS", r.paint(0, NONE, 0, 0), side[2]);
            Check.due("three LEAVES", r.paint(0, NONE, 1, 1), 3 * side[2]);
            Check.due("a FRAME is no LEAF", r.begin(0, NONE, 2, 0), 3 * side[2]);
            Check.due("UNITS not done", r.done(1), 3 * side[2]);
            Check.due("UNITS done", r.done(0), 0);
            Check.due("UNITS that count", r.told(4), 7 * side[2]);
        }
    }

    /** "by WAY 0 LEAF by LEAF, each by TILES, by WAY 1 TILE by TILE, each by LEAVES"; TILES "by Y, then X". */
    private static void waysOfJobs() {
        for (int way = 0; way < 2; way++) {
            RasterHouse r = new RasterHouse();
            r.plane(5, 16, 16);
            int a = Edge.box(r, 0, 0, 4096, 4096), b = Edge.box(r, 0, 0, 4096, 4096);
            r.style(a, 0, 1);
            r.style(b, 0, 100);
            Check.due("UNITS", r.begin(0, NONE, Edge.nest(r, 8, a, b), way), 8);
            for (int unit = 0; unit < 8; unit++) {
                Check.due("one UNIT", r.go(1), 1);
                for (int tile = 0; tile < 4; tile++) {
                    boolean first = way == 0 ? unit >= tile : unit >= 2 * tile;
                    boolean second = way == 0 ? unit >= 4 + tile : unit >= 2 * tile + 1;
                    Check.due("way " + way + ", unit " + unit + ", tile " + tile, r.dot(0, tile % 2 * 8 + 7, tile / 2 * 8 + 7),
                        (first ? 16 : 0) + (second ? 1600 : 0));
                }
                Check.due("UNITS done", r.done(0), unit + 1);
                Check.due("UNITS not done", r.done(1), 7 - unit);
                Check.due("WRITTEN", r.done(2), 64 * (unit + 1));
                Check.due("under way", r.done(5), unit < 7 ? 1 : 0);
            }
        }
    }

    /** "with none it ends at once". */
    private static void jobsOfNoUnits() {
        RasterHouse r = new RasterHouse();
        r.plane(1, 32, 32);
        int s = Edge.box(r, 0, 0, 256, 256);
        r.paint(0, NONE, s, 0);
        int[] nests = {r.shape(8), r.shape(9), Edge.nest(r, 9, s)};
        int acts = 1;
        for (int nest : nests) {
            for (int way = 0; way < 2; way++) {
                Check.due("no UNITS", r.begin(0, NONE, nest, way), 0);
                Check.due("it has ended", r.told(5), 0);
                for (int what = 0; what < 6; what++) Check.due("done " + what, r.done(what), 0);
                Check.due("no UNITS", r.paint(0, NONE, nest, way), 0);
                Check.due("it is over", r.go(0), STATE);
                Check.due("it is over", r.halt(), STATE);
                acts += 2;
                Check.due("each is an ACT", r.told(2), acts);
            }
        }
        Check.due("UNITS that count", r.told(4), 16);
    }

    /** "Up to n (0 .. 2000) UNITS more of the JOB; it ends with its last: how many were done." */
    private static void unitsThatGo() {
        RasterHouse r = new RasterHouse();
        r.plane(5, 32, 32);
        int s = Edge.box(r, 0, 0, 8192, 8192);
        r.style(s, 0, 1);
        r.begin(0, NONE, s, 0);
        Check.due("none", r.go(0), 0);
        Check.due("under way yet", r.told(5), 1);
        Check.due("2001", r.go(2001), OUTSIDE);
        Check.due("-1", r.go(-1), OUTSIDE);
        Check.due("15", r.go(15), 15);
        Check.due("under way yet", r.told(5), 1);
        Check.due("no ACT yet", r.told(2), 0);
        Check.due("none", r.go(0), 0);
        Check.due("the last of 2000", r.go(2000), 1);
        Check.due("it ends with its last", r.told(5), 0);
        Check.due("an ACT", r.told(2), 1);
        Check.due("no JOB", r.go(0), STATE);
        Check.due("UNITS done", r.done(0), 16);
        Check.due("WRITTEN", r.done(2), 1024);
        r.begin(0, NONE, s, 1);
        Check.due("just all", r.go(16), 16);
        Check.due("it ends", r.done(5), 0);
    }

    /** "The JOB is halted: how many UNITS it had yet." and "Of the JOB, or the latest one (0 ahead of any)". */
    private static void haltedJobs() {
        RasterHouse r = new RasterHouse();
        r.plane(5, 16, 8);
        int s = Edge.box(r, 0, 0, 4096, 4096);
        r.style(s, 0, 1);
        for (int what = 0; what < 6; what++) Check.due("ahead of any", r.done(what), 0);
        r.begin(0, NONE, s, 0);
        Check.due("none was done", r.halt(), 2);
        Check.due("UNITS not done", r.done(1), 2);
        Check.due("it is over", r.halt(), STATE);
        Check.due("an ACT", r.told(2), 1);
        r.begin(0, NONE, s, 0);
        r.go(1);
        Check.due("one was done", r.halt(), 1);
        Check.due("UNITS done", r.done(0), 1);
        Check.due("UNITS not done", r.done(1), 1);
        Check.due("WRITTEN", r.done(2), 64);
        Check.due("not under way", r.done(5), 0);
        Check.due("what was done stays", r.dot(0, 7, 7), 16);
        Check.due("the rest was not", r.dot(0, 8, 7), 0);
        Check.due("UNITS as begun", r.told(4), 4);
        r.begin(9, NONE, s, 0);
        Check.due("a refused one leaves it", r.done(2), 64);
        r.begin(0, NONE, s, 0);
        Check.due("a new one begins at 0", r.done(2), 0);
        Check.due("a new one begins at 0", r.done(0), 0);
        Check.due("under way", r.done(5), 1);
    }

    /** "perhaps with a DEPTH PLANE: another one, of KIND DEPTHS, GLOWS or LIGHTS, of the same WIDTH and HEIGHT". */
    private static void depthPlanesThatServe() {
        for (int kind = 0; kind < 8; kind++) {
            for (int depth = 0; depth < 8; depth++) {
                RasterHouse r = new RasterHouse();
                r.plane(kind, 9, 7);
                r.plane(depth, 9, 7);
                r.shape(0);
                boolean serves = depth == 2 || depth >= 6;
                Check.due("kind " + depth + " for " + kind, r.begin(0, 1, 0, 0), serves ? 2 : STATE);
                Check.due("under way", r.told(5), serves ? 1 : 0);
            }
        }
        int[][] sizes = {{9, 8}, {8, 7}, {7, 9}, {10, 7}, {9, 6}, {16, 7}};
        for (int[] size : sizes) {
            RasterHouse r = new RasterHouse();
            r.plane(1, 9, 7);
            r.plane(7, size[0], size[1]);
            r.shape(0);
            Check.due("of another size", r.paint(0, 1, 0, 0), STATE);
            Check.due("without it", r.paint(0, NONE, 0, 0), 2);
            Check.due("painted itself", r.paint(1, NONE, 0, 0) > 0 ? 1 : 0, 1);
            Check.due("for itself", r.paint(1, 1, 0, 0), STATE);
        }
    }

    /** "or a PICTURE among the LEAVES has the PLANE or the DEPTH PLANE as TEXTURE". */
    private static void texturesThatMayBe() {
        RasterHouse r = new RasterHouse();
        for (int i = 0; i < 3; i++) r.plane(7, 8, 8);
        int picture = r.shape(7), box = r.shape(0);
        for (int s : new int[] {picture, box}) {
            r.style(s, 13, NONE);
            Check.due("no TEXTURE, no DEPTH PLANE", r.paint(0, NONE, s, 0), 1);
            r.style(s, 13, 2);
            Check.due("another TEXTURE", r.paint(0, 1, s, 0), 1);
            r.style(s, 13, 1);
            Check.due("no DEPTH PLANE then", r.paint(0, NONE, s, 0), 1);
            Check.due("the DEPTH PLANE, sort " + s, r.paint(0, 1, s, 0), s == picture ? STATE : 1);
            r.style(s, 13, 0);
            Check.due("the PLANE", r.paint(0, NONE, s, 0), s == picture ? STATE : 1);
        }
        Check.due("a FRAME is not among the LEAVES", r.paint(0, NONE, Edge.nest(r, 9, picture, box), 0), 1);
        int clip = Edge.nest(r, 9, box, picture);
        Check.due("a CLIP's LEAF is", r.paint(0, NONE, clip, 0), STATE);
        Check.due("a LEAF deep WITHIN is", r.paint(0, NONE, Edge.nest(r, 8, box, clip), 0), STATE);
    }
}
