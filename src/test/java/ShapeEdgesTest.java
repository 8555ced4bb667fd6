/** The limits that part 2 of the document and promises 8 to 15 and 31 to 35 name, sentence by sentence. */
public final class ShapeEdgesTest {
    private static final int UNKNOWN = Edge.UNKNOWN, OUTSIDE = Edge.OUTSIDE, STATE = Edge.STATE, FULL = Edge.FULL,
        NONE = Edge.NONE;
    private static final int[] WANTED = {2, 3, 3, 2, 3, 2, 1, 2};
    private static final int[] MOST = {2, 3, 12, 12, 9, 2, 1, 2};

    public static void main(String[] args) {
        shapesAsTheyCome();
        pointsAsManyAsTold();
        movesToTheEdge();
        offsets();
        partsOfGroups();
        partsOfClips();
        partsOfParts();
        withinOneHundred();
        deepSix();
        fourFrames();
        framesWithoutLeaves();
        leavesAndWhereTheyLie();
        framesAndWhereTheyLie();
        fewerPointsThanWanted();
        framesOfFewerPoints();
        shapesThatWereMoved();
        samplesOfADot();
        pointsThatCanBeHit();
        edgesOfRings();
        rules();
        ringsOfTwelve();
        arcs();
        roundedDown();
        ovals();
        legs();
        roundJoinsAndEnds();
        squareEnds();
        legsWithoutLength();
        legsOfOddSlopes();
        strokesOfTwelve();
        bitsOfGlyphs();
        glyphsAtFirst();
        lettersAlone();
        textsAsFrames();
        advances();
        units();
        boundsOfLeaves();
        boundsOfNests();
        weights();
        ranks();
        stylesOfEachSort();
        stylesOfNestsDoNotCount();
        stops();
        Check.end();
    }

    private static void hits(String what, RasterHouse r, int s, int a, int b, boolean in) {
        Check.due(what + " at " + a + ", " + b, r.hit(s, a, b), in ? s : NONE);
    }

    /** "SHAPES 0 .. 39, as they come, each of a SORT"; "FULL: 40". */
    private static void shapesAsTheyCome() {
        RasterHouse r = new RasterHouse();
        Check.due("no SHAPE yet", r.look(0, 0), UNKNOWN);
        for (int i = 0; i < 40; i++) {
            Check.due("as they come", r.shape(9 - i % 10), i);
            Check.due("how many", r.told(1), i + 1);
            Check.due("its SORT", r.look(i, 0), 9 - i % 10);
        }
        Check.due("FULL: 40", r.shape(0), FULL);
        Check.due("how many", r.told(1), 40);
        Check.due("no SHAPE 40", r.look(40, 0), UNKNOWN);
    }

    /** "POINTS (x, y in 256ths of a DOT, -4096 .. 12287), as many as told". */
    private static void pointsAsManyAsTold() {
        for (int sort = 0; sort < 8; sort++) {
            RasterHouse r = new RasterHouse();
            r.shape(sort);
            Check.due("no POINTS at first", r.look(0, 1), 0);
            Check.due("no POINT 0 yet", r.at(0, 0, 0), UNKNOWN);
            int[][] outside = {{-4097, 0}, {12288, 0}, {0, -4097}, {0, 12288}};
            for (int[] o : outside) Check.due("OUTSIDE", r.point(0, o[0], o[1]), OUTSIDE);
            for (int i = 0; i < MOST[sort]; i++) {
                int x = i % 2 == 0 ? -4096 : 12287, y = i % 2 == 0 ? 12287 - i : i - 4096;
                Check.due("how many", r.point(0, x, y), i + 1);
                Check.due("x", r.at(0, i, 0), x);
                Check.due("y", r.at(0, i, 1), y);
                Check.due("no POINT behind it", r.at(0, i + 1, 0), UNKNOWN);
            }
            Check.due("as many as it may have", r.point(0, 0, 0), FULL);
            Check.due("POINTS", r.look(0, 1), MOST[sort]);
        }
        for (int sort = 8; sort < 10; sort++) {
            RasterHouse r = new RasterHouse();
            r.shape(sort);
            Check.due("none: OUTSIDE, not FULL", r.point(0, 0, 0), OUTSIDE);
            Check.due("none", r.at(0, 0, 0), UNKNOWN);
        }
    }

    /** "All POINTS of a SHAPE go by dx, dy .. OUTSIDE: one would be none such." */
    private static void movesToTheEdge() {
        for (int sort : new int[] {0, 2, 3, 4, 5, 7}) {
            RasterHouse r = new RasterHouse();
            Edge.make(r, sort, 100, 200, 300, 50);
            Check.due("one too far", r.move(0, 12287 - 300 + 1, 0), OUTSIDE);
            Check.due("one too far", r.move(0, 0, 12287 - 200 + 1), OUTSIDE);
            Check.due("one too far", r.move(0, -4096 - 100 - 1, 0), OUTSIDE);
            Check.due("one too far", r.move(0, 0, -4096 - 50 - 1), OUTSIDE);
            Check.due("to the edge", r.move(0, 12287 - 300, 12287 - 200), 1);
            Check.due("x", r.at(0, 1, 0), 12287);
            Check.due("y", r.at(0, 0, 1), 12287);
            Check.due("one more", r.move(0, 1, 0), OUTSIDE);
            Check.due("one more", r.move(0, 0, 1), OUTSIDE);
            Check.due("to the other edge", r.move(0, -16183, -16233), 1);
            Check.due("x", r.at(0, 0, 0), -4096);
            Check.due("y", r.at(0, 1, 1), -4096);
            Check.due("one less", r.move(0, -1, 0), OUTSIDE);
            Check.due("one less", r.move(0, 0, -1), OUTSIDE);
            Check.due("nowhere", r.move(0, 0, 0), 1);
        }
        RasterHouse r = new RasterHouse();
        for (int sort = 0; sort < 8; sort++) {
            r.shape(sort);
            Check.due("without POINTS none goes too far", r.move(sort, 2147483647, -2147483648), 1);
        }
    }

    /** "both have an OFFSET (x, y, each -4096 .. 4096; 0, 0 at first)". */
    private static void offsets() {
        for (int sort = 8; sort < 10; sort++) {
            RasterHouse r = new RasterHouse();
            r.shape(sort);
            Check.due("0 at first", r.look(0, 8), 0);
            Check.due("0 at first", r.look(0, 9), 0);
            Check.due("to the edge", r.move(0, 4096, -4096), 1);
            Check.due("x", r.look(0, 8), 4096);
            Check.due("y", r.look(0, 9), -4096);
            Check.due("one more", r.move(0, 1, 0), OUTSIDE);
            Check.due("one less", r.move(0, 0, -1), OUTSIDE);
            Check.due("one of both too far", r.move(0, -5, -1), OUTSIDE);
            Check.due("x stays", r.look(0, 8), 4096);
            Check.due("to the other edge", r.move(0, -8192, 8192), 1);
            Check.due("x", r.look(0, 8), -4096);
            Check.due("y", r.look(0, 9), 4096);
            Check.due("one less", r.move(0, -1, 0), OUTSIDE);
            Check.due("one more", r.move(0, 0, 1), OUTSIDE);
        }
        RasterHouse r = new RasterHouse();
        Edge.make(r, 0, 5, 5, 9, 9);
        r.move(0, 3, 3);
        Check.due("others have none", r.look(0, 8), 0);
        Check.due("others have none", r.look(0, 9), 0);
    }

    /** "GROUPS have up to 8 PARTS"; "PARTS are SHAPES with lesser numbers". */
    private static void partsOfGroups() {
        RasterHouse r = new RasterHouse();
        for (int sort = 0; sort < 10; sort++) r.shape(sort);
        r.shape(8);
        for (int i = 0; i < 8; i++) {
            Check.due("how many", r.join(10, i + 2), i + 1);
            Check.due("PARTS", r.look(10, 2), i + 1);
        }
        Check.due("a ninth", r.join(10, 0), FULL);
        Check.due("PARTS", r.look(10, 2), 8);
        Check.due("it is not lesser", r.join(10, 10), OUTSIDE);
        r.shape(8);
        Check.due("it is not lesser", r.join(10, 11), OUTSIDE);
        Check.due("the greatest lesser one", r.join(11, 10), 1);
        Check.due("the least one", r.join(11, 0), 2);
        Check.due("the same once more", r.join(11, 0), 3);
    }

    /** "CLIPS two, a FRAME (of SORT 0 to 7), then one more". */
    private static void partsOfClips() {
        for (int frame = 0; frame < 10; frame++) {
            for (int other = 0; other < 10; other++) {
                RasterHouse r = new RasterHouse();
                for (int sort = 0; sort < 10; sort++) r.shape(sort);
                r.shape(9);
                if (frame >= 8) {
                    Check.due("a FRAME of SORT " + frame, r.join(10, frame), OUTSIDE);
                    Check.due("PARTS", r.look(10, 2), 0);
                    continue;
                }
                Check.due("a FRAME of SORT " + frame, r.join(10, frame), 1);
                Check.due("one more of SORT " + other, r.join(10, other), 2);
                Check.due("a third", r.join(10, 0), FULL);
                Check.due("LEAVES are those of the second PART", r.look(10, 5), other < 8 ? 1 : 0);
            }
        }
    }

    /** "STATE: the GROUP, CLIP is a PART of another one itself". */
    private static void partsOfParts() {
        for (int sort = 8; sort < 10; sort++) {
            RasterHouse r = new RasterHouse();
            r.shape(0);
            r.shape(sort);
            r.join(1, 0);
            r.shape(8);
            Check.due("not yet", r.join(1, 0), 2);
            r.shape(sort);
            Check.due("it becomes a PART", r.join(2, 1), 1);
            Check.due("a PART", r.join(1, 0), STATE);
            Check.due("PARTS", r.look(1, 2), 2);
            Check.due("the one around it is none", r.join(2, 0), 2);
            r.join(3, 0);
            Check.due("the one around it becomes one", r.join(3, 2), 2);
            Check.due("now it is", r.join(2, 0), STATE);
            Check.due("a PART may still be a PART elsewhere", r.join(r.shape(8), 1), 1);
        }
    }

    /** A group of a box eight times (8 WITHIN), one of it eight times (72), and as many more as told. */
    private static RasterHouse crowd() {
        RasterHouse r = new RasterHouse();
        Edge.box(r, 0, 0, 256, 256);
        Edge.nest(r, 8, 0, 0, 0, 0, 0, 0, 0, 0);
        Edge.nest(r, 8, 1, 1, 1, 1, 1, 1, 1, 1);
        return r;
    }

    /** "WITHIN one are its PARTS, and what is WITHIN these, each as often as it comes: 100 at most". */
    private static void withinOneHundred() {
        RasterHouse r = crowd();
        Check.due("of a leaf none", r.look(0, 6), 0);
        Check.due("8", r.look(1, 6), 8);
        Check.due("8 and 64", r.look(2, 6), 72);
        Check.due("LEAVES", r.look(2, 5), 64);
        Edge.nest(r, 8, 2, 1, 1, 1);
        Check.due("73 and 27", r.look(3, 6), 100);
        Check.due("LEAVES", r.look(3, 5), 88);
        Check.due("PARTS", r.look(3, 2), 4);
        Check.due("101", r.join(3, 0), FULL);
        Check.due("not changed", r.look(3, 6), 100);
        Check.due("101 around it", r.join(r.shape(8), 3), FULL);
        Check.due("none WITHIN", r.look(4, 6), 0);
        RasterHouse q = crowd();
        Edge.nest(q, 8, 0, 0, 0, 0, 0, 0, 0);
        Edge.nest(q, 8, 2, 1, 1, 3);
        Check.due("73 and 18 and 8", q.look(4, 6), 99);
        Check.due("an empty GROUP is one", q.join(4, 0), 5);
        Check.due("100", q.look(4, 6), 100);
        RasterHouse c = crowd();
        Edge.nest(c, 8, 2, 1, 1, 0, 0, 0, 0);
        Check.due("73 and 18 and 4", c.look(3, 6), 95);
        Edge.nest(c, 9, 0, 3);
        Check.due("a CLIP's FRAME is WITHIN", c.look(4, 6), 97);
        Edge.nest(c, 9, 0, 4);
        Check.due("99", c.look(5, 6), 99);
        int around = Edge.nest(c, 9, 0);
        Check.due("101: a FRAME, the CLIP and 99", c.join(around, 5), FULL);
        Check.due("100: the CLIP and 99", c.join(c.shape(8), 5), 1);
        Check.due("how many", c.look(7, 6), 100);
    }

    /** "it is DEEP 1, and as its deepest PART (others are DEEP 0): 6 at most". */
    private static void deepSix() {
        for (int sort = 8; sort < 10; sort++) {
            RasterHouse r = new RasterHouse();
            for (int s = 0; s < 8; s++) Check.due("others are DEEP 0", r.look(r.shape(s), 7), 0);
            Check.due("one without PARTS is DEEP 1", r.look(r.shape(sort), 7), 1);
            for (int i = 9; i < 14; i++) {
                r.shape(sort);
                if (sort == 9) r.join(i, 0);
                Check.due("DEEP 1 with a leaf or none", r.look(i, 7), 1);
                Check.due("one deeper", r.join(i, i - 1), sort == 9 ? 2 : 1);
                Check.due("DEEP", r.look(i, 7), i - 7);
            }
            Check.due("6", r.look(13, 7), 6);
            int seventh = r.shape(8);
            Check.due("7", r.join(seventh, 13), FULL);
            Check.due("as its deepest PART", r.join(seventh, 12), 1);
            Check.due("6", r.look(seventh, 7), 6);
            Check.due("a lesser one leaves it", r.join(seventh, 0), 2);
            Check.due("6", r.look(seventh, 7), 6);
        }
    }

    /** "a LEAF has 4 FRAMES at most". */
    private static void fourFrames() {
        RasterHouse r = new RasterHouse();
        Edge.box(r, 0, 0, 256, 256);
        for (int i = 1; i <= 4; i++) Edge.nest(r, 9, 0, i - 1);
        Check.due("four FRAMES", r.look(4, 2), 2);
        Check.due("seen through all", r.hit(4, 5, 5), 0);
        int fifth = Edge.nest(r, 9, 0);
        Check.due("a fifth", r.join(fifth, 4), FULL);
        Check.due("PARTS", r.look(fifth, 2), 1);
        Check.due("the fourth", r.join(fifth, 3), 2);
        int group = Edge.nest(r, 8, 0, 4);
        Check.due("a GROUP adds none", r.look(group, 2), 2);
        int around = Edge.nest(r, 9, 0);
        Check.due("one LEAF of the GROUP has four", r.join(around, group), FULL);
        Check.due("a leaf as FRAME has none", r.join(around, 0), 2);
    }

    /** Where there is no LEAF, none has FRAMES: DEEP alone ends it. */
    private static void framesWithoutLeaves() {
        RasterHouse r = new RasterHouse();
        Edge.box(r, 0, 0, 256, 256);
        r.shape(8);
        for (int i = 2; i < 7; i++) {
            Edge.nest(r, 9, 0);
            Check.due("five CLIPS around an empty GROUP", r.join(i, i - 1), 2);
        }
        Check.due("no LEAVES", r.look(6, 5), 0);
        Check.due("DEEP", r.look(6, 7), 6);
        int mixed = Edge.nest(r, 8, 5, 0);
        Check.due("a LEAF beside it", r.look(mixed, 5), 1);
        int clip = Edge.nest(r, 9, 0);
        Check.due("DEEP 7", r.join(clip, mixed), FULL);
        int half = Edge.nest(r, 9, 0);
        Check.due("a CLIP of a FRAME alone has no LEAVES", r.look(half, 5), 0);
        Edge.nest(r, 9, 0, half);
        Edge.nest(r, 9, 0, half + 1);
        Edge.nest(r, 9, 0, half + 2);
        Edge.nest(r, 9, 0);
        Check.due("five FRAMES, no LEAF", r.join(half + 4, half + 3), 2);
    }

    /** "A LEAF lies moved by the OFFSETS of all GROUPS and CLIPS that it is come to by, together". */
    private static void leavesAndWhereTheyLie() {
        RasterHouse r = new RasterHouse();
        Edge.box(r, -4096, -4096, -3840, -3840);
        for (int i = 1; i <= 6; i++) {
            Edge.nest(r, 8, i - 1);
            r.move(i, 4096, i <= 3 ? 4096 : -4096);
        }
        Check.due("by one", r.hit(1, 0, 0), 0);
        Check.due("by one", r.hit(1, 255, 255), 0);
        Check.due("by one", r.hit(1, -1, 0), NONE);
        Check.due("by two", r.hit(2, 4096, 4096), 0);
        Check.due("by three", r.hit(3, 8192, 8192), 0);
        Check.due("by three", r.hit(3, 8192 + 255, 8192 + 256), NONE);
        Edge.bounds("by four, back along y", r, 4, 12288, 4096, 12544, 4352);
        Check.due("ahead of it", r.hit(4, 12287, 4096), NONE);
        Edge.bounds("by six", r, 6, 5 * 4096, -4096, 5 * 4096 + 256, -3840);
        Edge.nest(r, 8, 0, 1, 0, 2);
        Check.due("the same SHAPE several times", r.look(7, 5), 4);
        Check.due("each where it lies", r.hit(7, -4096, -4096), 0);
        Check.due("each where it lies", r.hit(7, 0, 0), 0);
        Check.due("each where it lies", r.hit(7, 4096, 4096), 0);
        Check.due("nowhere else", r.hit(7, 2000, 2000), NONE);
        Check.due("a LEAF itself lies as it is", r.hit(0, -4096, -3841), 0);
        RasterHouse q = new RasterHouse();
        Edge.box(q, 0, 0, 256, 256);
        Edge.nest(q, 9, 0, 0);
        for (int i = 2; i <= 6; i++) Edge.nest(q, i == 4 ? 9 : 8, i == 4 ? new int[] {0, 3} : new int[] {i - 1});
        q.move(6, 100, 0);
        q.move(4, 10, 0);
        q.move(1, 1, 0);
        Check.due("six DEEP", q.look(6, 7), 6);
        Check.due("by all of six", q.hit(6, 111, 0), 0);
        Check.due("ahead of it", q.hit(6, 110, 0), NONE);
        Check.due("the outer FRAME ends it", q.hit(6, 366, 0), NONE);
        Check.due("up to there", q.hit(6, 365, 0), 0);
    }

    /** "and has the FRAMES of all such CLIPS, each moved by the OFFSETS of its CLIP and of all around that". */
    private static void framesAndWhereTheyLie() {
        RasterHouse r = new RasterHouse();
        Edge.box(r, 0, 0, 100, 4000);
        Edge.box(r, 0, 0, 4000, 100);
        Edge.box(r, -4000, -4000, 8000, 8000);
        Edge.nest(r, 8, 2);
        r.move(3, 3, 3);
        Edge.nest(r, 9, 0, 3);
        r.move(4, 1000, 0);
        Edge.nest(r, 9, 1, 4);
        r.move(5, 500, 2000);
        // frame 0 lies at 1500, 2000 and frame 1 at 500, 2000
        int[][] in = {{1500, 2000}, {1599, 2000}, {1500, 2099}, {1599, 2099}};
        int[][] out = {{1499, 2000}, {1600, 2000}, {1500, 1999}, {1500, 2100}, {500, 2000}, {0, 0}};
        for (int[] p : in) Check.due("through both FRAMES", r.hit(5, p[0], p[1]), 2);
        for (int[] p : out) Check.due("not through both FRAMES", r.hit(5, p[0], p[1]), NONE);
        Check.due("the inner CLIP alone", r.hit(4, 1000, 3999), 2);
        Check.due("the inner CLIP alone", r.hit(4, 1100, 0), NONE);
        Check.due("a FRAME itself is no LEAF", r.hit(5, 600, 2000), NONE);
        Edge.nest(r, 9, 0, 1);
        Check.due("the last LEAF that covers is told, not the FRAME", r.hit(6, 50, 50), 1);
        Edge.nest(r, 8, 5, 0);
        Check.due("the FRAMES of one LEAF are not those of the next", r.hit(7, 50, 3000), 0);
    }

    /** "and none if it has fewer POINTS than wanted (BOX, OVAL, PICTURE, STROKE 2, WEDGE, RING, CURVE 3, TEXT 1)". */
    private static void fewerPointsThanWanted() {
        int[] at = {-200, -200, 3000, -100, 100, 3000, 700, 700};
        for (int sort = 0; sort < 8; sort++) {
            RasterHouse r = new RasterHouse();
            r.shape(sort);
            r.style(0, 6, 1);
            r.glyph(0, -1L, 8);
            if (sort == 6) r.say(0, 0);
            for (int i = 0; i < WANTED[sort]; i++) {
                Check.due("covers none with " + i, r.covered(0, 1, 1), 0);
                Check.due("covers none with " + i, r.hit(0, -200, -200), NONE);
                Edge.empty("sort " + sort + " with " + i, r, 0);
                int k = WANTED[sort] == 2 && i == 1 ? 4 : 2 * i;
                r.point(0, at[k], WANTED[sort] == 2 && i == 1 ? 2900 : at[k + 1]);
            }
            Check.due("not empty with all, sort " + sort, r.bounds(0, 4), 0);
            int[][] inside = {{0, 0}, {500, 500}, {200, 700}, {-100, 500}, {0, 700}, {0, 1300}, {-100, -100}, {-100, 1000}};
            Check.due("covers some with all, sort " + sort, r.hit(0, inside[sort][0], inside[sort][1]), 0);
        }
    }

    /** A FRAME with fewer POINTS than wanted covers none, so nothing is seen through it. */
    private static void framesOfFewerPoints() {
        int[] at = {-200, -200, 3000, -100, 100, 3000};
        for (int sort = 0; sort < 8; sort++) {
            for (int n = 0; n < WANTED[sort]; n++) {
                RasterHouse r = new RasterHouse();
                r.shape(sort);
                r.glyph(0, -1L, 8);
                if (sort == 6) r.say(0, 0);
                r.style(0, 6, 1);
                for (int i = 0; i < n; i++) r.point(0, at[2 * i], at[2 * i + 1]);
                Edge.box(r, -4096, -4096, 12287, 12287);
                Edge.nest(r, 9, 0, 1);
                int[][] points = {{-200, -200}, {-100, -100}, {-1, -1}, {0, 0}, {50, 50}, {1000, -150}, {3000, -100}};
                for (int[] q : points) Check.due("sort " + sort + " with " + n, r.hit(2, q[0], q[1]), NONE);
                Check.due("sort " + sort + " with " + n, r.covered(2, 0, 0), 0);
                Edge.empty("sort " + sort + " with " + n, r, 2);
            }
        }
    }

    /** "All POINTS of a SHAPE go by dx, dy": what it covers goes with them. */
    private static void shapesThatWereMoved() {
        int[] at = {0, 0, 1000, 100, 100, 1000};
        int[][] inside = {{500, 50}, {300, 300}, {300, 300}, {500, 50}, {300, 300}, {500, 50}, {5, 5}, {500, 50}};
        for (int sort = 0; sort < 8; sort++) {
            RasterHouse r = new RasterHouse();
            r.glyph(0, -1L, 8);
            r.shape(sort);
            if (sort == 6) r.say(0, 0);
            for (int i = 0; i < WANTED[sort]; i++) r.point(0, at[2 * i], at[2 * i + 1]);
            hits("sort " + sort, r, 0, inside[sort][0], inside[sort][1], true);
            int x0 = r.bounds(0, 0), y1 = r.bounds(0, 3);
            Check.due("move", r.move(0, 2000, -1500), 1);
            hits("sort " + sort + " moved", r, 0, inside[sort][0], inside[sort][1], false);
            hits("sort " + sort + " moved", r, 0, inside[sort][0] + 2000, inside[sort][1] - 1500, true);
            Check.due("X0", r.bounds(0, 0), x0 + 2000);
            Check.due("Y1", r.bounds(0, 3), y1 - 1500);
        }
    }

    /** "SAMPLE k (0 .. 15) of DOT x, y is at 256 x + 16 k + 8, 256 y + 16 (5 k % 16) + 8"; DOTS "each 0 .. 31". */
    private static void samplesOfADot() {
        int[] down = {0, 5, 10, 15, 4, 9, 14, 3, 8, 13, 2, 7, 12, 1, 6, 11};
        int[] dots = {0, 31, 7};
        for (int k = 0; k < 16; k++) {
            RasterHouse r = new RasterHouse();
            for (int x : dots) {
                int a = 256 * x + 16 * k + 8, b = 256 * (31 - x) + 16 * down[k] + 8;
                int one = Edge.box(r, a, b, a + 1, b + 1);
                Check.due("sample " + k, r.covered(one, x, 31 - x), 1);
                r.move(one, 1, 0);
                Check.due("beside sample " + k, r.covered(one, x, 31 - x), 0);
                r.move(one, -2, 0);
                Check.due("ahead of sample " + k, r.covered(one, x, 31 - x), 0);
                r.move(one, 1, 1);
                Check.due("below sample " + k, r.covered(one, x, 31 - x), 0);
                r.move(one, 0, -2);
                Check.due("above sample " + k, r.covered(one, x, 31 - x), 0);
            }
        }
        RasterHouse r = new RasterHouse();
        Edge.box(r, -4096, -4096, 12287, 12287);
        Edge.samples(r, 31, 31, 9);
        Edge.samples(r, 31, 31, 3);
        Edge.nest(r, 8, 1, 2);
        Check.due("all", r.covered(0, 0, 31), 16);
        Check.due("all", r.covered(0, 31, 31), 16);
        Check.due("some LEAF covers: not the sum", r.covered(3, 31, 31), 9);
        Check.due("an empty GROUP", r.covered(r.shape(8), 0, 0), 0);
    }

    /** "the point a, b (-4096 .. 12287)"; "The last LEAF .. its number; NONE". */
    private static void pointsThatCanBeHit() {
        RasterHouse r = new RasterHouse();
        Edge.box(r, -4096, -4096, 12287, 12287);
        Edge.nest(r, 8, 0);
        hits("its first", r, 0, -4096, -4096, true);
        hits("behind its last", r, 0, 12287, 12286, false);
        hits("behind its last", r, 0, 12286, 12287, false);
        hits("its last", r, 0, 12286, 12286, true);
        r.move(1, 1, 1);
        Check.due("the last that can be asked", r.hit(1, 12287, 12287), 0);
        Check.due("not its first then", r.hit(1, -4096, -4096), NONE);
        Check.due("beyond", r.hit(1, 12288, 0), OUTSIDE);
        Check.due("beyond", r.hit(1, 0, 12288), OUTSIDE);
        Check.due("beyond", r.hit(1, -4097, 0), OUTSIDE);
        Check.due("beyond", r.hit(1, 0, -4097), OUTSIDE);
        Check.due("of a GROUP of none", r.hit(r.shape(8), 0, 0), NONE);
        Edge.make(r, 5, 0, 0, 1000, 1000);
        Edge.nest(r, 8, 3, 0, 3);
        Check.due("the last LEAF", r.hit(4, 500, 500), 3);
        Check.due("the last that covers", r.hit(4, 5, 5), 0);
    }

    /** "if py <= b < qy .., or qy <= b < py .., and .. is not above .. (in the first case), not below it (in the second)". */
    private static void edgesOfRings() {
        int[][] squares = {{0, 0, 100, 0, 100, 100, 0, 100}, {0, 100, 100, 100, 100, 0, 0, 0}, {100, 100, 0, 100, 0, 0, 100, 0}};
        for (int[] square : squares) {
            RasterHouse r = new RasterHouse();
            Edge.make(r, 2, square);
            int[][] in = {{0, 0}, {0, 99}, {99, 0}, {99, 99}, {50, 50}};
            int[][] out = {{-1, 0}, {100, 0}, {0, -1}, {0, 100}, {100, 100}, {99, 100}, {100, 99}};
            for (int[] p : in) hits("a square", r, 0, p[0], p[1], true);
            for (int[] p : out) hits("a square", r, 0, p[0], p[1], false);
        }
        int[][] boxes = {{0, 0, 100, 100}, {100, 100, 0, 0}, {0, 100, 100, 0}, {100, 0, 0, 100}};
        for (int sort : new int[] {0, 7}) {
            for (int[] corners : boxes) {
                RasterHouse r = new RasterHouse();
                Edge.make(r, sort, corners);
                int[][] in = {{0, 0}, {0, 99}, {99, 0}, {99, 99}};
                int[][] out = {{-1, 0}, {100, 0}, {0, -1}, {0, 100}};
                for (int[] p : in) hits("a box", r, 0, p[0], p[1], true);
                for (int[] p : out) hits("a box", r, 0, p[0], p[1], false);
            }
        }
        slopes();
    }

    private static void slopes() {
        int[][] wedges = {{0, 0, 100, 100, 0, 100}, {0, 100, 100, 100, 0, 0}};
        for (int[] w : wedges) {
            RasterHouse r = new RasterHouse();
            Edge.make(r, 1, w);
            hits("on a right slope", r, 0, 50, 50, false);
            hits("left of it", r, 0, 49, 50, true);
            hits("on the upright edge", r, 0, 0, 50, true);
            hits("ahead of it", r, 0, -1, 50, false);
            hits("the top corner has no width", r, 0, 0, 0, false);
            hits("above the lower edge", r, 0, 98, 99, true);
            hits("on the lower edge", r, 0, 50, 100, false);
        }
        int[][] others = {{0, 100, 100, 0, 100, 100}, {100, 100, 100, 0, 0, 100}};
        for (int[] w : others) {
            RasterHouse r = new RasterHouse();
            Edge.make(r, 1, w);
            hits("on a left slope", r, 0, 50, 50, true);
            hits("left of it", r, 0, 49, 50, false);
            hits("on the upright edge", r, 0, 100, 50, false);
            hits("ahead of it", r, 0, 99, 50, true);
            hits("the top corner has no width", r, 0, 100, 0, false);
            hits("below it", r, 0, 99, 1, true);
        }
        RasterHouse r = new RasterHouse();
        Edge.make(r, 1, -4096, -4096, 12287, -4096, -4096, 12287);
        hits("as large as can be", r, 0, 4095, 4095, true);
        hits("as large as can be", r, 0, 4096, 4095, false);
        hits("as large as can be", r, 0, -4096, 12286, true);
    }

    /** "By RULE 0: an odd number of EDGES cross; by RULE 1: what they count comes to another sum than 0." */
    private static void rules() {
        int[] twice = {0, 0, 900, 0, 900, 900, 0, 900, 0, 0, 600, 0, 600, 600, 0, 600};
        int[] back = {0, 0, 900, 0, 900, 900, 0, 900, 0, 0, 0, 600, 600, 600, 600, 0};
        RasterHouse r = new RasterHouse();
        Edge.make(r, 2, twice);
        Edge.make(r, 2, back);
        for (int s = 0; s < 2; s++) {
            hits("rule 0, two cross", r, s, 300, 300, false);
            hits("rule 0, one crosses", r, s, 700, 700, true);
            hits("rule 0, none crosses", r, s, 900, 900, false);
            r.style(s, 8, 1);
            hits("rule 1, one crosses", r, s, 700, 700, true);
            hits("rule 1, none crosses", r, s, 900, 900, false);
        }
        hits("rule 1, the sum is 2", r, 0, 300, 300, true);
        hits("rule 1, the sum is 0", r, 1, 300, 300, false);
        r.style(0, 8, 0);
        hits("rule 0 again", r, 0, 300, 300, false);
        // the other way around: the sum is -1 and -2
        Edge.make(r, 2, 0, 900, 900, 900, 900, 0, 0, 0, 0, 900, 0, 600, 600, 600, 600, 0, 0, 0);
        hits("rule 0, two cross", r, 2, 300, 300, false);
        r.style(2, 8, 1);
        hits("rule 1, the sum is below 0", r, 2, 300, 300, true);
        hits("rule 1, the sum is below 0", r, 2, 700, 700, true);
        int curve = Edge.make(r, 4, 0, 0, 900, 0, 900, 900, 0, 900, 0, 0, 900, 0, 900, 900, 0, 900, 0, 0);
        hits("a CURVE twice around, rule 0", r, curve, 450, 450, false);
        r.style(curve, 8, 1);
        hits("a CURVE twice around, rule 1", r, curve, 450, 450, true);
    }

    /** "its EDGES go from POINT to POINT, the last to the first", of up to 12. */
    private static void ringsOfTwelve() {
        RasterHouse r = new RasterHouse();
        // a comb of three teeth, open below but for the edge from the last to the first
        Edge.make(r, 2, 0, 1000, 0, 0, 100, 0, 100, 500, 200, 500, 200, 0, 300, 0, 300, 500, 400, 500, 400, 0, 500, 0, 500, 1000);
        Check.due("12", r.look(0, 1), 12);
        hits("the first tooth", r, 0, 50, 250, true);
        hits("ahead of the second", r, 0, 150, 250, false);
        hits("the second", r, 0, 250, 250, true);
        hits("ahead of the third", r, 0, 350, 250, false);
        hits("the third", r, 0, 450, 250, true);
        hits("behind it", r, 0, 500, 250, false);
        hits("below the teeth", r, 0, 150, 500, true);
        hits("the last line", r, 0, 499, 999, true);
        hits("behind the last line", r, 0, 250, 1000, false);
        Edge.make(r, 2, 0, 0, 100, 100, 0, 200);
        hits("the edge from the last to the first", r, 1, 0, 100, true);
        hits("ahead of it", r, 1, -1, 100, false);
    }

    /** "of POINTS 0, 1, 2 the ARC, if there are two more 2, 3, 4, and so on (a POINT left over is none)", "PIECES (1 .. 8)". */
    private static void arcs() {
        RasterHouse r = new RasterHouse();
        Edge.make(r, 4, 0, 0, 800, 0, 0, 800);
        r.style(0, 9, 1);
        Edge.empty("one piece: both ends at x 0", r, 0);
        int[] widest = {0, 400, 355, 400, 384, 400, 391, 400};
        for (int n = 2; n <= 8; n++) {
            r.style(0, 9, n);
            Edge.bounds(n + " pieces", r, 0, 0, 0, widest[n - 1], 800);
        }
        r.point(0, -3000, -3000);
        Edge.bounds("a POINT left over", r, 0, 0, 0, 400, 800);
        hits("a POINT left over", r, 0, -100, -100, false);
        r.point(0, -800, 0);
        r.style(0, 9, 1);
        Edge.bounds("two more, one piece each", r, 0, -800, 0, 0, 800);
        hits("of one piece: the ring 0 0, 0 800, 0 800, -800 0", r, 0, -300, 100, true);
        hits("outside of it", r, 0, -700, 200, false);
        Edge.make(r, 4, 0, 0, 50, 900, 100, 100);
        r.style(1, 9, 1);
        Edge.bounds("a ring of two points has bounds", r, 1, 0, 0, 100, 100);
        hits("but covers none", r, 1, 50, 50, false);
        hits("but covers none", r, 1, 50, 60, false);
        nineOfACurve();
    }

    private static void nineOfACurve() {
        RasterHouse r = new RasterHouse();
        // straight arcs round a square: their pieces lie on its edges
        Edge.make(r, 4, 0, 0, 400, 0, 800, 0, 800, 400, 800, 800, 400, 800, 0, 800);
        hits("three arcs, closed by the last edge", r, 0, 10, 400, true);
        r.point(0, -400, 400);
        hits("an eighth POINT is left over", r, 0, -10, 400, false);
        r.point(0, 0, 0);
        Check.due("a tenth", r.point(0, 0, 0), FULL);
        for (int n = 1; n <= 8; n++) {
            r.style(0, 9, n);
            hits("four arcs of " + n, r, 0, 400, 400, true);
            hits("four arcs of " + n, r, 0, 799, 799, true);
            hits("four arcs of " + n, r, 0, 800, 400, false);
            hits("the fourth arc of " + n, r, 0, -150, 400, n > 1);
            hits("the fourth arc of " + n, r, 0, -201, 400, false);
        }
        Edge.bounds("of 8", r, 0, -200, 0, 800, 800);
        // the last of all 36 points is far out
        Edge.make(r, 4, 0, 0, 0, 0, 0, 0, 0, 0, 0, 0, 0, 0, 0, 100, 0, 100, 3000, 100);
        r.style(1, 9, 8);
        Edge.bounds("the last of 36", r, 1, 0, 0, 3000, 100);
        hits("the last of 36", r, 1, 1500, 75, true);
    }

    /** "FLOOR of (p (n - i) (n - i) + 2 q i (n - i) + r i i) / (n n), in x and in y". */
    private static void roundedDown() {
        RasterHouse r = new RasterHouse();
        Edge.make(r, 4, 0, 0, 0, 100, -1, 200);
        r.style(0, 9, 2);
        Edge.bounds("-1 / 4", r, 0, -1, 0, 0, 200);
        Edge.make(r, 4, 5, 3, 100, 0, 205, 0);
        r.style(1, 9, 2);
        Edge.bounds("3 / 4, and 410 / 4", r, 1, 5, 0, 205, 3);
        Edge.make(r, 4, 0, 0, 200, -1, 400, 0);
        r.style(2, 9, 8);
        Edge.bounds("-32 / 64 and less", r, 2, 0, -1, 400, 0);
        Edge.make(r, 4, -4096, -4096, 12287, 12287, -4096, 12287);
        r.style(3, 9, 8);
        Edge.bounds("(-4096 * 32 + 12287 * 32) / 64 = 4095.5", r, 3, -4096, -4096, 4095, 12287);
        Edge.make(r, 4, 0, 0, -300, 100, 0, 200);
        r.style(4, 9, 3);
        Edge.bounds("-1200 / 9 = -133.3", r, 4, -134, 0, 0, 200);
    }

    /** "s s h h + t t w w is below w w h h". */
    private static void ovals() {
        int[][] corners = {{0, 0, 200, 400}, {200, 400, 0, 0}, {0, 400, 200, 0}, {200, 0, 0, 400}};
        for (int[] c : corners) {
            RasterHouse r = new RasterHouse();
            Edge.make(r, 5, c);
            int[][] in = {{100, 200}, {1, 200}, {199, 200}, {100, 1}, {100, 399}, {160, 359}, {159, 360}, {41, 41}};
            int[][] out = {{0, 200}, {200, 200}, {100, 0}, {100, 400}, {160, 360}, {40, 40}, {39, 41}};
            for (int[] p : in) hits("inside", r, 0, p[0], p[1], true);
            for (int[] p : out) hits("on the border or beyond", r, 0, p[0], p[1], false);
        }
        RasterHouse r = new RasterHouse();
        Edge.make(r, 5, 0, 0, 1, 1);
        hits("1 + 1 is not below 1", r, 0, 0, 0, false);
        Check.due("not empty though", r.bounds(0, 4), 0);
        Edge.make(r, 5, 0, 0, 2, 2);
        hits("the middle of 2 by 2", r, 1, 1, 1, true);
        hits("beside it", r, 1, 0, 1, false);
        Edge.make(r, 5, 0, 0, 0, 500);
        hits("without width", r, 2, 0, 250, false);
        int far = Edge.make(r, 5, 1000, 2000, 1200, 2400);
        int[][] in = {{1100, 2200}, {1001, 2200}, {1199, 2200}, {1100, 2001}, {1100, 2399}, {1160, 2359}};
        int[][] out = {{1000, 2200}, {1200, 2200}, {1100, 2000}, {1100, 2400}, {1160, 2360}};
        for (int[] p : in) hits("farther out", r, far, p[0], p[1], true);
        for (int[] p : out) hits("farther out", r, far, p[0], p[1], false);
        int flat = Edge.make(r, 5, 0, 7, 500, 7);
        hits("without height", r, flat, 250, 7, false);
        int large = Edge.make(r, 5, -4096, -4096, 12287, 12287);
        hits("as large as can be", r, large, -4095, 4095, true);
        hits("as large as can be", r, large, -4096, 4095, false);
        hits("as large as can be", r, large, 12286, 4096, true);
        hits("its corner", r, large, -4096, -4096, false);
    }

    /** "it is covered, if t is 0 .. l (and l is above 0) and c c is at most HALF HALF l"; "HALF (1 .. 1024, 128)". */
    private static void legs() {
        RasterHouse r = new RasterHouse();
        Edge.make(r, 3, 1000, 1000, 1300, 1400);
        r.style(0, 5, 100);
        int[][] in = {{1000, 1000}, {1300, 1400}, {920, 1060}, {1220, 1460}, {1080, 940}, {1380, 1340}};
        int[][] out = {{999, 1000}, {1301, 1400}, {917, 1056}, {1223, 1464}, {1077, 936}, {919, 1061}, {1081, 939}};
        for (int[] p : in) hits("along a LEG", r, 0, p[0], p[1], true);
        for (int[] p : out) hits("off a LEG", r, 0, p[0], p[1], false);
        Edge.make(r, 3, 0, 0, 1000, 0);
        hits("HALF 128 at first", r, 1, 500, 128, true);
        hits("HALF 128 at first", r, 1, 500, -129, false);
        r.style(1, 5, 1);
        hits("HALF 1", r, 1, 500, 1, true);
        hits("HALF 1", r, 1, 500, 2, false);
        r.style(1, 5, 1024);
        hits("HALF 1024", r, 1, 1000, -1024, true);
        hits("HALF 1024", r, 1, 1000, -1025, false);
        hits("t is below 0", r, 1, -1, 0, false);
        hits("t is above l", r, 1, 1001, 0, false);
        Edge.make(r, 3, -4096, -4096, 12287, 12287);
        r.style(2, 5, 1024);
        hits("as long as can be", r, 2, 4096 + 724, 4096 - 724, true);
        hits("as long as can be", r, 2, 4096 + 725, 4096 - 725, false);
        Edge.make(r, 3, 0, 0, 1000, 0, 1000, 1000);
        hits("not from the last to the first", r, 3, 400, 400, false);
        hits("the second LEG", r, 3, 1100, 1000, true);
        hits("t is above l", r, 3, 1000, 1001, false);
    }

    /** "d .. at most HALF HALF: with ROUND JOINS (1) at each POINT between two LEGS; with ENDS 1 at the first and the last POINT". */
    private static void roundJoinsAndEnds() {
        RasterHouse r = new RasterHouse();
        Edge.make(r, 3, 1000, 1000, 2000, 1000, 2000, 2000, 3000, 2000);
        r.style(0, 5, 100);
        int[][] joins = {{2060, 920}, {1940, 2080}};
        int[][] beyond = {{2061, 920}, {2060, 919}, {1939, 2080}, {1940, 2081}};
        int[][] ends = {{940, 920}, {900, 1000}, {3100, 2000}, {3060, 2080}};
        int[][] off = {{939, 920}, {899, 1000}, {3101, 2000}, {3060, 2081}};
        for (int join = 0; join < 2; join++) {
            for (int end = 0; end < 2; end++) {
                r.style(0, 7, join);
                r.style(0, 6, end);
                for (int[] p : joins) hits("JOINS " + join + ", ENDS " + end, r, 0, p[0], p[1], join == 1);
                for (int[] p : ends) hits("JOINS " + join + ", ENDS " + end, r, 0, p[0], p[1], end == 1);
                for (int[] p : beyond) hits("beyond a join", r, 0, p[0], p[1], false);
                for (int[] p : off) hits("beyond an end", r, 0, p[0], p[1], false);
            }
        }
        Edge.make(r, 3, 0, 0, 1000, 0);
        r.style(1, 7, 1);
        hits("with one LEG no POINT is between two", r, 1, -1, 0, false);
        hits("with one LEG no POINT is between two", r, 1, 1001, 0, false);
    }

    /** "With ENDS 2, at the first LEG's p also if t is below 0, t t at most HALF HALF l, c c likewise; at the last LEG's q also .." */
    private static void squareEnds() {
        RasterHouse r = new RasterHouse();
        Edge.make(r, 3, 1000, 1000, 1300, 1400);
        r.style(0, 5, 100);
        r.style(0, 6, 2);
        int[][] in = {{940, 920}, {860, 980}, {1020, 860}, {1360, 1480}, {1280, 1540}, {1440, 1420}};
        int[][] out = {{939, 920}, {859, 980}, {860, 981}, {1020, 859}, {1361, 1480}, {1280, 1541}, {1441, 1420}};
        for (int[] p : in) hits("a square end", r, 0, p[0], p[1], true);
        for (int[] p : out) hits("beyond a square end", r, 0, p[0], p[1], false);
        Edge.make(r, 3, 1000, 1000, 2000, 1000, 2000, 2000, 3000, 2000);
        r.style(1, 5, 100);
        r.style(1, 6, 2);
        hits("the first LEG's p", r, 1, 900, 900, true);
        hits("beyond", r, 1, 899, 1000, false);
        hits("not the first LEG's q", r, 1, 2001, 950, false);
        hits("not the middle LEG's p", r, 1, 2050, 999, false);
        hits("not the middle LEG's q", r, 1, 1950, 2001, false);
        hits("not the last LEG's p", r, 1, 1999, 2050, false);
        hits("the last LEG's q", r, 1, 3100, 2100, true);
        hits("beyond", r, 1, 3101, 2000, false);
    }

    /** "(and l is above 0)", "(both with l above 0)". */
    private static void legsWithoutLength() {
        RasterHouse r = new RasterHouse();
        Edge.make(r, 3, 500, 500, 500, 500);
        hits("a LEG without length", r, 0, 500, 500, false);
        r.style(0, 6, 2);
        hits("has no square ends", r, 0, 500, 500, false);
        hits("has no square ends", r, 0, 499, 500, false);
        r.style(0, 7, 1);
        hits("nor joins", r, 0, 500, 500, false);
        r.style(0, 6, 1);
        hits("but round ends", r, 0, 500, 628, true);
        hits("but round ends", r, 0, 500, 629, false);
        Edge.bounds("and bounds", r, 0, 372, 372, 629, 629);
        Edge.make(r, 3, 0, 0, 0, 0, 1000, 0, 1000, 0);
        r.style(1, 6, 2);
        hits("the first LEG has no length: no end", r, 1, -1, 0, false);
        hits("the last LEG has no length: no end", r, 1, 1001, 0, false);
        hits("the one between covers", r, 1, 0, 128, true);
        hits("the one between covers", r, 1, 1000, -128, true);
        r.style(1, 7, 1);
        hits("POINTS between two LEGS", r, 1, -128, 0, true);
        hits("POINTS between two LEGS", r, 1, 1128, 0, true);
        Edge.make(r, 3, 0, 0, 0, 0, 0, 0);
        r.style(2, 7, 1);
        hits("a POINT between two LEGS without length", r, 2, 128, 0, true);
    }

    /** Stairs of 12 POINTS: the last LEG, each POINT between two, and both ends. */
    private static void strokesOfTwelve() {
        RasterHouse r = new RasterHouse();
        r.shape(3);
        for (int i = 0; i < 12; i++) r.point(0, 500 * ((i + 1) / 2), 500 * (i / 2));
        r.style(0, 5, 50);
        Edge.bounds("12 POINTS", r, 0, -50, -50, 3051, 2551);
        for (int i = 0; i < 11; i++) hits("LEG " + i, r, 0, 500 * ((i + 1) / 2) + (i % 2 == 0 ? 250 : 50), 500 * (i / 2) + (i % 2 == 0 ? 50 : 250), true);
        for (int join = 0; join < 2; join++) {
            r.style(0, 7, join);
            // the outer side of each corner: right and up, or left and down
            for (int i = 1; i < 11; i++) {
                int side = i % 2 == 1 ? 30 : -30;
                hits("POINT " + i, r, 0, 500 * ((i + 1) / 2) + side, 500 * (i / 2) - side, join == 1);
            }
            hits("the first POINT", r, 0, -30, 0, false);
            hits("the last POINT", r, 0, 3030, 2500, false);
        }
        for (int ends = 1; ends < 3; ends++) {
            r.style(0, 6, ends);
            hits("the first POINT", r, 0, -50, 0, true);
            hits("the last POINT", r, 0, 3050, 2500, true);
            hits("a corner of the first end", r, 0, -50, 50, ends == 2);
            hits("a corner of the last end", r, 0, 3050, 2450, ends == 2);
            hits("beyond the last POINT", r, 0, 3051, 2500, false);
        }
    }

    /** A LEG of 3, 4: points with t -1, 0, l and l + 1 lie beside it. */
    private static void legsOfOddSlopes() {
        RasterHouse r = new RasterHouse();
        Edge.make(r, 3, 0, 0, 3, 4);
        r.style(0, 5, 2);
        hits("t is -1", r, 0, 1, -1, false);
        hits("t is 0", r, 0, 0, 0, true);
        hits("t is 1", r, 0, -1, 1, true);
        hits("t is l", r, 0, 3, 4, true);
        hits("t is l + 1", r, 0, 2, 5, false);
        hits("t is l - 1", r, 0, 4, 3, true);
        hits("c c is 100 of 100", r, 0, 4, 2, true);
        hits("c c is 121 of 100", r, 0, 2, -1, false);
        r.style(0, 6, 2);
        hits("t is -1 at a square end", r, 0, 1, -1, true);
        hits("t is l + 1 at a square end", r, 0, 2, 5, true);
        hits("t is -10 at a square end", r, 0, -2, -1, true);
        hits("t is -11 at a square end", r, 0, -1, -2, false);
    }

    /** "an ADVANCE 1 .. 16 (8 at first, all bits 0)"; a new object's "GLYPHS of 0s". */
    private static void glyphsAtFirst() {
        for (int g = 0; g < 16; g++) {
            RasterHouse r = new RasterHouse();
            Edge.make(r, 6, 0, 0);
            r.style(0, 12, 32);
            r.say(0, g);
            for (int y = 0; y < 2; y++) for (int x = 0; x < 2; x++) Check.due("all bits 0", r.covered(0, x, y), 0);
            r.say(0, g);
            Edge.bounds("8 at first", r, 0, 0, 0, 512, 256);
        }
    }

    /** A TEXT has its own LETTERS alone, and of a line of bits those 0 .. 7. */
    private static void lettersAlone() {
        RasterHouse r = new RasterHouse();
        r.glyph(0, -1L, 1);
        r.glyph(1, 0, 1);
        r.glyph(2, 0x01FF000000000000L, 8);
        int blank = Edge.make(r, 6, 0, 0);
        r.style(blank, 12, 16);
        for (int i = 1; i <= 8; i++) {
            r.say(blank, 1);
            for (int a = 0; a < 128; a += 16) Check.due("no other LETTER behind it", r.hit(blank, a, 5), NONE);
        }
        int two = Edge.make(r, 6, 0, 0);
        r.style(two, 12, 16);
        r.glyph(3, 0, 8);
        r.glyph(4, 0x0100000000000080L, 8);
        r.say(two, 3);
        r.say(two, 4);
        r.say(two, 3);
        Check.due("its first line's last bit", r.hit(two, 15 * 16, 5), two);
        Check.due("is not ahead of its second line", r.hit(two, 7 * 16, 16 + 5), NONE);
        Check.due("its last line's first bit", r.hit(two, 8 * 16, 7 * 16), two);
        Check.due("is not behind the line above", r.hit(two, 16 * 16, 6 * 16), NONE);
        Check.due("nor behind itself", r.hit(two, 16 * 16, 7 * 16), NONE);
    }

    /** "covered, if j is 0 .. 7", also of a FRAME, which has no BOUNDS to end it. */
    private static void textsAsFrames() {
        RasterHouse r = new RasterHouse();
        r.glyph(0, -1L, 8);
        Edge.make(r, 6, 100, 200);
        r.style(0, 12, 16);
        r.say(0, 0);
        r.say(0, 0);
        Edge.box(r, -4096, -4096, 12287, 12287);
        Edge.nest(r, 9, 0, 1);
        int[][] in = {{100, 200}, {355, 200}, {100, 327}, {355, 327}, {227, 250}, {228, 250}};
        int[][] out = {{99, 200}, {356, 200}, {100, 199}, {100, 328}, {100, 72}, {100, 4000}, {-4096, 250}, {100, -4096}};
        for (int[] p : in) Check.due("through its LETTERS", r.hit(2, p[0], p[1]), 1);
        for (int[] p : out) Check.due("not beside them", r.hit(2, p[0], p[1]), NONE);
    }

    /** "each has 8 lines of 8 bits (a long, the highest bit the first of the first line)"; GLYPHS 0 .. 15. */
    private static void bitsOfGlyphs() {
        for (int k = 0; k < 64; k++) {
            RasterHouse r = new RasterHouse();
            Edge.make(r, 6, 0, 0);
            r.style(0, 12, 256);
            Check.due("glyph", r.glyph(k % 16, 1L << 63 - k, 8), 1);
            r.say(0, k % 16);
            int x = k % 8, y = k / 8;
            Check.due("bit " + k, r.covered(0, x, y), 16);
            Check.due("its first point", r.hit(0, 256 * x, 256 * y), 0);
            Check.due("its last point", r.hit(0, 256 * x + 255, 256 * y + 255), 0);
            int[][] beside = {{-1, 0}, {256, 0}, {0, -1}, {0, 256}};
            for (int[] d : beside) Check.due("beside it", r.hit(0, 256 * x + d[0], 256 * y + d[1]), NONE);
        }
        RasterHouse r = new RasterHouse();
        int text = Edge.make(r, 6, 0, 0);
        for (int g = 0; g < 16; g++) Check.due("GLYPHS 0 .. 15", r.glyph(g, -1, 1 + g), 1);
        Check.due("no GLYPH", r.glyph(16, -1, 1), UNKNOWN);
        for (int i = 0; i < 8; i++) Check.due("how many", r.say(text, 15 - i), i + 1);
        Check.due("8 at most", r.say(text, 0), FULL);
        Check.due("LETTERS", r.look(text, 3), 8);
    }

    /** "some LETTER's bit i - (the sum of the ADVANCES ahead of it), 0 .. 7, of line j is 1"; "an ADVANCE 1 .. 16 (8 at first ..)". */
    private static void advances() {
        RasterHouse r = new RasterHouse();
        Edge.make(r, 6, 0, 0);
        r.style(0, 12, 16);
        r.glyph(0, 0x8100000000000081L, 1);
        r.glyph(1, 0x8000000000000000L, 16);
        for (int g : new int[] {0, 0, 1, 2, 1}) r.say(0, g);
        // letters begin at columns 0, 1, 2, 18, 26; the last bits of the first two are columns 7 and 8
        String first = "";
        for (int i = 0; i < 36; i++) first += r.hit(0, 16 * i + 5, 5) == 0 ? "1" : "0";
        Check.due("line 0: " + first, first.equals("111000011000000000000000001000000000") ? 1 : 0, 1);
        String last = "";
        for (int i = 0; i < 36; i++) last += r.hit(0, 16 * i + 5, 7 * 16 + 15) == 0 ? "1" : "0";
        Check.due("line 7: " + last, last.equals("110000011000000000000000000000000000") ? 1 : 0, 1);
        Check.due("above", r.hit(0, 5, -1), NONE);
        Check.due("below", r.hit(0, 5, 128), NONE);
        Check.due("ahead: bit -1 is none", r.hit(0, -1, 5), NONE);
        Edge.bounds("1 + 1 + 16 + 8 and 8", r, 0, 0, 0, 16 * 34, 128);
        r.glyph(1, 1, 1);
        Edge.bounds("GLYPHS as they are then", r, 0, 0, 0, 16 * 19, 128);
        Check.due("GLYPHS as they are then", r.hit(0, 16 * 18, 127), 0);
    }

    /** "With u = UNIT, i = FLOOR((a - px) / u)"; "12 UNIT (16 .. 512, 64)". */
    private static void units() {
        for (int unit : new int[] {16, 64, 511, 512}) {
            RasterHouse r = new RasterHouse();
            Edge.make(r, 6, -777, 333);
            if (unit != 64) r.style(0, 12, unit);
            r.glyph(0, -1L, 16);
            r.say(0, 0);
            int right = -777 + 8 * unit, below = 333 + 8 * unit;
            hits("its first", r, 0, -777, 333, true);
            hits("its last", r, 0, right - 1, below - 1, true);
            hits("ahead of it", r, 0, -778, 333, false);
            hits("above it", r, 0, -777, 332, false);
            hits("behind it", r, 0, right, 333, false);
            hits("below it", r, 0, -777, below, false);
            Edge.bounds("one LETTER: 8, not its ADVANCE", r, 0, -777, 333, right, below);
            for (int i = 0; i < 7; i++) r.say(0, 0);
            Edge.bounds("all ADVANCES but the last", r, 0, -777, 333, -777 + unit * (7 * 16 + 8), below);
        }
    }

    /** "BOUNDS: x from X0 up to ahead of X1, y likewise"; "EMPTY, if .." of SORTS 0 to 7. */
    private static void boundsOfLeaves() {
        RasterHouse r = new RasterHouse();
        for (int sort : new int[] {0, 5, 7}) {
            int s = Edge.make(r, sort, 300, -20, -5, 40);
            Edge.bounds("sort " + sort, r, s, -5, -20, 300, 40);
            Edge.empty("without width", r, Edge.make(r, sort, 5, 0, 5, 900));
            Edge.empty("without height", r, Edge.make(r, sort, 0, 5, 900, 5));
            Edge.bounds("of one", r, Edge.make(r, sort, 5, 5, 6, 4), 5, 4, 6, 5);
        }
        Edge.empty("a wedge without width", r, Edge.make(r, 1, 5, 0, 5, 90, 5, 40));
        Edge.empty("a ring without height", r, Edge.make(r, 2, 0, 5, 40, 5, 90, 5, 7, 5));
        Edge.bounds("a wedge along a slope", r, Edge.make(r, 1, 0, 0, 5, 5, 9, 9), 0, 0, 9, 9);
        int stroke = Edge.make(r, 3, 10, 20, 10, 20);
        Edge.bounds("a stroke: HALF, and 1 behind", r, stroke, -118, -108, 139, 149);
        r.style(stroke, 6, 1);
        Edge.bounds("with ENDS 1", r, stroke, -118, -108, 139, 149);
        r.style(stroke, 6, 2);
        Edge.bounds("with ENDS 2 twice HALF", r, stroke, -246, -236, 267, 277);
        r.style(stroke, 5, 1024);
        Edge.bounds("with ENDS 2 and HALF 1024", r, stroke, -2038, -2028, 2059, 2069);
        int text = r.shape(6);
        Edge.empty("a text of nothing", r, text);
        r.say(text, 0);
        Edge.empty("a text without a POINT", r, text);
        r.point(text, 1, 2);
        Edge.bounds("a text of one letter without bits", r, text, 1, 2, 513, 514);
        Edge.empty("a text without LETTERS", r, Edge.make(r, 6, 1, 2));
    }

    /** "of a GROUP of all its PARTS together, moved; of a CLIP what its FRAME and other PART have in common, moved" and EMPTY ones. */
    private static void boundsOfNests() {
        RasterHouse r = new RasterHouse();
        int a = Edge.box(r, 0, 0, 100, 100), b = Edge.box(r, 100, 0, 200, 100), c = Edge.box(r, 99, 99, 300, 300);
        int flat = Edge.box(r, -4000, 50, 4000, 50);
        Edge.empty("a GROUP of none", r, r.shape(8));
        Edge.empty("a GROUP of an EMPTY one", r, Edge.nest(r, 8, flat));
        Edge.bounds("an EMPTY PART counts for none", r, Edge.nest(r, 8, flat, a, flat), 0, 0, 100, 100);
        int group = Edge.nest(r, 8, b, a);
        Edge.bounds("together", r, group, 0, 0, 200, 100);
        r.move(group, -7, 4096);
        Edge.bounds("moved", r, group, -7, 4096, 193, 4196);
        Edge.bounds("moved within", r, Edge.nest(r, 8, group, c), -7, 99, 300, 4196);
        Edge.empty("a CLIP of none", r, r.shape(9));
        Edge.empty("a CLIP of a FRAME", r, Edge.nest(r, 9, a));
        Edge.empty("X0 is not below X1", r, Edge.nest(r, 9, a, b));
        int clip = Edge.nest(r, 9, a, c);
        Edge.bounds("one in common", r, clip, 99, 99, 100, 100);
        r.move(clip, 4096, -4096);
        Edge.bounds("moved", r, clip, 4195, -3997, 4196, -3996);
        Edge.empty("an EMPTY FRAME", r, Edge.nest(r, 9, flat, a));
        int gone = Edge.nest(r, 9, a, flat);
        Edge.empty("an EMPTY PART", r, gone);
        Edge.empty("a GROUP of such alone", r, Edge.nest(r, 8, gone, flat));
        Edge.empty("a CLIP of such", r, Edge.nest(r, 9, c, gone));
        int far = Edge.nest(r, 8, gone);
        r.move(far, 50, 50);
        Edge.empty("moved it is EMPTY yet", r, far);
        boundsAsTheyAreThen();
    }

    /** BOUNDS are told of PARTS as they are then, also if these become EMPTY. */
    private static void boundsAsTheyAreThen() {
        RasterHouse r = new RasterHouse();
        int curve = Edge.make(r, 4, 0, 0, 800, 0, 0, 800), box = Edge.box(r, 0, 0, 100, 100);
        int clip = Edge.nest(r, 9, box, curve), back = Edge.nest(r, 9, curve, box), group = Edge.nest(r, 8, curve);
        for (int i = 0; i < 2; i++) {
            r.style(curve, 9, 2);
            Edge.bounds("a CLIP", r, clip, 0, 0, 100, 100);
            Edge.bounds("a CLIP", r, back, 0, 0, 100, 100);
            Edge.bounds("a GROUP", r, group, 0, 0, 400, 800);
            r.style(curve, 9, 1);
            Edge.empty("its PART is EMPTY then", r, clip);
            Edge.empty("its FRAME is EMPTY then", r, back);
            Edge.empty("its PART is EMPTY then", r, group);
        }
        r.style(curve, 9, 2);
        r.move(box, 500, 0);
        Edge.empty("they have nothing in common then", r, clip);
        r.move(box, -200, 0);
        Edge.bounds("they have again", r, clip, 300, 0, 400, 100);
    }

    /** "WEIGHT: of a RING 2 for each of its own POINTS, as many as it has; of BOX, WEDGE that of a RING, and 1; .." */
    private static void weights() {
        for (int sort = 0; sort < 8; sort++) {
            RasterHouse r = new RasterHouse();
            r.shape(sort);
            for (int n = 0; n <= MOST[sort]; n++) {
                int[] due = {2 * n + 1, 2 * n + 1, 2 * n, 128, 2 * n + 4, 7, 0, 2 * n + 5};
                Check.due("sort " + sort + " with " + n, r.look(0, 10), due[sort]);
                r.point(0, n, n);
            }
        }
        RasterHouse r = new RasterHouse();
        int stroke = r.shape(3), curve = r.shape(4), text = r.shape(6), box = Edge.make(r, 0, 0, 0);
        for (int half : new int[] {1, 1024}) {
            r.style(stroke, 5, half);
            Check.due("HALF", r.look(stroke, 10), half);
        }
        for (int pieces : new int[] {1, 8}) {
            r.style(curve, 9, pieces);
            Check.due("PIECES", r.look(curve, 10), pieces);
        }
        for (int i = 1; i <= 8; i++) {
            r.say(text, i);
            Check.due("3 for each LETTER", r.look(text, 10), 3 * i);
        }
        int group = r.shape(8), clip = r.shape(9);
        Check.due("a GROUP of none", r.look(group, 10), 0);
        Check.due("a CLIP of none", r.look(clip, 10), -1);
        r.join(clip, stroke);
        Check.due("a CLIP of its FRAME", r.look(clip, 10), 1023);
        r.join(clip, text);
        Check.due("a CLIP of both", r.look(clip, 10), 1047);
        r.join(group, box);
        r.join(group, box);
        Check.due("each as often as it comes", r.look(group, 10), 6);
        r.point(box, 1, 1);
        Check.due("as they are then", r.look(group, 10), 10);
        int around = Edge.nest(r, 8, clip, group, clip);
        Check.due("the sum of its PARTS' WEIGHTS", r.look(around, 10), 2104);
    }

    /** "RANK: of a PICTURE 99; of GROUPS, CLIPS .. 200 less the WEIGHT; of all others .. 10 and the WEIGHT." */
    private static void ranks() {
        RasterHouse r = new RasterHouse();
        int[] due = {11, 11, 10, 138, 14, 17, 10, 99, 200, 201};
        for (int sort = 0; sort < 10; sort++) Check.due("sort " + sort, r.look(r.shape(sort), 11), due[sort]);
        r.point(7, 0, 0);
        r.point(7, 9, 9);
        Check.due("a PICTURE's WEIGHT", r.look(7, 10), 9);
        Check.due("a PICTURE", r.look(7, 11), 99);
        r.style(3, 5, 1024);
        Check.due("a STROKE", r.look(3, 11), 1034);
        r.join(8, 3);
        Check.due("below 0", r.look(8, 11), -824);
        r.join(9, 3);
        r.join(9, 8);
        Check.due("below 0", r.look(9, 11), 200 - 2047);
    }

    /** "STYLE of a SHAPE (of GROUPS, CLIPS it is kept ..): .. at first the last told"; each least and greatest. */
    private static void stylesOfEachSort() {
        int[] first = {0, 0, 0, 0, 0, 128, 0, 0, 0, 4, 0, 8, 64, NONE, 0};
        int[] least = {-2147483648, -32768, 0, 0, 0, 1, 0, 0, 0, 1, 0, -8000, 16, NONE, 0};
        int[] most = {2147483647, 32767, 65535, 11, 2, 1024, 2, 1, 1, 8, 2, 8000, 512, 1, 1};
        for (int sort = 0; sort < 10; sort++) {
            RasterHouse r = new RasterHouse();
            r.plane(0, 1, 1);
            r.plane(7, 1, 1);
            r.shape(sort);
            r.shape(sort);
            for (int w = 0; w < 15; w++) {
                Check.due("at first " + w, r.look(0, 20 + w), first[w]);
                Check.due("the least " + w, r.style(0, w, least[w]), 1);
                Check.due("the least " + w, r.look(0, 20 + w), least[w]);
                if (w > 0) Check.due("less " + w, r.style(0, w, least[w] - 1), OUTSIDE);
                Check.due("the most " + w, r.style(0, w, most[w]), 1);
                if (w > 0) Check.due("more " + w, r.style(0, w, most[w] + 1), OUTSIDE);
                Check.due("the most " + w, r.look(0, 20 + w), most[w]);
                Check.due("of another SHAPE " + w, r.look(1, 20 + w), first[w]);
            }
            Check.due("STYLE 15", r.style(0, 15, 0), OUTSIDE);
            Check.due("STYLE -1", r.style(0, -1, 0), OUTSIDE);
            Check.due("a TEXTURE is none again", r.style(0, 13, NONE), 1);
            Check.due("a TEXTURE is none again", r.look(0, 33), NONE);
            Check.due("a later PLANE", r.style(0, 13, 2), OUTSIDE);
            r.plane(0, 1, 1);
            Check.due("a later PLANE", r.style(0, 13, 2), 1);
        }
    }

    /** "(of GROUPS, CLIPS it is kept and does not count)". */
    private static void stylesOfNestsDoNotCount() {
        RasterHouse r = new RasterHouse();
        r.plane(5, 8, 8);
        Edge.box(r, 0, 0, 256, 256);
        r.style(0, 0, 3);
        Edge.nest(r, 8, 0);
        Edge.nest(r, 9, 0, 1);
        for (int s = 1; s < 3; s++) {
            r.style(s, 0, 1000);
            r.style(s, 3, 5);
            r.style(s, 5, 1);
            r.style(s, 10, 1);
            r.stop(s, 0, 500);
            r.style(s, 13, 0);
            Check.due("a TEXTURE of no PICTURE is none", r.paint(0, NONE, s, 0), 1);
            Check.due("the LEAF's COLOUR", r.dot(0, 0, 0), 48 * s);
        }
        Check.due("a STOP is kept", r.look(1, 4), 1);
        Check.due("kept", r.look(2, 20), 1000);
    }

    /** "STOPS of a SHAPE, 4 at most: places 0 .. 256, each above the one before, with a COLOUR." */
    private static void stops() {
        for (int sort = 0; sort < 10; sort++) {
            RasterHouse r = new RasterHouse();
            r.shape(sort);
            r.shape(sort);
            Check.due("none at first", r.look(0, 4), 0);
            Check.due("below 0", r.stop(0, -1, 5), OUTSIDE);
            Check.due("above 256", r.stop(0, 257, 5), OUTSIDE);
            Check.due("0", r.stop(0, 0, -2147483648), 1);
            Check.due("not above the one before", r.stop(0, 0, 5), OUTSIDE);
            Check.due("one above", r.stop(0, 1, 2147483647), 2);
            Check.due("below the one before", r.stop(0, 0, 5), OUTSIDE);
            Check.due("255", r.stop(0, 255, 5), 3);
            Check.due("256", r.stop(0, 256, 5), 4);
            Check.due("none is above", r.stop(0, 256, 5), OUTSIDE);
            Check.due("STOPS", r.look(0, 4), 4);
            Check.due("256 as the first", r.stop(1, 256, 5), 1);
            Check.due("none is above", r.stop(1, 256, 5), OUTSIDE);
        }
        RasterHouse r = new RasterHouse();
        r.shape(0);
        for (int i = 1; i <= 4; i++) r.stop(0, i, i);
        Check.due("a fifth", r.stop(0, 5, 5), FULL);
        Check.due("a fifth, not above", r.stop(0, 4, 5), OUTSIDE);
    }
}
