/**
 * Terms, and the refusals of each promise: "the first that fits as a call names them .. they change
 * nothing (but finding(), of a call that names FAULTS)". Each row is one refusal on a furnished house.
 */
public final class RefusalsTest {
    private static final int UNKNOWN = Edge.UNKNOWN, OUTSIDE = Edge.OUTSIDE, STATE = Edge.STATE, FULL = Edge.FULL,
        NONE = Edge.NONE;
    private static final int MIN = Integer.MIN_VALUE, MAX = Integer.MAX_VALUE;

    public static void main(String[] args) {
        ofPlanes();
        ofDots();
        ofTiles();
        ofShapes();
        ofNests();
        ofStyles();
        ofLetters();
        ofJobs();
        ofDepthsAndTextures();
        ofCopies();
        ofGradesAndMasks();
        ofWhatIsTold();
        ofShapesTold();
        ofFullHouses();
        ofSpentUnits();
        whileAJobIsUnderWay();
        Check.end();
    }

    /** 5 planes (0 with holes of both faults), 8 shapes, acts done and one taken back, finding() 2, copied() 3. */
    private static RasterHouse furnished() {
        RasterHouse r = new RasterHouse();
        r.plane(1, 16, 8);
        r.plane(6, 9, 9);
        r.plane(0, 16, 8);
        r.plane(2, 16, 8);
        r.plane(1, 16, 8);
        r.blank(4, 3);
        Edge.box(r, 0, 0, 700, 700);
        int text = Edge.make(r, 6, 40, 40);
        r.glyph(0, -1L, 2);
        for (int i = 0; i < 8; i++) r.say(text, 0);
        int curve = Edge.make(r, 4, 0, 0, 1000, 0, 0, 1000);
        for (int i = 0; i < 4; i++) r.stop(curve, 60 * i, i);
        int picture = Edge.make(r, 7, 0, 0, 512, 512);
        r.style(picture, 13, 4);
        Edge.nest(r, 8, 0);
        Edge.nest(r, 9, 0, curve);
        Edge.nest(r, 8, 4);
        Edge.nest(r, 8, picture);
        r.tile(0, 0, 0, 4, 64);
        r.tile(0, 1, 0, 1, 10);
        r.put(1, 3, 3, 21);
        r.spoil(1, 4, 3);
        r.put(2, 5, 5, 1);
        r.paint(3, NONE, 0, 0);
        r.copy(4, 0, 0, 3, 3, 4, 8, 1);
        r.put(4, 0, 0, 9);
        r.undo();
        r.dot(0, 0, 0);
        return r;
    }

    /** The furnished house with a job of 2 units of which one is done. */
    private static RasterHouse busy() {
        RasterHouse r = furnished();
        r.put(4, 1, 1, 8);
        r.undo();
        r.begin(4, 3, 0, 0);
        r.go(1);
        r.dot(0, 0, 0);
        return r;
    }

    private static void no(String sentence, Edge.Call call, int answer) {
        Edge.refused(sentence, RefusalsTest::furnished, call, answer);
    }

    private static void fault(String sentence, Edge.Call call, int fault) {
        Edge.fault(sentence, RefusalsTest::furnished, call, fault);
    }

    /** Promises 2 and 3. */
    private static void ofPlanes() {
        for (int kind : new int[] {-1, 8, MIN, MAX}) no("plane: OUTSIDE, kind " + kind, r -> r.plane(kind, 1, 1), OUTSIDE);
        for (int side : new int[] {0, 33, -1, MIN, MAX}) {
            no("plane: OUTSIDE, width " + side, r -> r.plane(0, side, 1), OUTSIDE);
            no("plane: OUTSIDE, height " + side, r -> r.plane(0, 1, side), OUTSIDE);
        }
        for (int p : new int[] {-1, 5, NONE, MIN, MAX}) no("blank: UNKNOWN, plane " + p, r -> r.blank(p, 7), UNKNOWN);
    }

    /** Promises 4, 5, 26 and 28. */
    private static void ofDots() {
        int[][] noDots = {{-1, 0, 0}, {5, 0, 0}, {MAX, 0, 0}, {MIN, 0, 0}, {4, -1, 0}, {4, 16, 0}, {4, 0, -1}, {4, 0, 8},
            {4, MAX, 0}, {4, MIN, 0}, {4, 0, MAX}, {4, 0, MIN}, {0, 16, 0}};
        for (int[] d : noDots) {
            String at = " " + d[0] + ", " + d[1] + ", " + d[2];
            no("put: UNKNOWN" + at, r -> r.put(d[0], d[1], d[2], 1), UNKNOWN);
            no("spoil: UNKNOWN ahead of CAST" + at, r -> r.spoil(d[0], d[1], d[2]), UNKNOWN);
            no("dot: UNKNOWN is 0 and no FAULT" + at, r -> r.dot(d[0], d[1], d[2]), 0);
            no("sort: UNKNOWN" + at, r -> r.sort(d[0], d[1], d[2]), UNKNOWN);
            no("glow: UNKNOWN is 0.0" + at, r -> r.glow(d[0], d[1], d[2]) == 0.0 ? 1 : 0, 1);
        }
        no("spoil: UNKNOWN, a dot of GLOWS too far", r -> r.spoil(1, 9, 0), UNKNOWN);
        no("spoil: UNKNOWN, a dot of GLOWS too low", r -> r.spoil(1, 0, 9), UNKNOWN);
        fault("put: CAST", r -> r.put(0, 7, 7, 1), 2);
        fault("put: INDEX, the first cell that is not there", r -> r.put(0, 10, 1, 1), 3);
        fault("dot: CAST", r -> r.dot(0, 7, 0), 2);
        fault("dot: INDEX", r -> r.dot(0, 15, 7), 3);
        fault("sort: CAST", r -> r.sort(0, 0, 7), 2);
        fault("sort: INDEX", r -> r.sort(0, 10, 1), 3);
        fault("spoil: CAST, also a PLANE of another KIND", r -> r.spoil(4, 0, 0), 2);
        fault("spoil: CAST ahead of INDEX, a PLANE of another KIND", r -> r.spoil(0, 15, 7), 2);
        no("glow: no FAULT of a HOLE", r -> r.glow(0, 0, 0) == 0.0 ? 1 : 0, 1);
        no("glow: no FAULT of a HOLE", r -> r.glow(0, 15, 7) == 0.0 ? 1 : 0, 1);
    }

    /** Promises 6 and 7. */
    private static void ofTiles() {
        int[][] noTiles = {{-1, 0, 0}, {5, 0, 0}, {4, -1, 0}, {4, 2, 0}, {4, 0, -1}, {4, 0, 1}, {4, MAX, 0}, {4, 0, MIN},
            {1, 2, 0}, {1, 0, 2}};
        for (int[] t : noTiles) {
            String at = " " + t[0] + ", " + t[1] + ", " + t[2];
            no("tile: UNKNOWN" + at, r -> r.tile(t[0], t[1], t[2], 1, 1), UNKNOWN);
            no("tile: UNKNOWN ahead of OUTSIDE" + at, r -> r.tile(t[0], t[1], t[2], 8, 65), UNKNOWN);
            no("tile: UNKNOWN ahead of SIZE" + at, r -> r.tile(t[0], t[1], t[2], 1, -1), UNKNOWN);
            no("wipe: UNKNOWN" + at, r -> r.wipe(t[0], t[1], t[2]), UNKNOWN);
            no("row: UNKNOWN ahead of OUTSIDE" + at, r -> r.row(t[0], t[1], t[2], 2), UNKNOWN);
        }
        for (int kind : new int[] {-1, 8, MIN, MAX}) {
            no("tile: OUTSIDE, kind " + kind, r -> r.tile(4, 0, 0, kind, 1), OUTSIDE);
            no("tile: OUTSIDE ahead of SIZE, kind " + kind, r -> r.tile(4, 0, 0, kind, -1), OUTSIDE);
        }
        for (int n : new int[] {65, 66, MAX}) no("tile: OUTSIDE, n " + n, r -> r.tile(4, 0, 0, 1, n), OUTSIDE);
        for (int n : new int[] {-1, -2, MIN}) fault("tile: SIZE, n " + n, r -> r.tile(4, 0, 0, 1, n), 5);
    }

    /** Promises 8, 9 and 10. */
    private static void ofShapes() {
        for (int sort : new int[] {-1, 10, MIN, MAX}) no("shape: OUTSIDE, sort " + sort, r -> r.shape(sort), OUTSIDE);
        for (int s : new int[] {-1, 8, NONE, MIN, MAX}) {
            no("point: UNKNOWN ahead of OUTSIDE, shape " + s, r -> r.point(s, MIN, 0), UNKNOWN);
            no("move: UNKNOWN ahead of OUTSIDE, shape " + s, r -> r.move(s, MAX, MAX), UNKNOWN);
        }
        for (int v : new int[] {-4097, 12288, MIN, MAX}) {
            no("point: OUTSIDE, x " + v, r -> r.point(2, v, 0), OUTSIDE);
            no("point: OUTSIDE, y " + v, r -> r.point(2, 0, v), OUTSIDE);
            no("point: OUTSIDE ahead of FULL, x " + v, r -> r.point(0, v, 0), OUTSIDE);
        }
        no("point: OUTSIDE, a GROUP", r -> r.point(4, 0, 0), OUTSIDE);
        no("point: OUTSIDE, a CLIP", r -> r.point(5, 0, 0), OUTSIDE);
        no("point: FULL, a BOX", r -> r.point(0, 0, 0), FULL);
        no("point: FULL, a TEXT", r -> r.point(1, 0, 0), FULL);
        no("point: FULL, a PICTURE", r -> r.point(3, 0, 0), FULL);
        for (int d : new int[] {-4097, 12287 - 700 + 1, MIN, MAX}) {
            no("move: OUTSIDE, dx " + d, r -> r.move(0, d, 0), OUTSIDE);
            no("move: OUTSIDE, dy " + d, r -> r.move(0, 0, d), OUTSIDE);
            no("move: OUTSIDE, both " + d, r -> r.move(0, d, d), OUTSIDE);
        }
        for (int d : new int[] {-4097, 4097, MIN, MAX}) {
            no("move: OUTSIDE, a GROUP's dx " + d, r -> r.move(4, d, 0), OUTSIDE);
            no("move: OUTSIDE, a CLIP's dy " + d, r -> r.move(5, 0, d), OUTSIDE);
        }
    }

    /** Promise 11. */
    private static void ofNests() {
        for (int s : new int[] {-1, 8, MIN, MAX}) {
            no("join: UNKNOWN, group " + s, r -> r.join(s, 0), UNKNOWN);
            no("join: UNKNOWN, part " + s, r -> r.join(7, s), UNKNOWN);
            no("join: UNKNOWN ahead of OUTSIDE, part " + s, r -> r.join(0, s), UNKNOWN);
        }
        for (int s = 1; s < 4; s++) {
            int leaf = s;
            no("join: OUTSIDE, it is neither GROUP nor CLIP", r -> r.join(leaf, 0), OUTSIDE);
        }
        no("join: OUTSIDE, the PART is itself", r -> r.join(7, 7), OUTSIDE);
        no("join: OUTSIDE, the PART is not lesser", r -> r.join(6, 7), OUTSIDE);
        no("join: OUTSIDE ahead of STATE, not lesser", r -> r.join(4, 5), OUTSIDE);
        no("join: OUTSIDE ahead of FULL, not lesser", r -> r.join(5, 6), OUTSIDE);
        no("join: STATE, the GROUP is a PART", r -> r.join(4, 1), STATE);
        no("join: FULL, a CLIP of two", r -> r.join(5, 1), FULL);
        no("join: FULL, a CLIP of two, and a GROUP is no FRAME then", r -> r.join(5, 4), FULL);
        Edge.Make bare = () -> {
            RasterHouse r = furnished();
            r.shape(9);
            return r;
        };
        for (int part = 4; part < 8; part++) {
            int nest = part;
            Edge.refused("join: OUTSIDE, a FRAME of SORT 8, 9", bare, r -> r.join(8, nest), OUTSIDE);
        }
        Edge.Make within = () -> {
            RasterHouse r = furnished();
            r.shape(8);
            r.join(8, 5);
            return r;
        };
        Edge.refused("join: STATE ahead of FULL, a CLIP of two that is a PART", within, r -> r.join(5, 1), STATE);
    }

    /** Promises 12 and 13. */
    private static void ofStyles() {
        int[] least = {0, -32768, 0, 0, 0, 1, 0, 0, 0, 1, 0, -8000, 16, NONE, 0};
        int[] most = {0, 32767, 65535, 11, 2, 1024, 2, 1, 1, 8, 2, 8000, 512, 4, 1};
        for (int what = 1; what < 15; what++) {
            int w = what;
            no("style: OUTSIDE, below STYLE " + w, r -> r.style(2, w, least[w] - 1), OUTSIDE);
            no("style: OUTSIDE, above STYLE " + w, r -> r.style(2, w, most[w] + 1), OUTSIDE);
            no("style: OUTSIDE, far below STYLE " + w, r -> r.style(2, w, MIN), OUTSIDE);
            no("style: OUTSIDE, far above STYLE " + w, r -> r.style(2, w, MAX), OUTSIDE);
        }
        for (int v = -8; v < 0; v++) {
            int p = v;
            no("style: OUTSIDE, a TEXTURE that is no PLANE", r -> r.style(3, 13, p), OUTSIDE);
        }
        no("style: OUTSIDE, a TEXTURE that is no PLANE yet", r -> r.style(3, 13, 5), OUTSIDE);
        for (int what : new int[] {-1, 15, 20, MIN, MAX}) no("style: OUTSIDE, what " + what, r -> r.style(2, what, 1), OUTSIDE);
        for (int s : new int[] {-1, 8, MIN, MAX}) {
            no("style: UNKNOWN ahead of OUTSIDE, shape " + s, r -> r.style(s, 15, 1), UNKNOWN);
            no("stop: UNKNOWN ahead of OUTSIDE, shape " + s, r -> r.stop(s, 257, 1), UNKNOWN);
        }
        for (int place : new int[] {-1, 257, MIN, MAX}) {
            no("stop: OUTSIDE, place " + place, r -> r.stop(0, place, 1), OUTSIDE);
            no("stop: OUTSIDE ahead of FULL, place " + place, r -> r.stop(2, place, 1), OUTSIDE);
        }
        no("stop: OUTSIDE ahead of FULL, not above the one before", r -> r.stop(2, 180, 1), OUTSIDE);
        no("stop: FULL, 4", r -> r.stop(2, 181, 1), FULL);
    }

    /** Promises 14 and 15. */
    private static void ofLetters() {
        for (int g : new int[] {-1, 16, MIN, MAX}) {
            no("glyph: UNKNOWN ahead of OUTSIDE, glyph " + g, r -> r.glyph(g, 1, 0), UNKNOWN);
            no("say: UNKNOWN, glyph " + g, r -> r.say(1, g), UNKNOWN);
            no("say: UNKNOWN ahead of OUTSIDE, glyph " + g, r -> r.say(0, g), UNKNOWN);
        }
        for (int advance : new int[] {0, 17, -1, MIN, MAX}) {
            no("glyph: OUTSIDE, advance " + advance, r -> r.glyph(0, 5, advance), OUTSIDE);
        }
        for (int s : new int[] {-1, 8, MIN, MAX}) no("say: UNKNOWN, shape " + s, r -> r.say(s, 0), UNKNOWN);
        for (int s = 0; s < 8; s++) {
            int other = s;
            if (s != 1) no("say: OUTSIDE, no TEXT", r -> r.say(other, 0), OUTSIDE);
        }
        no("say: FULL, 8", r -> r.say(1, 0), FULL);
    }

    /** Promises 16, 17, 23 and 24: both begin() and paint() are asked. */
    private static void noJob(String sentence, int plane, int depth, int shape, int way, int answer) {
        no("begin: " + sentence, r -> r.begin(plane, depth, shape, way), answer);
        no("paint: " + sentence, r -> r.paint(plane, depth, shape, way), answer);
    }

    private static void ofJobs() {
        for (int p : new int[] {-1, 5, NONE, MIN, MAX}) {
            noJob("UNKNOWN ahead of OUTSIDE, plane " + p, p, NONE, 0, 2, UNKNOWN);
            if (p != NONE) noJob("UNKNOWN ahead of OUTSIDE, depth " + p, 4, p, 0, 2, UNKNOWN);
        }
        for (int s : new int[] {-1, 8, NONE, MIN, MAX}) {
            noJob("UNKNOWN ahead of OUTSIDE, shape " + s, 4, NONE, s, 2, UNKNOWN);
            noJob("UNKNOWN ahead of STATE, shape " + s, 4, 4, s, 0, UNKNOWN);
        }
        for (int way : new int[] {-1, 2, MIN, MAX}) {
            noJob("OUTSIDE, way " + way, 4, NONE, 0, way, OUTSIDE);
            noJob("OUTSIDE ahead of STATE, way " + way, 4, 4, 3, way, OUTSIDE);
        }
        no("go: STATE, no JOB", r -> r.go(1), STATE);
        for (int n : new int[] {-1, 2001, MIN, MAX}) no("go: STATE ahead of OUTSIDE", r -> r.go(n), STATE);
        no("halt: STATE, no JOB", RasterHouse::halt, STATE);
        for (int n : new int[] {-1, 2001, MIN, MAX}) Edge.refused("go: OUTSIDE", RefusalsTest::busy, r -> r.go(n), OUTSIDE);
    }

    private static void ofDepthsAndTextures() {
        noJob("STATE, the DEPTH PLANE is the PLANE", 3, 3, 0, 0, STATE);
        noJob("STATE, a DEPTH PLANE of MASKS", 4, 2, 0, 0, STATE);
        noJob("STATE, a DEPTH PLANE of GREYS", 3, 4, 0, 0, STATE);
        noJob("STATE, a DEPTH PLANE of another size", 4, 1, 0, 0, STATE);
        noJob("STATE, the PLANE is a PICTURE's TEXTURE", 4, NONE, 3, 0, STATE);
        noJob("STATE, the PLANE is the TEXTURE of a PICTURE in a GROUP", 4, NONE, 7, 1, STATE);
        for (int kind : new int[] {3, 4, 5}) {
            Edge.Make more = () -> {
                RasterHouse r = furnished();
                r.plane(kind, 16, 8);
                return r;
            };
            Edge.refused("begin: STATE, a DEPTH PLANE of KIND " + kind, more, r -> r.begin(4, 5, 0, 0), STATE);
        }
        int[][] sizes = {{16, 7}, {16, 9}, {15, 8}, {17, 8}, {8, 16}};
        for (int[] size : sizes) {
            Edge.Make more = () -> {
                RasterHouse r = furnished();
                r.plane(7, size[0], size[1]);
                return r;
            };
            Edge.refused("begin: STATE, a DEPTH PLANE of another size", more, r -> r.begin(4, 5, 0, 0), STATE);
        }
        Edge.Make textured = () -> {
            RasterHouse r = furnished();
            r.style(3, 13, 3);
            return r;
        };
        Edge.refused("paint: STATE, the DEPTH PLANE is a PICTURE's TEXTURE", textured, r -> r.paint(4, 3, 3, 0), STATE);
    }

    /** Promise 18. */
    private static void ofCopies() {
        int[][] noDots = {{-1, 0, 0}, {5, 0, 0}, {4, -1, 0}, {4, 16, 0}, {4, 0, -1}, {4, 0, 8}, {4, MAX, 0}, {4, 0, MIN}};
        for (int[] d : noDots) {
            no("copy: UNKNOWN, from", r -> r.copy(d[0], d[1], d[2], 1, 1, 3, 0, 0), UNKNOWN);
            no("copy: UNKNOWN, to", r -> r.copy(3, 0, 0, 1, 1, d[0], d[1], d[2]), UNKNOWN);
            no("copy: UNKNOWN ahead of OUTSIDE", r -> r.copy(4, 0, 0, 0, 33, d[0], d[1], d[2]), UNKNOWN);
        }
        for (int n : new int[] {0, 33, -1, MIN, MAX}) {
            no("copy: OUTSIDE, w " + n, r -> r.copy(4, 0, 0, n, 1, 4, 0, 0), OUTSIDE);
            no("copy: OUTSIDE, h " + n, r -> r.copy(4, 0, 0, 1, n, 4, 0, 0), OUTSIDE);
            no("copy: OUTSIDE ahead of CAST, w " + n, r -> r.copy(4, 0, 0, n, 1, 3, 0, 0), OUTSIDE);
        }
        no("copy: OUTSIDE, beyond the first along x", r -> r.copy(4, 13, 0, 4, 1, 4, 0, 0), OUTSIDE);
        no("copy: OUTSIDE, beyond the first along y", r -> r.copy(4, 0, 5, 1, 4, 4, 0, 0), OUTSIDE);
        no("copy: OUTSIDE, beyond the other along x", r -> r.copy(4, 0, 0, 4, 1, 4, 13, 0), OUTSIDE);
        no("copy: OUTSIDE, beyond the other along y", r -> r.copy(4, 0, 0, 1, 4, 4, 0, 5), OUTSIDE);
        no("copy: OUTSIDE ahead of STORE", r -> r.copy(0, 0, 0, 17, 1, 0, 0, 1), OUTSIDE);
    }

    /** Promises 19, 20, 21 and 22. */
    private static void ofGradesAndMasks() {
        for (int p : new int[] {-1, 5, MIN, MAX}) {
            no("grade: UNKNOWN ahead of OUTSIDE, plane " + p, r -> r.grade(p, 8), UNKNOWN);
            no("mask: UNKNOWN, plane " + p, r -> r.mask(p, 2, 1), UNKNOWN);
            no("mask: UNKNOWN, by " + p, r -> r.mask(4, p, 1), UNKNOWN);
        }
        for (int what : new int[] {-1, 8, MIN, MAX}) {
            no("grade: OUTSIDE, what " + what, r -> r.grade(1, what), OUTSIDE);
            no("grade: OUTSIDE ahead of CAST, what " + what, r -> r.grade(4, what), OUTSIDE);
        }
        for (int p : new int[] {0, 2, 3, 4}) fault("grade: CAST, plane " + p, r -> r.grade(p, 0), 2);
        no("mask: STATE, the PLANE itself", r -> r.mask(2, 2, 1), STATE);
        no("mask: STATE ahead of CAST, the PLANE itself", r -> r.mask(4, 4, 1), STATE);
        no("mask: STATE, another size", r -> r.mask(1, 2, 1), STATE);
        no("mask: STATE ahead of CAST, another size", r -> r.mask(4, 1, 1), STATE);
        fault("mask: CAST, no MASKS", r -> r.mask(2, 4, 1), 2);
        fault("mask: CAST, no MASKS", r -> r.mask(4, 3, 1), 2);
        RasterHouse r = new RasterHouse();
        Check.due("undo: STATE, none can", r.undo(), STATE);
        Check.due("redo: STATE, none can", r.redo(), STATE);
        r.plane(1, 1, 1);
        r.put(0, 0, 0, 1);
        Check.due("redo: STATE, none was taken back", r.redo(), STATE);
        r.undo();
        Check.due("undo: STATE, all are taken back", r.undo(), STATE);
        Check.due("undo: STATE changes nothing", r.told(3), 1);
    }

    /** Promises 25, 29, 30, 38, 39 and 41. */
    private static void ofWhatIsTold() {
        for (int what : new int[] {-1, 6, MIN, MAX}) {
            no("done: OUTSIDE, " + what, r -> r.done(what), OUTSIDE);
            no("told: OUTSIDE, " + what, r -> r.told(what), OUTSIDE);
        }
        for (int what : new int[] {-1, 4, MIN, MAX}) no("size: OUTSIDE, " + what, r -> r.size(0, what), OUTSIDE);
        for (int what : new int[] {-1, 2, MIN, MAX}) {
            no("row: OUTSIDE, " + what, r -> r.row(0, 0, 0, what), OUTSIDE);
            no("row: OUTSIDE, of NOTHING, " + what, r -> r.row(1, 1, 1, what), OUTSIDE);
            no("compare: OUTSIDE, " + what, r -> r.compare(0, 4, what), OUTSIDE);
            no("compare: STATE ahead of OUTSIDE, " + what, r -> r.compare(0, 1, what), STATE);
        }
        for (int p : new int[] {-1, 5, NONE, MIN, MAX}) {
            no("size: UNKNOWN ahead of OUTSIDE, " + p, r -> r.size(p, 4), UNKNOWN);
            no("compare: UNKNOWN ahead of OUTSIDE, a " + p, r -> r.compare(p, 0, 2), UNKNOWN);
            no("compare: UNKNOWN ahead of OUTSIDE, b " + p, r -> r.compare(0, p, 2), UNKNOWN);
            no("digest: UNKNOWN is 0, " + p, r -> r.digest(p), 0);
        }
        no("compare: STATE, another size", r -> r.compare(4, 1, 0), STATE);
    }

    /** Promises 31 to 36. */
    private static void ofShapesTold() {
        for (int s : new int[] {-1, 8, NONE, MIN, MAX}) {
            no("look: UNKNOWN ahead of OUTSIDE, " + s, r -> r.look(s, 12), UNKNOWN);
            no("at: UNKNOWN ahead of OUTSIDE, " + s, r -> r.at(s, 0, 2), UNKNOWN);
            no("covered: UNKNOWN ahead of OUTSIDE, " + s, r -> r.covered(s, 32, 0), UNKNOWN);
            no("hit: UNKNOWN ahead of OUTSIDE, " + s, r -> r.hit(s, -4097, 0), UNKNOWN);
            no("bounds: UNKNOWN ahead of OUTSIDE, " + s, r -> r.bounds(s, 5), UNKNOWN);
            no("colour: UNKNOWN is 0, " + s, r -> r.colour(s, 0, 0), 0);
        }
        for (int w : new int[] {-1, 12, 13, 18, 19, 35, 36, MIN, MAX}) no("look: OUTSIDE, " + w, r -> r.look(0, w), OUTSIDE);
        for (int i : new int[] {-1, 2, MIN, MAX}) no("at: UNKNOWN ahead of OUTSIDE, POINT " + i, r -> r.at(0, i, 2), UNKNOWN);
        for (int axis : new int[] {-1, 2, MIN, MAX}) no("at: OUTSIDE, axis " + axis, r -> r.at(0, 1, axis), OUTSIDE);
        no("at: UNKNOWN, a GROUP has no POINT", r -> r.at(4, 0, 0), UNKNOWN);
        for (int v : new int[] {-1, 32, MIN, MAX}) {
            no("covered: OUTSIDE, x " + v, r -> r.covered(0, v, 0), OUTSIDE);
            no("covered: OUTSIDE, y " + v, r -> r.covered(0, 0, v), OUTSIDE);
            no("colour: OUTSIDE is 0, x " + v, r -> r.colour(2, v, 0), 0);
            no("colour: OUTSIDE is 0, y " + v, r -> r.colour(2, 0, v), 0);
        }
        for (int v : new int[] {-4097, 12288, MIN, MAX}) {
            no("hit: OUTSIDE, a " + v, r -> r.hit(0, v, 0), OUTSIDE);
            no("hit: OUTSIDE, b " + v, r -> r.hit(0, 0, v), OUTSIDE);
        }
        for (int w : new int[] {-1, 5, MIN, MAX}) no("bounds: OUTSIDE, " + w, r -> r.bounds(0, w), OUTSIDE);
        RasterHouse r = furnished();
        for (int s = 0; s < 8; s++) r.style(s, 0, 77);
        Check.due("colour: of a BOX it is told", r.colour(0, 31, 31), 77);
        Check.due("colour: of a GROUP it is 0", r.colour(4, 0, 0), 0);
        Check.due("colour: of a CLIP it is 0", r.colour(5, 0, 0), 0);
        Check.due("colour: x outside is 0", r.colour(0, 32, 0), 0);
        Check.due("colour: x outside is 0", r.colour(0, -1, 0), 0);
        Check.due("colour: y outside is 0", r.colour(0, 0, 32), 0);
        Check.due("colour: y outside is 0", r.colour(0, 0, -1), 0);
    }

    /** "FULL: 8" planes, "FULL: 40" shapes, and what goes ahead of it. */
    private static void ofFullHouses() {
        Edge.Make full = () -> {
            RasterHouse r = furnished();
            for (int i = 5; i < 8; i++) Check.due("a plane, as they come", r.plane(i, 1, 1), i);
            for (int i = 8; i < 40; i++) Check.due("a shape, as they come", r.shape(i % 10), i);
            r.dot(0, 0, 0);
            return r;
        };
        Edge.refused("plane: FULL, 8", full, r -> r.plane(0, 1, 1), FULL);
        Edge.refused("plane: OUTSIDE ahead of FULL", full, r -> r.plane(8, 1, 1), OUTSIDE);
        Edge.refused("shape: FULL, 40", full, r -> r.shape(0), FULL);
        Edge.refused("shape: OUTSIDE ahead of FULL", full, r -> r.shape(10), OUTSIDE);
        RasterHouse r = full.house();
        Check.due("the last plane is one", r.blank(7, 1), 1);
        Check.due("there is no plane 8", r.blank(8, 1), UNKNOWN);
        Check.due("the last shape is one", r.style(39, 0, 1), 1);
        Check.due("there is no shape 40", r.style(40, 0, 1), UNKNOWN);
    }

    /** A plane of 16 tiles and groups of 64 and 60 leaves: 15 jobs of 1024 and 1 of 640 units so far. */
    private static RasterHouse spent() {
        RasterHouse r = new RasterHouse();
        r.plane(1, 32, 32);
        r.plane(1, 1, 1);
        r.plane(2, 32, 32);
        r.plane(1, 8, 8);
        int leaf = r.shape(0);
        int eight = Edge.nest(r, 8, leaf, leaf, leaf, leaf, leaf, leaf, leaf, leaf);
        int all = Edge.nest(r, 8, eight, eight, eight, eight, eight, eight, eight, eight);
        r.style(all, 0, 1);
        Edge.nest(r, 8, eight, eight, eight, eight, eight);
        for (int i = 0; i < 15; i++) Check.due("1024 units", r.paint(0, NONE, all, i % 2), 1024);
        r.tile(3, 0, 0, 4, 64);
        return r;
    }

    /** "FULL: UNITS of all JOBS as begun, and 16 for each copy() (not refused, not CAST), would be more than 16000." */
    private static void ofSpentUnits() {
        Edge.Make near = () -> {
            RasterHouse r = spent();
            Check.due("halted, it counts as begun", r.begin(0, NONE, 3, 0), 640);
            r.go(1);
            r.halt();
            r.dot(3, 0, 0);
            return r;
        };
        Check.due("16000 are not more than 16000", near.house().told(4), 16000);
        Edge.refused("begin: FULL, one more", near, r -> r.begin(1, NONE, 0, 0), FULL);
        Edge.refused("paint: FULL, one more", near, r -> r.paint(1, NONE, 0, 1), FULL);
        Edge.refused("begin: STATE ahead of FULL", near, r -> r.begin(1, 1, 0, 0), STATE);
        Edge.refused("begin: OUTSIDE ahead of FULL", near, r -> r.begin(1, NONE, 0, 2), OUTSIDE);
        Edge.refused("copy: FULL, 16 more", near, r -> r.copy(1, 0, 0, 1, 1, 1, 0, 0), FULL);
        Edge.refused("copy: FULL ahead of CAST", near, r -> r.copy(0, 0, 0, 1, 1, 2, 0, 0), FULL);
        Edge.refused("copy: FULL ahead of STORE", near, r -> r.copy(3, 0, 0, 1, 1, 3, 1, 1), FULL);
        Edge.refused("copy: OUTSIDE ahead of FULL", near, r -> r.copy(1, 0, 0, 2, 1, 1, 0, 0), OUTSIDE);
        RasterHouse r = near.house();
        Check.due("no units are none too many", r.begin(0, NONE, r.shape(8), 0), 0);
        nearlySpent();
    }

    /** At 15984 and 15985 units a copy is the last one, or one too many. */
    private static void nearlySpent() {
        RasterHouse r = spent();
        for (int i = 0; i < 4; i++) r.paint(0, NONE, 1, 0);
        for (int i = 0; i < 7; i++) r.paint(0, NONE, 0, 0);
        Check.due("so many", r.told(4), 15984);
        Check.due("a refused copy counts for none", r.copy(0, 0, 0, 33, 1, 0, 0, 0), OUTSIDE);
        Check.due("a CAST counts for none", r.copy(0, 0, 0, 1, 1, 2, 0, 0), Edge.CAST);
        Check.due("so many yet", r.told(4), 15984);
        Check.due("17 are too many", r.paint(0, NONE, Edge.nest(r, 8, 0, 0), 0), FULL);
        r.undo();
        Check.due("undo gives none back", r.told(4), 15984);
        Check.due("a copy that stops counts", r.copy(3, 0, 0, 1, 1, 3, 1, 1), Edge.STORE);
        Check.due("all are spent", r.told(4), 16000);
        RasterHouse q = spent();
        for (int i = 0; i < 4; i++) q.paint(0, NONE, 1, 0);
        for (int i = 0; i < 7; i++) q.paint(0, NONE, 0, 0);
        q.paint(1, NONE, 0, 0);
        Check.due("so many", q.told(4), 15985);
        Check.due("16 would be one too many", q.copy(0, 0, 0, 1, 1, 0, 1, 1), FULL);
        Check.due("15 are not", q.paint(1, NONE, Edge.nest(q, 8, 1, 0, 0, 0, 0, 0, 0, 0), 0), 15);
        Check.due("all are spent", q.told(4), 16000);
    }

    /** "While a JOB is under way all calls under "changes" are refused, STATE, ahead of all others." */
    private static void whileAJobIsUnderWay() {
        String[] names = {"plane", "blank", "put", "spoil", "tile", "wipe", "shape", "point", "move", "join", "style", "stop",
            "glyph", "say", "begin", "paint", "copy", "grade", "mask", "undo", "redo"};
        Edge.Call[] right = {r -> r.plane(0, 1, 1), r -> r.blank(0, 1), r -> r.put(4, 0, 0, 1), r -> r.spoil(1, 0, 0),
            r -> r.tile(0, 0, 0, 0, 0), r -> r.wipe(0, 0, 0), r -> r.shape(0), r -> r.point(2, 5, 5), r -> r.move(0, 1, 1),
            r -> r.join(6, 0), r -> r.style(0, 0, 1), r -> r.stop(0, 1, 1), r -> r.glyph(0, 1, 1), r -> r.say(1, 1),
            r -> r.begin(4, NONE, 0, 0), r -> r.paint(4, NONE, 0, 0), r -> r.copy(4, 0, 0, 1, 1, 4, 1, 1),
            r -> r.grade(1, 7), r -> r.mask(4, 2, 1), RasterHouse::undo, RasterHouse::redo};
        Edge.Call[] wrong = {r -> r.plane(8, 0, 0), r -> r.blank(9, 1), r -> r.put(0, 0, 0, 1), r -> r.spoil(0, 0, 0),
            r -> r.tile(0, 0, 0, 0, -1), r -> r.wipe(9, 0, 0), r -> r.shape(10), r -> r.point(9, 5, 5), r -> r.move(0, MAX, 1),
            r -> r.join(0, 0), r -> r.style(0, 15, 1), r -> r.stop(0, -1, 1), r -> r.glyph(16, 1, 1), r -> r.say(0, 1),
            r -> r.begin(9, NONE, 0, 0), r -> r.paint(4, NONE, 0, 5), r -> r.copy(4, 0, 0, 1, 1, 3, 1, 1),
            r -> r.grade(0, 7), r -> r.mask(4, 3, 1), RasterHouse::undo, RasterHouse::redo};
        for (int i = 0; i < names.length; i++) {
            Edge.refused(names[i] + ": STATE during a JOB", RefusalsTest::busy, right[i], STATE);
            Edge.refused(names[i] + ": STATE ahead of all others", RefusalsTest::busy, wrong[i], STATE);
        }
        RasterHouse r = busy();
        Check.due("what is told is not refused", r.size(0, 0), 1);
        Check.due("told(5)", r.told(5), 1);
        Check.due("go() is not among these", r.go(0), 0);
        Check.due("halt() is not among these", r.halt(), 1);
        Check.due("told(5)", r.told(5), 0);
        Check.due("changes are taken again", r.put(4, 0, 0, 1), 1);
    }
}
