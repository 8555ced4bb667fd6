/** Promises 1 to 7, 26 to 30, 38 to 40: planes, their tiles and what is told of them. */
public final class PlanesTest {
    private static final int UNKNOWN = -1, OUTSIDE = -2, STATE = -3, FULL = -4, NONE = -9;
    private static final int CAST = -12, INDEX = -13, SIZE = -15;

    public static void main(String[] args) {
        newObject();
        planes();
        wordsOfEachKind();
        blanks();
        holes();
        spoiled();
        tiles();
        compared();
        digests();
        findings();
        Check.end();
    }

    private static void newObject() {
        RasterHouse r = new RasterHouse();
        for (int what = 0; what <= 5; what++) Check.due("told of a new object " + what, r.told(what), 0);
        for (int what = 0; what <= 5; what++) Check.due("done of a new object " + what, r.done(what), 0);
        Check.due("copied of a new object", r.copied(), 0);
        Check.due("finding of a new object", r.finding(), 0);
        Check.due("a new text", r.shape(6), 0);
        r.point(0, 0, 0);
        r.say(0, 5);
        Check.due("glyphs are of 0s", r.covered(0, 0, 0), 0);
        r.say(0, 5);
        Check.due("glyphs advance by 8", r.bounds(0, 2), 64 * 16);
    }

    private static void planes() {
        RasterHouse r = new RasterHouse();
        int[][] outside = {{-1, 1, 1}, {8, 1, 1}, {0, 0, 1}, {0, 33, 1}, {0, 1, 0}, {0, 1, 33}, {0, -5, 1}};
        for (int[] o : outside) Check.due("plane outside", r.plane(o[0], o[1], o[2]), OUTSIDE);
        for (int i = 0; i < 8; i++) Check.due("plane " + i, r.plane(i, 32 - i, 1 + i), i);
        Check.due("a ninth plane", r.plane(0, 1, 1), FULL);
        Check.due("outside ahead of full", r.plane(8, 1, 1), OUTSIDE);
        Check.due("told(0)", r.told(0), 8);
        Check.due("kind", r.size(5, 0), 5);
        Check.due("width", r.size(5, 1), 27);
        Check.due("height", r.size(5, 2), 6);
        Check.due("tiles not nothing", r.size(5, 3), 0);
        Check.due("size what", r.size(5, 4), OUTSIDE);
        Check.due("size what", r.size(5, -1), OUTSIDE);
        Check.due("size of none", r.size(8, 0), UNKNOWN);
        Check.due("size of none, of nothing", r.size(-1, 9), UNKNOWN);
    }

    private static void wordsOfEachKind() {
        RasterHouse r = new RasterHouse();
        for (int kind = 0; kind < 8; kind++) r.plane(kind, 9, 9);
        long[] words = {0, 1, -1, 255, 256, 32768, 65536, 1L << 31, Long.MAX_VALUE, 13};
        long[][] due = {
            {0, 1, 1, 1, 1, 1, 1, 1, 1, 1},
            {0, 1, 255, 255, 0, 0, 0, 0, 255, 13},
            {0, 1, -1, 255, 256, -32768, 0, 0, -1, 13},
            {0, 1, 65535, 255, 256, 32768, 0, 0, 65535, 13},
            {0, 1, -1, 255, 256, 32768, 65536, -2147483648, -1, 13},
            words, words, words};
        for (int kind = 0; kind < 8; kind++) {
            for (int i = 0; i < words.length; i++) {
                Check.due("put", r.put(kind, 8, 8, words[i]), 1);
                Check.due("dot of kind " + kind + " put as " + words[i], r.dot(kind, 8, 8), due[kind][i]);
            }
            Check.due("only its tile became a row", r.size(kind, 3), 1);
            Check.due("of the plane's kind", r.row(kind, 1, 1, 0), kind);
            Check.due("of 64 cells", r.row(kind, 1, 1, 1), 64);
        }
        double[] glow = {1, 13, 13, 13, 13, 13, 1.625, 1.625};
        for (int kind = 0; kind < 8; kind++) Check.number("glow", r.glow(kind, 8, 8), glow[kind]);
        r.put(1, 0, 0, -1);
        Check.number("a grey without sign", r.glow(1, 0, 0), 255);
        r.put(4, 0, 0, -7);
        Check.number("a colour with sign", r.glow(4, 0, 0), -7);
        r.put(6, 0, 0, 16777217 * 8L);
        Check.number("a glow is a float", r.glow(6, 0, 0), 16777216);
        r.put(7, 0, 0, 16777217 * 8L);
        Check.number("a light is a double", r.glow(7, 0, 0), 16777217);
        Check.due("put at no dot", r.put(0, 9, 0, 1), UNKNOWN);
        Check.due("put at no dot", r.put(0, 0, -1, 1), UNKNOWN);
        Check.due("put into no plane", r.put(8, 0, 0, 1), UNKNOWN);
        Check.due("dot of no plane", r.dot(8, 0, 0), 0);
        Check.number("glow of no dot", r.glow(7, 9, 9), 0);
        Check.due("sort of no dot", r.sort(7, 9, 9), UNKNOWN);
    }

    private static void blanks() {
        RasterHouse r = new RasterHouse();
        r.plane(1, 9, 9);
        Check.due("blank", r.blank(0, 300), 1);
        Check.due("nothing tells the blank", r.dot(0, 0, 0), 44);
        r.put(0, 0, 0, 1);
        r.blank(0, 7);
        Check.due("a row keeps the blank it was made of", r.dot(0, 1, 0), 44);
        Check.due("nothing tells the blank as it is", r.dot(0, 8, 0), 7);
        Check.due("blank is no act", r.told(2), 1);
        Check.due("blank of no plane", r.blank(1, 0), UNKNOWN);
        r.undo();
        Check.due("blanks stay", r.dot(0, 0, 0), 7);
    }

    private static void holes() {
        RasterHouse r = new RasterHouse();
        r.plane(3, 10, 10);
        r.tile(0, 0, 0, 2, 3);
        Check.due("another kind and too short is of another kind", r.put(0, 7, 7, 1), CAST);
        Check.due("sort", r.sort(0, 0, 0), CAST);
        r.tile(0, 0, 0, 3, 9);
        Check.due("the last cell", r.put(0, 0, 1, 1), 1);
        Check.due("behind it", r.put(0, 1, 1, 1), INDEX);
        Check.due("sort behind it", r.sort(0, 1, 1), INDEX);
        Check.due("dot behind it", r.dot(0, 1, 1), 0);
        Check.due("finding", r.finding(), 3);
        Check.number("glow behind it", r.glow(0, 1, 1), 0);
        r.tile(0, 0, 0, 3, 0);
        Check.due("no cell at all", r.put(0, 0, 0, 1), INDEX);
        Check.due("faults are no acts", r.told(2), 4);
    }

    private static void spoiled() {
        RasterHouse r = new RasterHouse();
        r.plane(6, 9, 9);
        r.plane(7, 9, 9);
        r.plane(5, 9, 9);
        for (int p = 0; p < 2; p++) {
            Check.due("spoil", r.spoil(p, 2, 2), 1);
            Check.due("no number", r.sort(p, 2, 2), 3);
            Check.due("its word", r.dot(p, 2, 2), 0);
            Check.number("its glow", r.glow(p, 2, 2), 0);
            Check.due("beside it", r.sort(p, 3, 2), 0);
            r.put(p, 2, 2, 4);
            Check.due("a number again", r.sort(p, 2, 2), 0);
        }
        Check.due("spoil of a sum", r.spoil(2, 0, 0), CAST);
        Check.due("spoil of no dot", r.spoil(0, 9, 0), UNKNOWN);
        Check.due("spoil of no dot ahead of its kind", r.spoil(2, 9, 0), UNKNOWN);
        r.tile(0, 0, 0, 7, 64);
        Check.due("spoil of a hole", r.spoil(0, 0, 0), CAST);
        r.tile(0, 0, 0, 6, 1);
        Check.due("spoil of a hole", r.spoil(0, 1, 0), INDEX);
        r.put(0, 8, 8, Long.MAX_VALUE);
        for (int i = 0; i < 68; i++) r.grade(0, 7);
        Check.due("above all numbers", r.sort(0, 8, 8), 1);
        Check.due("its word", r.dot(0, 8, 8), Long.MAX_VALUE);
        r.grade(0, 5);
        Check.due("below all numbers", r.sort(0, 8, 8), 2);
        Check.number("its glow", r.glow(0, 8, 8), Double.NEGATIVE_INFINITY);
        Check.due("its word", r.dot(0, 8, 8), Long.MIN_VALUE);
    }

    private static void tiles() {
        RasterHouse r = new RasterHouse();
        r.plane(4, 17, 8);
        Check.due("nothing", r.row(0, 0, 0, 0), NONE);
        Check.due("row of nothing, what", r.row(0, 0, 0, 2), OUTSIDE);
        Check.due("tile", r.tile(0, 2, 0, 4, 64), 64);
        Check.due("no such tile", r.tile(0, 3, 0, 4, 64), UNKNOWN);
        Check.due("no such tile", r.tile(0, 0, 1, 4, 64), UNKNOWN);
        Check.due("no such tile", r.tile(0, -1, 0, 4, 64), UNKNOWN);
        Check.due("no such kind", r.tile(0, 0, 0, 8, 1), OUTSIDE);
        Check.due("no such kind ahead of size", r.tile(0, 0, 0, -1, -1), OUTSIDE);
        Check.due("too many", r.tile(0, 0, 0, 4, 65), OUTSIDE);
        Check.due("below 0", r.tile(0, 0, 0, 4, -1), SIZE);
        Check.due("finding", r.finding(), 5);
        Check.due("none", r.tile(0, 0, 0, 7, 0), 0);
        Check.due("finding", r.finding(), 0);
        Check.due("its kind", r.row(0, 0, 0, 0), 7);
        Check.due("its cells", r.row(0, 0, 0, 1), 0);
        Check.due("two rows", r.size(0, 3), 2);
        r.put(0, 16, 0, 5);
        r.blank(0, 3);
        r.tile(0, 2, 0, 4, 64);
        Check.due("all 0", r.dot(0, 16, 0), 0);
        Check.due("wipe", r.wipe(0, 2, 0), 1);
        Check.due("wiped", r.dot(0, 16, 0), 3);
        Check.due("wipe of nothing", r.wipe(0, 2, 0), 0);
        Check.due("is an act", r.told(2), 6);
        Check.due("wipe of none", r.wipe(0, 3, 0), UNKNOWN);
        Check.due("row of none", r.row(0, 0, 1, 0), UNKNOWN);
        Check.due("row of none", r.row(1, 0, 0, 0), UNKNOWN);
    }

    private static void compared() {
        RasterHouse r = new RasterHouse();
        r.plane(1, 10, 3);
        r.plane(4, 10, 3);
        r.plane(4, 3, 10);
        Check.due("alike", r.compare(0, 1, 0), 0);
        Check.due("alike", r.compare(0, 1, 1), NONE);
        r.put(0, 9, 1, 200);
        r.put(1, 9, 1, 200);
        r.put(1, 3, 1, 5);
        r.put(1, 0, 2, 5);
        Check.due("two unlike", r.compare(0, 1, 0), 2);
        Check.due("the first", r.compare(1, 0, 1), 35);
        r.tile(0, 1, 0, 1, 2);
        Check.due("holes are unlike words", r.compare(0, 1, 0), 2 + 4);
        r.tile(1, 1, 0, 4, 2);
        Check.due("holes of the same fault", r.compare(0, 1, 0), 2);
        r.tile(1, 1, 0, 1, 64);
        Check.due("holes of unlike faults", r.compare(0, 1, 0), 2 + 6);
        Check.due("another size", r.compare(0, 2, 0), STATE);
        Check.due("another size ahead of what", r.compare(0, 2, 9), STATE);
        Check.due("what", r.compare(0, 1, 2), OUTSIDE);
        Check.due("no plane", r.compare(0, 3, 0), UNKNOWN);
        Check.due("no plane", r.compare(-1, 0, 0), UNKNOWN);
    }

    private static void digests() {
        RasterHouse r = new RasterHouse();
        r.plane(5, 2, 1);
        r.put(0, 0, 0, 3);
        r.put(0, 1, 0, -2);
        Check.due("digest", r.digest(0), (7 * 31 + 3) * 31 - 2);
        r.tile(0, 0, 0, 5, 1);
        Check.due("with a hole, too short", r.digest(0), (7 * 31) * 31 - 4);
        r.tile(0, 0, 0, 4, 1);
        Check.due("with holes of another kind", r.digest(0), (7 * 31 - 3) * 31 - 3);
        Check.due("digest of none", r.digest(1), 0);
    }

    private static void findings() {
        RasterHouse r = new RasterHouse();
        r.plane(1, 8, 8);
        r.plane(4, 8, 8);
        r.tile(0, 0, 0, 4, 64);
        r.dot(0, 0, 0);
        Check.due("dot", r.finding(), 2);
        r.glow(0, 0, 0);
        r.digest(0);
        r.compare(0, 1, 0);
        r.size(0, 0);
        r.row(0, 0, 0, 0);
        r.shape(0);
        r.point(0, 0, 0);
        r.point(0, 999, 999);
        r.blank(1, 4);
        r.paint(0, -9, 0, 0);
        r.wipe(1, 0, 0);
        r.undo();
        r.redo();
        Check.due("calls that name no fault leave it", r.finding(), 2);
        r.dot(0, 8, 0);
        Check.due("a refusal of one that names faults", r.finding(), 0);
        r.sort(0, 0, 0);
        r.put(1, 0, 0, 1);
        Check.due("one that came to none", r.finding(), 0);
        r.sort(0, 0, 0);
        r.begin(1, -9, 0, 0);
        r.put(1, 0, 0, 1);
        Check.due("refused for a job", r.finding(), 0);
    }
}
