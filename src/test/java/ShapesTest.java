/** Promises 8 to 15 and 31 to 36: shapes, what they cover, their bounds and colours. */
public final class ShapesTest {
    private static final int UNKNOWN = -1, OUTSIDE = -2, STATE = -3, FULL = -4, NONE = -9;

    public static void main(String[] args) {
        shapesAndPoints();
        moves();
        joins();
        limitsOfNests();
        styles();
        stopsAndLetters();
        rings();
        curves();
        ovals();
        strokes();
        texts();
        nests();
        weights();
        grains();
        pictures();
        Check.end();
    }

    /** A shape with points x, y in turn. */
    private static int make(RasterHouse r, int sort, int... at) {
        int s = r.shape(sort);
        for (int i = 0; i + 1 < at.length; i += 2) r.point(s, at[i], at[i + 1]);
        return s;
    }

    private static void box(String what, RasterHouse r, int s, int x0, int y0, int x1, int y1) {
        int[] due = {x0, y0, x1, y1, 0};
        for (int i = 0; i < 5; i++) Check.due(what + ", bounds " + i, r.bounds(s, i), due[i]);
    }

    private static void empty(String what, RasterHouse r, int s) {
        for (int i = 0; i < 5; i++) Check.due(what + ", bounds " + i, r.bounds(s, i), i == 4 ? 1 : 0);
    }

    private static void shapesAndPoints() {
        RasterHouse r = new RasterHouse();
        Check.due("no such sort", r.shape(10), OUTSIDE);
        Check.due("no such sort", r.shape(-1), OUTSIDE);
        int[] most = {2, 3, 12, 12, 9, 2, 1, 2};
        for (int s = 0; s < 8; s++) {
            Check.due("shape", r.shape(s), s);
            for (int i = 1; i <= most[s]; i++) Check.due("point", r.point(s, -4096, 12287), i);
            Check.due("a point too many", r.point(s, 0, 0), FULL);
            Check.due("outside ahead of full", r.point(s, -4097, 0), OUTSIDE);
            Check.due("outside", r.point(s, 0, 12288), OUTSIDE);
            Check.due("x", r.at(s, most[s] - 1, 0), -4096);
            Check.due("y", r.at(s, most[s] - 1, 1), 12287);
            Check.due("no such axis", r.at(s, 0, 2), OUTSIDE);
            Check.due("no such point", r.at(s, most[s], 2), UNKNOWN);
            Check.due("no such point", r.at(s, -1, 0), UNKNOWN);
            Check.due("sort", r.look(s, 0), s);
            Check.due("points", r.look(s, 1), most[s]);
        }
        Check.due("group", r.shape(8), 8);
        Check.due("point of a group", r.point(8, 0, 0), OUTSIDE);
        Check.due("point of none", r.point(9, 0, 0), UNKNOWN);
        Check.due("at of none", r.at(9, 0, 0), UNKNOWN);
        for (int s = 9; s < 40; s++) r.shape(9);
        Check.due("point of a clip", r.point(9, 0, 0), OUTSIDE);
        Check.due("a shape too many", r.shape(0), FULL);
        Check.due("told(1)", r.told(1), 40);
    }

    private static void moves() {
        RasterHouse r = new RasterHouse();
        make(r, 0, -4096, 0, 100, 12280);
        Check.due("too far", r.move(0, -1, 0), OUTSIDE);
        Check.due("too far", r.move(0, 0, 8), OUTSIDE);
        Check.due("far too far", r.move(0, 2147483647, 2147483647), OUTSIDE);
        Check.due("far too far", r.move(0, -2147483648, 0), OUTSIDE);
        Check.due("nothing moved", r.at(0, 1, 1), 12280);
        Check.due("move", r.move(0, 5, 7), 1);
        Check.due("x", r.at(0, 0, 0), -4091);
        Check.due("y", r.at(0, 1, 1), 12287);
        make(r, 8);
        Check.due("a group", r.move(1, 4096, -4096), 1);
        Check.due("offset", r.look(1, 8), 4096);
        Check.due("offset", r.look(1, 9), -4096);
        Check.due("too far", r.move(1, 1, 0), OUTSIDE);
        Check.due("too far", r.move(1, 0, -1), OUTSIDE);
        Check.due("far too far", r.move(1, -2147483648, 2147483647), OUTSIDE);
        Check.due("no shape", r.move(2, 0, 0), UNKNOWN);
        make(r, 2);
        Check.due("no points", r.move(2, 99999, 99999), 1);
    }

    private static void joins() {
        RasterHouse r = new RasterHouse();
        make(r, 0, 0, 0, 256, 256);
        make(r, 8);
        make(r, 9);
        make(r, 8);
        Check.due("no shape", r.join(4, 0), UNKNOWN);
        Check.due("no part", r.join(1, 4), UNKNOWN);
        Check.due("neither group nor clip", r.join(0, 0), OUTSIDE);
        Check.due("not lesser", r.join(1, 1), OUTSIDE);
        Check.due("not lesser", r.join(1, 2), OUTSIDE);
        Check.due("a frame that is a group", r.join(2, 1), OUTSIDE);
        Check.due("a frame", r.join(2, 0), 1);
        Check.due("the other part", r.join(2, 1), 2);
        Check.due("a third", r.join(2, 0), FULL);
        Check.due("a third, a group", r.join(2, 1), FULL);
        Check.due("a part of another", r.join(1, 0), STATE);
        Check.due("outside ahead of state", r.join(1, 3), OUTSIDE);
        Check.due("parts", r.look(2, 2), 2);
        Check.due("leaves of an empty group", r.look(2, 5), 0);
        Check.due("within", r.look(2, 6), 2);
        Check.due("deep", r.look(2, 7), 2);
        Check.due("deep of a box", r.look(0, 7), 0);
        Check.due("leaves of a box", r.look(0, 5), 1);
        for (int i = 1; i <= 8; i++) Check.due("join", r.join(3, i % 2 == 0 ? 0 : 2), i);
        Check.due("a ninth", r.join(3, 0), FULL);
        Check.due("within", r.look(3, 6), 8 + 4 * 2);
        Check.due("leaves", r.look(3, 5), 4);
        Check.due("deep", r.look(3, 7), 3);
    }

    private static void limitsOfNests() {
        RasterHouse r = new RasterHouse();
        make(r, 5, 0, 0, 256, 256);
        for (int i = 1; i <= 7; i++) make(r, 8);
        for (int i = 1; i <= 6; i++) Check.due("six deep", r.join(i, i - 1), 1);
        Check.due("deep", r.look(6, 7), 6);
        Check.due("a leaf six deep", r.hit(6, 128, 128), 0);
        Check.due("seven deep", r.join(7, 6), FULL);
        Check.due("a group that is refused is no part", r.join(6, 0), 2);
        make(r, 8);
        for (int i = 0; i < 8; i++) r.join(8, 0);
        make(r, 8);
        for (int i = 0; i < 8; i++) r.join(9, 8);
        make(r, 8);
        for (int i = 0; i < 3; i++) r.join(10, 8);
        Check.due("within", r.look(10, 6), 27);
        make(r, 8);
        Check.due("72 and 1", r.join(11, 9), 1);
        Check.due("27 and 1 are too many", r.join(11, 10), FULL);
        for (int i = 2; i <= 4; i++) Check.due("100 in all", r.join(11, 8), i);
        Check.due("within", r.look(11, 6), 100);
        Check.due("one too many", r.join(11, 0), FULL);
        Check.due("all leaves are painted", r.hit(11, 128, 128), 0);

        RasterHouse q = new RasterHouse();
        make(q, 0, 0, 0, 256, 256);
        for (int i = 1; i <= 5; i++) {
            make(q, 9);
            q.join(i, 0);
            Check.due("frames of a leaf", q.join(i, i - 1), i <= 4 ? 2 : FULL);
        }
        make(q, 8);
        Check.due("a group around four frames", q.join(6, 4), 1);
    }

    private static void styles() {
        RasterHouse r = new RasterHouse();
        r.plane(1, 1, 1);
        r.shape(0);
        int[] first = {0, 0, 0, 0, 0, 128, 0, 0, 0, 4, 0, 8, 64, NONE, 0};
        int[] least = {-2147483648, -32768, 0, 0, 0, 1, 0, 0, 0, 1, 0, -8000, 16, NONE, 0};
        int[] most = {2147483647, 32767, 65535, 11, 2, 1024, 2, 1, 1, 8, 2, 8000, 512, 0, 1};
        for (int w = 0; w < 15; w++) {
            Check.due("style at first " + w, r.look(0, 20 + w), first[w]);
            Check.due("least", r.style(0, w, least[w]), 1);
            Check.due("least", r.look(0, 20 + w), least[w]);
            Check.due("most", r.style(0, w, most[w]), 1);
            if (w > 0) Check.due("less", r.style(0, w, least[w] - 1), OUTSIDE);
            if (w > 0) Check.due("more", r.style(0, w, most[w] + 1), OUTSIDE);
            Check.due("most", r.look(0, 20 + w), most[w]);
        }
        Check.due("no plane", r.style(0, 13, -1), OUTSIDE);
        Check.due("no plane", r.style(0, 13, 7), OUTSIDE);
        Check.due("no style", r.style(0, 15, 0), OUTSIDE);
        Check.due("no style", r.style(0, -1, 0), OUTSIDE);
        Check.due("no shape", r.style(1, 15, 0), UNKNOWN);
        for (int w : new int[] {-1, 12, 19, 35}) Check.due("look " + w, r.look(0, w), OUTSIDE);
        Check.due("look of none", r.look(1, 0), UNKNOWN);
    }

    private static void stopsAndLetters() {
        RasterHouse r = new RasterHouse();
        r.shape(0);
        r.shape(6);
        Check.due("a place too low", r.stop(0, -1, 0), OUTSIDE);
        Check.due("a place too high", r.stop(0, 257, 0), OUTSIDE);
        Check.due("stop", r.stop(0, 0, 1), 1);
        Check.due("not above the one before", r.stop(0, 0, 1), OUTSIDE);
        Check.due("stop", r.stop(0, 1, 1), 2);
        Check.due("stop", r.stop(0, 2, 1), 3);
        Check.due("stop", r.stop(0, 255, 1), 4);
        Check.due("a fifth", r.stop(0, 256, 1), FULL);
        Check.due("outside ahead of full", r.stop(0, 255, 1), OUTSIDE);
        Check.due("stops", r.look(0, 4), 4);
        Check.due("stop of none", r.stop(2, 0, 0), UNKNOWN);
        Check.due("no text", r.say(0, 0), OUTSIDE);
        Check.due("no glyph", r.say(0, 16), UNKNOWN);
        Check.due("no glyph", r.say(1, -1), UNKNOWN);
        Check.due("no shape", r.say(2, 0), UNKNOWN);
        for (int i = 1; i <= 8; i++) Check.due("say", r.say(1, 15), i);
        Check.due("a ninth", r.say(1, 0), FULL);
        Check.due("letters", r.look(1, 3), 8);
        Check.due("glyph", r.glyph(0, 1, 1), 1);
        Check.due("glyph", r.glyph(15, 1, 16), 1);
        Check.due("no glyph", r.glyph(16, 1, 0), UNKNOWN);
        Check.due("no glyph", r.glyph(-1, 1, 1), UNKNOWN);
        Check.due("advance", r.glyph(0, 1, 0), OUTSIDE);
        Check.due("advance", r.glyph(0, 1, 17), OUTSIDE);
    }

    private static void rings() {
        RasterHouse r = new RasterHouse();
        make(r, 0, 300, 500, 100, 200);
        box("box", r, 0, 100, 200, 300, 500);
        Check.due("its first corner is in", r.hit(0, 100, 200), 0);
        Check.due("its last corner is out", r.hit(0, 300, 499), NONE);
        Check.due("below it", r.hit(0, 299, 500), NONE);
        Check.due("its inmost", r.hit(0, 299, 499), 0);
        make(r, 1, 0, 0, 1000, 0, 0, 1000);
        Check.due("wedge, on its edge", r.hit(1, 0, 0), 1);
        Check.due("wedge, on its slope", r.hit(1, 500, 500), NONE);
        Check.due("wedge, ahead of it", r.hit(1, 499, 500), 1);
        make(r, 2, 0, 0, 900, 0, 900, 900, 0, 900, 0, 0, 600, 0, 600, 600, 0, 600);
        box("ring", r, 2, 0, 0, 900, 900);
        Check.due("twice around by rule 0", r.hit(2, 300, 300), NONE);
        Check.due("once around by rule 0", r.hit(2, 700, 700), 2);
        r.style(2, 8, 1);
        Check.due("twice around by rule 1", r.hit(2, 300, 300), 2);
        Check.due("once around by rule 1", r.hit(2, 700, 700), 2);
        make(r, 2, 0, 0, 900, 0);
        empty("ring of two points", r, 3);
        Check.due("covers none", r.covered(3, 0, 0), 0);
        make(r, 0, 5, 5, 5, 900);
        empty("a box without width", r, 4);
        r.move(4, 2, 2);
        empty("a box without width", r, 4);
        make(r, 0, 8, 8, 9, 9);
        Check.due("the first sample alone", r.covered(5, 0, 0), 1);
        make(r, 0, 0, 0, 24, 256);
        Check.due("two samples: 8 and 24 is out", r.covered(6, 0, 0), 1);
        make(r, 0, 0, 0, 25, 256);
        Check.due("samples at 8 and 24", r.covered(7, 0, 0), 2);
        make(r, 0, 0, 0, 256, 25);
        Check.due("samples at y 8 and 24 (k = 0, 13)", r.covered(8, 0, 0), 2);
        Check.due("a seat", r.covered(8, 31, 31), 0);
        empty("a box without height", r, make(r, 0, 5, 5, 900, 5));
        Check.due("no seat", r.covered(8, 32, 0), OUTSIDE);
        Check.due("no seat", r.covered(8, 0, -1), OUTSIDE);
        Check.due("covered of none", r.covered(10, 0, 0), UNKNOWN);
        Check.due("hit of none", r.hit(10, 0, 0), UNKNOWN);
        Check.due("hit outside", r.hit(8, -4097, 0), OUTSIDE);
        Check.due("hit outside", r.hit(8, 0, 12288), OUTSIDE);
        Check.due("hit far out", r.hit(8, -4096, 12287), NONE);
        Check.due("bounds of none", r.bounds(10, 0), UNKNOWN);
        Check.due("bounds what", r.bounds(8, 5), OUTSIDE);
        Check.due("bounds what", r.bounds(8, -1), OUTSIDE);
    }

    private static void curves() {
        RasterHouse r = new RasterHouse();
        make(r, 4, 0, 0, 1001, 0, 0, 1001, 77, 77);
        box("curve of four pieces, a point left over", r, 0, 0, 0, 500, 1001);
        r.style(0, 9, 1);
        empty("curve of one piece", r, 0);
        r.style(0, 9, 3);
        box("curve of three pieces", r, 0, 0, 0, 444, 1001);
        Check.due("within it", r.hit(0, 100, 400), 0);
        Check.due("beyond it", r.hit(0, 500, 400), NONE);
        r.point(0, -500, 400);
        box("two arcs", r, 0, -500, 0, 444, 1001);
        Check.due("the second arc's", r.hit(0, -100, 200), 0);
        int twice = make(r, 4, 0, 0, 900, 0, 900, 900, 0, 900, 0, 0, 900, 0, 900, 900, 0, 900, 0, 0);
        r.style(twice, 9, 2);
        Check.due("twice around by rule 0", r.hit(twice, 450, 450), NONE);
        r.style(twice, 8, 1);
        Check.due("twice around by rule 1", r.hit(twice, 450, 450), twice);
        make(r, 4, -3, -3, -3, -3, -3, -3);
        Check.due("all at one place", r.bounds(2, 4), 1);
        make(r, 4, 0, 0, 0, 0, -1, 100);
        r.style(3, 9, 2);
        box("floor of -1 / 4 is -1", r, 3, -1, 0, 0, 100);
        make(r, 4, 0, 0, 0, -3, 0, 0, 5, 0, 5, 0);
        r.style(4, 9, 2);
        Check.due("floor of -6 / 4", r.bounds(4, 1), -2);
    }

    private static void ovals() {
        RasterHouse r = new RasterHouse();
        make(r, 5, 0, 400, 200, 0);
        box("oval", r, 0, 0, 0, 200, 400);
        Check.due("its middle", r.hit(0, 100, 200), 0);
        Check.due("on its border", r.hit(0, 0, 200), NONE);
        Check.due("inside its border", r.hit(0, 1, 200), 0);
        Check.due("in a corner", r.hit(0, 10, 10), NONE);
        Check.due("(60, 0) and (80, 0) by 100", r.hit(0, 160, 200 + 160), NONE);
        Check.due("just inside", r.hit(0, 160, 200 + 159), 0);
    }

    private static void strokes() {
        RasterHouse r = new RasterHouse();
        make(r, 3, 1000, 1000, 2000, 1000, 2000, 2000);
        r.style(0, 5, 100);
        box("stroke", r, 0, 900, 900, 2101, 2101);
        Check.due("on its border", r.hit(0, 1500, 1100), 0);
        Check.due("beyond", r.hit(0, 1500, 1101), NONE);
        Check.due("at its end", r.hit(0, 1000, 1000), 0);
        Check.due("ahead of it", r.hit(0, 999, 1000), NONE);
        Check.due("the corner without joins", r.hit(0, 2060, 960), NONE);
        r.style(0, 7, 1);
        Check.due("the corner with round joins", r.hit(0, 2060, 920), 0);
        Check.due("beyond the corner", r.hit(0, 2061, 920), NONE);
        Check.due("joins are not ends", r.hit(0, 999, 1000), NONE);
        r.style(0, 7, 0);
        r.style(0, 6, 1);
        Check.due("a round end", r.hit(0, 940, 920), 0);
        Check.due("beyond", r.hit(0, 939, 920), NONE);
        Check.due("the other end", r.hit(0, 2000, 2100), 0);
        Check.due("ends are no joins", r.hit(0, 2060, 960), NONE);
        r.style(0, 6, 2);
        box("with square ends", r, 0, 800, 800, 2201, 2201);
        Check.due("a square end", r.hit(0, 900, 900), 0);
        Check.due("beyond", r.hit(0, 899, 950), NONE);
        Check.due("the other end", r.hit(0, 2100, 2100), 0);
        Check.due("beyond", r.hit(0, 2000, 2101), NONE);
        Check.due("not at a corner", r.hit(0, 2050, 950), NONE);
        make(r, 3, 0, 0);
        empty("of one point", r, 1);
        Check.due("covers none", r.hit(1, 0, 0), NONE);
        make(r, 3, 0, 0, 0, 0, 1000, 0);
        r.style(2, 6, 2);
        Check.due("a first leg without length has no end", r.hit(2, -1, 0), NONE);
        Check.due("nor covers it", r.hit(2, -100, 50), NONE);
        Check.due("the last leg's end", r.hit(2, 1100, 100), 2);
        Check.due("the last leg has no first end", r.hit(2, 0, 0), 2);
        r.style(2, 7, 1);
        Check.due("but a point between two legs", r.hit(2, -100, 0), 2);
    }

    private static void texts() {
        RasterHouse r = new RasterHouse();
        make(r, 6, 100, 200);
        empty("no letters", r, 0);
        r.glyph(0, 0x8000000000000001L, 3);
        r.glyph(1, 0x4000000000000000L, 16);
        r.say(0, 0);
        r.say(0, 1);
        r.style(0, 12, 16);
        box("text", r, 0, 100, 200, 100 + 16 * 11, 200 + 16 * 8);
        Check.due("the first bit", r.hit(0, 100, 200), 0);
        Check.due("its last point", r.hit(0, 115, 215), 0);
        Check.due("beside it", r.hit(0, 116, 215), NONE);
        Check.due("ahead of it", r.hit(0, 99, 200), NONE);
        Check.due("above it", r.hit(0, 100, 199), NONE);
        Check.due("the last bit", r.hit(0, 100 + 7 * 16, 200 + 7 * 16), 0);
        Check.due("the second letter's", r.hit(0, 100 + 4 * 16, 200), 0);
        Check.due("beside it", r.hit(0, 100 + 5 * 16, 200), NONE);
        r.glyph(0, 0, 8);
        Check.due("letters show their glyph as it is", r.hit(0, 100 + 9 * 16, 200), 0);
        make(r, 6);
        r.say(1, 0);
        empty("no point", r, 1);
        r.glyph(0, -1, 8);
        make(r, 0, -4000, -4000, 8000, 8000);
        make(r, 9);
        r.join(3, 0);
        r.join(3, 2);
        Check.due("a text as frame", r.hit(3, 100, 200), 2);
        Check.due("to its last line", r.hit(3, 100, 327), 2);
        Check.due("not beyond", r.hit(3, 100, 328), NONE);
        Check.due("not above", r.hit(3, 100, 199), NONE);
        Check.due("not ahead", r.hit(3, 99, 200), NONE);
    }

    private static void nests() {
        RasterHouse r = new RasterHouse();
        make(r, 0, 0, 0, 512, 512);
        make(r, 5, 0, 0, 1024, 1024);
        make(r, 2);
        make(r, 8);
        empty("a group of none", r, 3);
        r.join(3, 2);
        empty("a group of an empty part", r, 3);
        r.join(3, 1);
        r.join(3, 0);
        r.move(3, 100, 0);
        box("a group", r, 3, 100, 0, 1124, 1024);
        make(r, 9);
        empty("a clip of none", r, 4);
        r.join(4, 0);
        empty("a clip of a frame", r, 4);
        r.join(4, 3);
        box("a clip", r, 4, 100, 0, 512, 512);
        Check.due("the last leaf", r.hit(4, 300, 300), 0);
        Check.due("seen through the frame alone", r.hit(4, 512, 300), NONE);
        r.move(4, 0, 1000);
        box("a moved clip", r, 4, 100, 1000, 512, 1512);
        Check.due("the frame moves with its clip", r.hit(4, 300, 1300), 0);
        Check.due("the clip's own part moves too", r.hit(4, 99, 1300), NONE);
        make(r, 8);
        r.join(5, 4);
        r.move(5, 1000, 0);
        box("a group around it", r, 5, 1100, 1000, 1512, 1512);
        Check.due("the frame moves with what is around", r.hit(5, 1300, 1300), 0);
        Check.due("not where it was", r.hit(5, 300, 1300), NONE);
        make(r, 9);
        r.join(6, 0);
        r.join(6, 2);
        empty("a clip with an empty part", r, 6);
        make(r, 8);
        r.join(7, 0);
        r.join(7, 1);
        Check.due("a group's last leaf wins", r.hit(7, 500, 500), 1);
        Check.due("some leaf covers", r.covered(7, 0, 0), 16);
        make(r, 0, 5000, 5000, 6000, 6000);
        make(r, 9);
        r.join(9, 8);
        r.join(9, 0);
        empty("a clip of two apart", r, 9);
    }

    private static void weights() {
        RasterHouse r = new RasterHouse();
        int[] due = {1 + 2, 1 + 2, 2, 128, 2 + 4, 7, 0, 7};
        for (int s = 0; s < 8; s++) {
            make(r, s, 5, 5);
            Check.due("weight of sort " + s, r.look(s, 10), due[s]);
            Check.due("rank of sort " + s, r.look(s, 11), s == 7 ? 99 : 10 + due[s]);
        }
        r.say(6, 0);
        r.say(6, 0);
        Check.due("weight of letters", r.look(6, 10), 6);
        r.style(3, 5, 1000);
        Check.due("weight of a half", r.look(3, 10), 1000);
        r.style(4, 9, 8);
        Check.due("weight of pieces", r.look(4, 10), 10);
        make(r, 8);
        Check.due("weight of a group of none", r.look(8, 10), 0);
        Check.due("rank of a group of none", r.look(8, 11), 200);
        make(r, 9);
        Check.due("weight of a clip of none", r.look(9, 10), -1);
        Check.due("rank of a clip of none", r.look(9, 11), 201);
        r.join(8, 5);
        r.join(8, 5);
        r.join(8, 6);
        r.join(9, 0);
        r.join(9, 8);
        Check.due("weight of a group", r.look(8, 10), 20);
        Check.due("weight of a clip", r.look(9, 10), 22);
        Check.due("rank of a clip", r.look(9, 11), 178);
    }

    private static void grains() {
        RasterHouse r = new RasterHouse();
        make(r, 0, 0, 0, 2560, 512);
        r.style(0, 0, 77);
        Check.due("no grain", r.colour(0, 0, 0), 77);
        r.style(0, 10, 1);
        Check.due("no stops", r.colour(0, 0, 0), 77);
        r.stop(0, 64, 0x10FF0000);
        Check.due("one stop", r.colour(0, 9, 0), 0x10FF0000);
        r.stop(0, 128, 0x200000FF);
        r.stop(0, 192, 0x00000001);
        Check.due("t = 12", r.colour(0, 0, 0), 0x10FF0000);
        Check.due("t = 64", r.colour(0, 2, 0), 0x10FF0000);
        // t = 89: 25 of 64 on the way
        Check.due("t = 89", r.colour(0, 3, 0), (16 * 39 + 32 * 25) / 64 << 24 | 255 * 39 / 64 << 16 | 255 * 25 / 64);
        // t = 140: 12 of 64 on the way
        Check.due("t = 140", r.colour(0, 5, 0), 32 * 52 / 64 << 24 | (255 * 52 + 12) / 64);
        Check.due("t = 192", r.colour(0, 7, 0), 1);
        Check.due("held at 256", r.colour(0, 31, 0), 1);
        r.style(0, 10, 2);
        Check.due("along y, t = 64", r.colour(0, 9, 0), 0x10FF0000);
        Check.due("along y, t = 192", r.colour(0, 0, 1), 1);
        make(r, 0, 4000, 0, 5000, 9);
        r.style(1, 10, 1);
        r.stop(1, 1, 5);
        Check.due("held at 0", r.colour(1, 0, 0), 5);
        make(r, 0, 0, 0, 0, 9);
        r.style(2, 10, 1);
        r.style(2, 0, 9);
        r.stop(2, 1, 5);
        Check.due("with empty bounds its style's", r.colour(2, 0, 0), 9);
        make(r, 8);
        r.style(3, 0, 9);
        Check.due("of a group", r.colour(3, 0, 0), 0);
        Check.due("of none", r.colour(4, 0, 0), 0);
        Check.due("no seat", r.colour(0, 32, 0), 0);
        Check.due("no seat", r.colour(0, 0, -1), 0);
    }

    private static void pictures() {
        RasterHouse r = new RasterHouse();
        r.plane(4, 2, 2);
        r.plane(1, 2, 2);
        r.plane(5, 2, 2);
        r.put(0, 0, 0, 0x00000064);
        r.put(0, 1, 0, 0x000000C8);
        r.put(0, 0, 1, 0x80000000);
        r.put(0, 1, 1, 0xFF000000);
        r.put(1, 1, 0, 0xAB);
        make(r, 7, 0, 0, 1024, 1024);
        r.style(0, 0, 5);
        Check.due("without a texture", r.colour(0, 0, 0), 5);
        r.style(0, 13, 2);
        Check.due("a texture of another kind", r.colour(0, 0, 0), 5);
        r.style(0, 13, 1);
        Check.due("a grey in all four bytes", r.colour(0, 3, 1), 0xABABABAB);
        Check.due("held", r.colour(0, 31, 0), 0xABABABAB);
        r.style(0, 13, 0);
        Check.due("plain", r.colour(0, 1, 1), 0x64);
        Check.due("plain", r.colour(0, 2, 1), 0xC8);
        Check.due("plain", r.colour(0, 1, 2), 0x80000000);
        r.style(0, 14, 1);
        // U = 384 * 512 / 1024 - 128 = 64, V = 0 (held from -64)
        Check.due("fine", r.colour(0, 1, 0), (0x64 * 192 + 0xC8 * 64) / 256);
        // U = 64, V = 64
        int top = 128 * 192 + 255 * 64;
        Check.due("fine both ways", r.colour(0, 1, 1), top * 64 / 65536 << 24 | (0x64 * 192 + 0xC8 * 64) * 192 / 65536);
        Check.due("fine, held at the border", r.colour(0, 31, 31), 0xFF000000);
        Check.due("fine, held at the first", r.colour(0, 0, 0), 0x64);
        r.tile(0, 0, 0, 4, 1);
        r.blank(0, 0x0A0B0C0D);
        Check.due("a hole shows the blank", r.colour(0, 31, 31), 0x0A0B0C0D);
        r.style(0, 14, 0);
        Check.due("a hole shows the blank", r.colour(0, 3, 0), 0x0A0B0C0D);
        Check.due("a cell that is there", r.colour(0, 0, 0), 0);
        make(r, 0, 0, 0, 1024, 1024);
        r.style(1, 13, 0);
        r.style(1, 0, 6);
        Check.due("a box shows no texture", r.colour(1, 3, 3), 6);
    }
}
