/** Promises 16 to 25, 37 and 41: jobs, blends, depth, copies, grades, masks, acts. */
public final class PaintingTest {
    private static final int UNKNOWN = -1, OUTSIDE = -2, STATE = -3, FULL = -4, NONE = -9;
    private static final int CAST = -12, INDEX = -13, STORE = -14;

    public static void main(String[] args) {
        refusalsOfJobs();
        jobs();
        cutJobs();
        changesDuringJobs();
        wholeKinds();
        blends();
        lights();
        depths();
        missed();
        copies();
        copiesThatStop();
        grades();
        masks();
        acts();
        actsOfJobs();
        actsAndPlanes();
        budget();
        Check.end();
    }

    private static int box(RasterHouse r, int x0, int y0, int x1, int y1) {
        int s = r.shape(0);
        r.point(s, x0, y0);
        r.point(s, x1, y1);
        return s;
    }

    private static void refusalsOfJobs() {
        RasterHouse r = new RasterHouse();
        r.plane(4, 8, 8);
        r.plane(2, 8, 8);
        r.plane(2, 8, 9);
        r.plane(5, 8, 8);
        r.plane(7, 8, 8);
        box(r, 0, 0, 256, 256);
        int p = r.shape(7);
        Check.due("no plane", r.begin(5, NONE, 0, 0), UNKNOWN);
        Check.due("no depth plane", r.begin(0, 5, 0, 0), UNKNOWN);
        Check.due("no depth plane", r.begin(0, -1, 0, 0), UNKNOWN);
        Check.due("no shape", r.begin(0, NONE, 2, 9), UNKNOWN);
        Check.due("no way", r.begin(0, NONE, 0, 2), OUTSIDE);
        Check.due("no way", r.begin(0, 2, 0, -1), OUTSIDE);
        Check.due("depth of another size", r.begin(0, 2, 0, 0), STATE);
        Check.due("depth of another kind", r.paint(0, 3, 0, 0), STATE);
        Check.due("itself as depth", r.paint(1, 1, 0, 0), STATE);
        r.style(p, 13, 0);
        Check.due("its own texture", r.paint(0, NONE, p, 0), STATE);
        r.style(p, 13, 4);
        Check.due("its depth as texture", r.paint(0, 4, p, 0), STATE);
        Check.due("another plane as texture", r.paint(0, 1, p, 0), 1);
        r.style(0, 13, 0);
        Check.due("no picture, so no texture", r.paint(0, NONE, 0, 0), 1);
        int c = r.shape(9);
        r.style(p, 13, 0);
        r.join(c, p);
        r.join(c, 0);
        Check.due("a picture as frame is no leaf", r.paint(0, NONE, c, 0), 1);
        int g = r.shape(8);
        r.join(g, 0);
        r.join(g, p);
        Check.due("a picture among the leaves", r.paint(0, NONE, g, 0), STATE);
        Check.due("refusals cost nothing", r.told(4), 3);
        Check.due("go without a job", r.go(1), STATE);
        Check.due("go without a job", r.go(-1), STATE);
        Check.due("halt without a job", r.halt(), STATE);
        Check.due("done what", r.done(6), OUTSIDE);
        Check.due("done what", r.done(-1), OUTSIDE);
        Check.due("told what", r.told(6), OUTSIDE);
        Check.due("told what", r.told(-1), OUTSIDE);
    }

    private static void jobs() {
        RasterHouse r = new RasterHouse();
        r.plane(5, 17, 9);
        box(r, 0, 0, 8192, 8192);
        r.style(0, 0, -3);
        int g = r.shape(8);
        for (int i = 0; i < 3; i++) r.join(g, 0);
        Check.due("units", r.begin(0, NONE, g, 1), 18);
        Check.due("under way", r.done(5), 1);
        Check.due("under way", r.told(5), 1);
        Check.due("too many at once", r.go(2001), OUTSIDE);
        Check.due("below 0", r.go(-1), OUTSIDE);
        Check.due("go", r.go(4), 4);
        Check.due("tile by tile: the first has all", r.dot(0, 7, 7), 3 * -48);
        Check.due("the second has one", r.dot(0, 8, 7), -48);
        Check.due("the third has none", r.dot(0, 16, 0), 0);
        Check.due("done", r.done(0), 4);
        Check.due("not done", r.done(1), 14);
        Check.due("written", r.done(2), 4 * 64);
        Check.due("the rest", r.go(2000), 14);
        Check.due("it ended", r.told(5), 0);
        Check.due("written", r.done(2), 3 * 17 * 9);
        Check.due("no job", r.go(0), STATE);
        Check.due("leaf by leaf", r.begin(0, NONE, g, 0), 18);
        r.go(7);
        Check.due("the first tile has two more", r.dot(0, 0, 0), 5 * -48);
        Check.due("the last tile has one more", r.dot(0, 16, 8), 4 * -48);
        Check.due("halt", r.halt(), 11);
        Check.due("not done yet", r.done(1), 11);
        Check.due("it is over", r.done(5), 0);
        int none = r.shape(8);
        Check.due("no units", r.begin(0, NONE, none, 0), 0);
        Check.due("it ended at once", r.told(5), 0);
        Check.due("counts of the latest", r.done(1), 0);
        Check.due("and is an act", r.told(2), 3);
        Check.due("units as begun", r.told(4), 36);
    }

    private static void cutJobs() {
        long whole = 0;
        for (int way = 0; way < 2; way++) {
            for (int step = 1; step < 9; step += 3) {
                RasterHouse r = new RasterHouse();
                r.plane(4, 20, 20);
                r.plane(7, 20, 20);
                r.blank(1, 800);
                int[] sorts = {5, 1, 3};
                for (int i = 0; i < 3; i++) {
                    r.shape(sorts[i]);
                    r.point(i, 300 * i, 100);
                    r.point(i, 4900, 4000 - 700 * i);
                    r.point(i, 700, 3900);
                    r.style(i, 0, 0x12345678 * (i + 1));
                    r.style(i, 3, 5 + 2 * i);
                    r.style(i, 1, 40 - 15 * i);
                    r.style(i, 5, 500);
                }
                r.shape(8);
                for (int i = 0; i < 3; i++) r.join(3, i);
                int units = r.begin(0, 1, 3, way);
                Check.due("units", units, 27);
                for (int i = 0; i < units; i += step) Check.due("go", r.go(step), Math.min(step, units - i));
                long h = r.digest(0) * 31 + r.digest(1) + r.done(2) + r.done(3);
                if (whole == 0) whole = h;
                Check.due("the same dots, way " + way + ", step " + step, h, whole);
            }
        }
    }

    private static void changesDuringJobs() {
        RasterHouse r = new RasterHouse();
        r.plane(6, 8, 8);
        box(r, 0, 0, 256, 256);
        r.put(0, 0, 0, 1);
        r.undo();
        r.begin(0, NONE, 0, 0);
        int[] all = {r.plane(9, 0, 0), r.blank(9, 0), r.put(9, 0, 0, 0), r.spoil(9, 0, 0), r.tile(9, 0, 0, 0, 0),
            r.wipe(9, 0, 0), r.shape(99), r.point(9, 0, 0), r.move(9, 0, 0), r.join(9, 9), r.style(9, 0, 0),
            r.stop(9, 0, 0), r.glyph(99, 0, 0), r.say(9, 0), r.begin(9, 9, 9, 9), r.paint(9, 9, 9, 9),
            r.copy(9, 0, 0, 1, 1, 9, 0, 0), r.grade(9, 9), r.mask(9, 9, 0), r.undo(), r.redo()};
        for (int i = 0; i < all.length; i++) Check.due("change " + i + " during a job", all[i], STATE);
        Check.due("acts taken back wait", r.told(3), 1);
        Check.due("looking is allowed", r.dot(0, 0, 0), 0);
        r.go(1);
        Check.due("until the job ended", r.told(3), 0);
        Check.due("changes again", r.put(0, 0, 0, 0), 1);
    }

    private static void wholeKinds() {
        RasterHouse r = new RasterHouse();
        r.plane(0, 8, 8);
        r.plane(2, 8, 8);
        r.plane(3, 8, 8);
        r.plane(5, 8, 8);
        // dot 0 has 7 samples (k 0 to 6), dot 1 has 8, dot 2 has 16
        int[] boxes = {box(r, 0, 0, 7 * 16, 256), box(r, 256, 0, 256 + 8 * 16, 256), box(r, 512, 0, 768, 256)};
        int g = r.shape(8);
        for (int b : boxes) {
            r.style(b, 0, -5);
            r.style(b, 1, -77);
            r.style(b, 2, 65535);
            r.join(g, b);
        }
        long[][] masks = {{0, 1, 1}, {0, 0, 0}, {0, 1, 1}, {1, 1, 1}};
        for (int mode = 0; mode < 12; mode++) {
            for (int b : boxes) r.style(b, 3, mode);
            r.wipe(0, 0, 0);
            r.paint(0, NONE, g, 0);
            for (int x = 0; x < 3; x++) Check.due("mask, mode " + mode, r.dot(0, x, 0), masks[mode % 4][x]);
            Check.due("written, mode " + mode, r.done(2), mode % 4 == 3 ? 3 : 2);
        }
        for (int b : boxes) r.style(b, 3, 2);
        r.blank(0, 1);
        r.wipe(0, 0, 0);
        r.paint(0, NONE, g, 0);
        for (int x = 0; x < 3; x++) Check.due("turned", r.dot(0, x, 0), x == 0 ? 1 : 0);
        r.paint(1, NONE, g, 0);
        r.paint(2, NONE, g, 0);
        r.paint(3, NONE, g, 0);
        Check.due("written", r.done(2), 3);
        for (int x = 0; x < 3; x++) Check.due("depth", r.dot(1, x, 0), x == 0 ? 0 : -77);
        for (int x = 0; x < 3; x++) Check.due("code", r.dot(2, x, 0), x == 0 ? 0 : 65535);
        Check.due("sum", r.dot(3, 0, 0), -35);
        Check.due("sum", r.dot(3, 1, 0), -40);
        Check.due("sum", r.dot(3, 2, 0), -80);
        r.paint(3, NONE, g, 0);
        Check.due("sum of two", r.dot(3, 2, 0), -160);
        r.wipe(1, 0, 0);
        r.paint(1, NONE, boxes[0], 0);
        Check.due("nothing written makes no row", r.size(1, 3), 0);
    }

    private static void blends() {
        RasterHouse r = new RasterHouse();
        r.plane(1, 8, 8);
        r.plane(4, 8, 8);
        box(r, 0, 0, 256, 256);
        int[][] pairs = {{100, 50}, {200, 90}, {128, 255}, {127, 3}, {0, 255}, {255, 0}, {255, 255}, {7, 7}};
        // by pairs s, d
        int[][] due = {
            {100, 200, 128, 127, 0, 255, 255, 7},
            {50, 90, 255, 3, 255, 0, 255, 7},
            {150, 255, 255, 130, 255, 255, 255, 14},
            {0, 0, 127, 0, 255, 0, 0, 0},
            {20, 71, 128, 1, 0, 0, 255, 0},
            {130, 219, 255, 129, 255, 255, 255, 14},
            {50, 90, 128, 3, 0, 0, 255, 7},
            {100, 200, 255, 127, 255, 255, 255, 7},
            {50, 110, 127, 124, 255, 255, 0, 0},
            {86, 146, 127, 124, 255, 255, 0, 0},
            {75, 145, 192, 65, 128, 128, 255, 7},
            {39, 184, 255, 3, 0, 255, 255, 0}};
        for (int mode = 0; mode < 12; mode++) {
            r.style(0, 3, mode);
            for (int i = 0; i < pairs.length; i++) {
                int s = pairs[i][0], d = pairs[i][1];
                r.style(0, 0, 0x55AA6600 | s);
                if (i >= 2 && mode % 3 != 0) continue;
                r.put(0, 0, 0, d);
                r.paint(0, NONE, 0, 0);
                Check.due("grey " + s + " over " + d + " by mode " + mode, r.dot(0, 0, 0), due[mode][i]);
            }
        }
        for (int mode = 0; mode < 12; mode++) {
            r.style(0, 3, mode);
            r.style(0, 0, 100 << 24 | 200 << 16 | 128 << 8 | 127);
            r.put(1, 0, 0, 50 << 24 | 90 << 16 | 255 << 8 | 3);
            r.paint(1, NONE, 0, 0);
            Check.due("colour by mode " + mode, r.dot(1, 0, 0),
                due[mode][0] << 24 | due[mode][1] << 16 | due[mode][2] << 8 | due[mode][3]);
        }
        int part = box(r, 0, 0, 5 * 16, 256);
        r.style(part, 0, 200);
        r.put(0, 0, 0, 101);
        r.paint(0, NONE, part, 0);
        Check.due("five samples of sixteen", r.dot(0, 0, 0), (101 * 11 + 200 * 5 + 8) / 16);
        r.style(part, 3, 1);
        r.wipe(0, 0, 0);
        r.paint(0, NONE, part, 0);
        Check.due("written, also if it stays what it was", r.done(2), 1);
        Check.due("and a row then", r.size(0, 3), 1);
    }

    private static void lights() {
        for (int kind = 6; kind < 8; kind++) {
            RasterHouse r = new RasterHouse();
            r.plane(kind, 8, 8);
            box(r, 0, 0, 256, 256);
            r.style(0, 11, -20);
            double[] due = {-2.5, 7.25, 4.75, 9.75, -18.125, 4.75 + 18.125, -2.5, 7.25, 9.75, -7.25, 2.375, 2.25};
            for (int mode = 0; mode < 12; mode++) {
                r.style(0, 3, mode);
                r.put(0, 0, 0, 58);
                r.paint(0, NONE, 0, 0);
                Check.number("kind " + kind + ", mode " + mode, r.glow(0, 0, 0), due[mode]);
            }
            r.put(0, 0, 0, -58);
            r.paint(0, NONE, 0, 0);
            Check.number("the rest has the sign of what is divided", r.glow(0, 0, 0), -2.25);
            r.put(0, 0, 0, -40);
            r.paint(0, NONE, 0, 0);
            Check.number("no rest", r.glow(0, 0, 0), 0);
            r.put(0, 0, 0, 4);
            r.paint(0, NONE, 0, 0);
            Check.number("all is rest", r.glow(0, 0, 0), 0.5);
            r.style(0, 11, 0);
            r.paint(0, NONE, 0, 0);
            Check.number("the rest by 0 is no number", r.glow(0, 0, 0), -1);
            r.style(0, 3, 9);
            r.paint(0, NONE, 0, 0);
            Check.number("the sign of 0.0", r.glow(0, 0, 0), 1);
            r.style(0, 3, 1);
            r.spoil(0, 0, 0);
            r.paint(0, NONE, 0, 0);
            Check.number("no number comes to -1", r.glow(0, 0, 0), -1);
            r.style(0, 3, 4);
            r.style(0, 11, 8000);
            r.put(0, 0, 0, Long.MAX_VALUE);
            for (int i = 0; i < 120 && r.sort(0, 0, 0) == 0; i++) r.paint(0, NONE, 0, 0);
            Check.due("beyond all numbers", r.sort(0, 0, 0), 1);
            r.paint(0, NONE, 0, 0);
            Check.number("from there to -1", r.glow(0, 0, 0), -1);
            int part = box(r, 0, 0, 5 * 16, 256);
            r.style(part, 11, 17);
            r.put(0, 0, 0, 8);
            r.paint(0, NONE, part, 0);
            Check.number("five samples of sixteen", r.glow(0, 0, 0), 1 + 1.125 * 5 / 16);
        }
        RasterHouse r = new RasterHouse();
        r.plane(6, 1, 1);
        r.plane(7, 1, 1);
        box(r, 0, 0, 256, 256);
        r.style(0, 3, 11);
        r.style(0, 11, 7999);
        for (int p = 0; p < 2; p++) {
            r.put(p, 0, 0, Long.MAX_VALUE);
            double due = p == 0 ? (float) (0x1p60f % 999.875f) : 0x1p60 % 999.875;
            double v = 0x1p60;
            r.paint(p, NONE, 0, 0);
            Check.number("a rest of much", r.glow(p, 0, 0),
                p == 0 ? (double) ((float) v + ((float) due - (float) v)) : v + (due - v));
        }
    }

    private static void depths() {
        int[] kinds = {2, 6, 7};
        for (int kind : kinds) {
            RasterHouse r = new RasterHouse();
            r.plane(1, 8, 8);
            r.plane(kind, 8, 8);
            // dot 0 has 7 samples, dot 1 has 16
            int g = r.shape(2);
            int[] at = {0, 0, 7 * 16, 0, 7 * 16, 256, 256, 256, 256, 0, 512, 0, 512, 256, 0, 256};
            for (int i = 0; i < at.length; i += 2) r.point(g, at[i], at[i + 1]);
            Check.due("samples", r.covered(g, 0, 0), 7);
            Check.due("samples", r.covered(g, 1, 0), 16);
            long one = kind == 2 ? 1 : 8;
            r.blank(1, 5 * one);
            int[][] passes = {{1, 0, 0}, {1, 1, 0}, {1, 1, 1}};
            for (int test = 0; test < 3; test++) {
                for (int depth = 4; depth <= 6; depth++) {
                    r.style(g, 4, test);
                    r.style(g, 1, depth);
                    r.paint(0, 1, g, 0);
                    int pass = passes[test][depth - 4];
                    Check.due("written", r.done(2), 2 * pass);
                    Check.due("behind", r.done(3), 2 - 2 * pass);
                    Check.due("too few samples leave the depth", r.dot(1, 0, 0), 5 * one);
                    Check.due("the depth", r.dot(1, 1, 0), pass == 1 ? depth * one : 5 * one);
                    r.undo();
                }
            }
            if (kind == 2) continue;
            r.spoil(1, 0, 0);
            r.style(g, 1, -32768);
            for (int test = 0; test < 3; test++) {
                r.style(g, 4, test);
                r.paint(0, 1, g, 0);
                Check.due("no number passes none", r.done(3), 1);
                r.undo();
            }
        }
    }

    private static void missed() {
        RasterHouse r = new RasterHouse();
        r.plane(1, 8, 8);
        r.plane(7, 8, 8);
        box(r, 0, 0, 2048, 2048);
        r.style(0, 1, -1);
        r.tile(0, 0, 0, 1, 10);
        r.tile(1, 0, 0, 7, 4);
        r.paint(0, 1, 0, 0);
        Check.due("written", r.done(2), 4);
        Check.due("missed", r.done(4), 60);
        r.tile(1, 0, 0, 6, 64);
        r.paint(0, 1, 0, 0);
        Check.due("missed", r.done(4), 64);
        Check.due("behind", r.done(3), 0);
        r.wipe(1, 0, 0);
        r.tile(0, 0, 0, 4, 64);
        r.paint(0, 1, 0, 0);
        Check.due("missed", r.done(4), 64);
        Check.due("a missed dot leaves the depth", r.size(1, 3), 0);
    }

    private static void copies() {
        RasterHouse r = new RasterHouse();
        r.plane(5, 10, 10);
        r.plane(5, 4, 4);
        r.plane(4, 10, 10);
        for (int y = 0; y < 4; y++) for (int x = 0; x < 4; x++) r.put(1, x, y, 10 * y + x + 1);
        Check.due("no plane", r.copy(3, 0, 0, 1, 1, 0, 0, 0), UNKNOWN);
        Check.due("no plane", r.copy(0, 0, 0, 1, 1, 3, 0, 0), UNKNOWN);
        Check.due("no dot", r.copy(1, 4, 0, 1, 1, 0, 0, 0), UNKNOWN);
        Check.due("no dot", r.copy(1, 0, 0, 0, 0, 0, 0, 10), UNKNOWN);
        int[][] outside = {{0, 1}, {1, 0}, {33, 1}, {1, 33}, {5, 1}, {1, 5}, {2147483647, 1}};
        for (int[] o : outside) Check.due("outside", r.copy(1, 0, 0, o[0], o[1], 0, 0, 0), OUTSIDE);
        Check.due("beyond the other", r.copy(1, 0, 0, 4, 4, 0, 7, 0), OUTSIDE);
        Check.due("beyond the other", r.copy(1, 0, 0, 4, 4, 0, 0, 7), OUTSIDE);
        Check.due("outside ahead of cast", r.copy(1, 0, 0, 4, 4, 2, 7, 0), OUTSIDE);
        Check.due("refusals cost nothing", r.told(4), 0);
        Check.due("copy", r.copy(1, 0, 0, 4, 4, 0, 6, 6), 4);
        Check.due("copied", r.copied(), 4);
        Check.due("16 units", r.told(4), 16);
        Check.due("is an act", r.told(2), 17);
        Check.due("the first", r.dot(0, 6, 6), 1);
        Check.due("the last", r.dot(0, 9, 9), 34);
        Check.due("unlike kinds", r.copy(1, 0, 0, 4, 4, 2, 0, 0), CAST);
        Check.due("finding", r.finding(), 2);
        Check.due("no row came", r.copied(), 0);
        Check.due("it costs nothing", r.told(4), 16);
        Check.due("and is no act", r.told(2), 17);
        r.copy(1, 0, 0, 4, 4, 1, 0, 0);
        r.copy(1, 0, 0, 4, 99, 1, 0, 0);
        Check.due("a refusal leaves copied", r.copied(), 4);
        Check.due("down over itself", r.copy(1, 0, 0, 4, 3, 1, 0, 1), 3);
        for (int y = 0; y < 4; y++) Check.due("each row as it was", r.dot(1, 0, y), y == 0 ? 1 : 10 * y - 9);
        Check.due("up over itself", r.copy(1, 0, 1, 4, 3, 1, 0, 0), 3);
        for (int y = 0; y < 4; y++) Check.due("each row as it was", r.dot(1, 0, y), y == 3 ? 21 : 10 * y + 1);
        Check.due("right over itself", r.copy(1, 0, 0, 3, 1, 1, 1, 0), 1);
        for (int x = 0; x < 4; x++) Check.due("each row as it was", r.dot(1, x, 0), x == 0 ? 1 : x);
        r.blank(0, 99);
        r.wipe(0, 0, 0);
        r.copy(0, 0, 0, 1, 1, 1, 0, 0);
        Check.due("of nothing the blank goes", r.dot(1, 0, 0), 99);
        RasterHouse q = new RasterHouse();
        q.plane(7, 2, 2);
        q.spoil(0, 0, 0);
        q.copy(0, 0, 0, 1, 1, 0, 1, 1);
        Check.due("no number goes", q.sort(0, 1, 1), 3);
        q.copy(0, 1, 0, 1, 1, 0, 1, 1);
        Check.due("a number goes", q.sort(0, 1, 1), 0);
    }

    private static void copiesThatStop() {
        RasterHouse r = new RasterHouse();
        r.plane(1, 16, 16);
        r.plane(1, 16, 16);
        r.blank(0, 5);
        r.tile(1, 0, 1, 4, 64);
        Check.due("of another kind", r.copy(0, 0, 0, 16, 16, 1, 0, 0), STORE);
        Check.due("finding", r.finding(), 4);
        Check.due("rows that came", r.copied(), 8);
        Check.due("they stay", r.dot(1, 15, 7), 5);
        Check.due("it stopped ahead of the row", r.dot(1, 15, 8), 0);
        Check.due("is an act", r.told(2), 2);
        Check.due("costs units", r.told(4), 16);
        r.undo();
        Check.due("taken back", r.dot(1, 15, 7), 0);
        r.tile(1, 0, 1, 1, 20);
        Check.due("too short", r.copy(0, 0, 0, 16, 16, 1, 0, 0), INDEX);
        Check.due("finding", r.finding(), 3);
        Check.due("rows that came", r.copied(), 10);
        Check.due("a part of a row does not come", r.dot(1, 3, 10), 0);
        r.tile(0, 1, 1, 4, 64);
        Check.due("by pairs from the left", r.copy(0, 3, 10, 12, 1, 1, 0, 10), INDEX);
        Check.due("the first plane of a pair", r.copy(0, 8, 10, 4, 1, 1, 4, 10), STORE);
        Check.due("no row came", r.copied(), 0);
        r.tile(0, 1, 1, 1, 0);
        r.tile(1, 1, 0, 5, 64);
        Check.due("of the first plane, then the other", r.copy(0, 8, 8, 1, 1, 1, 8, 0), INDEX);
        Check.due("the last row first", r.copy(0, 0, 0, 9, 8, 0, 0, 1), INDEX);
        Check.due("no row came", r.copied(), 0);
    }

    private static void grades() {
        double[] from = {2.5, -2.5, 3.5, 0.125, -0.125, 0, 0.5, -0.5, 1.5, -7};
        double[][] due = {
            {2, -3, 3, 0, -1, 0, 0, -1, 1, -7},
            {3, -2, 4, 1, -0.0, 0, 1, -0.0, 2, -7},
            {2, -2, 4, 0, -0.0, 0, 0, -0.0, 2, -7},
            {1, -1, 1, 1, -1, 0, 1, -1, 1, -1},
            {2.5, 2.5, 3.5, 0.125, 0.125, 0, 0.5, 0.5, 1.5, 7},
            {-2.5, 2.5, -3.5, -0.125, 0.125, -0.0, -0.5, 0.5, -1.5, 7},
            {1.25, -1.25, 1.75, 0.0625, -0.0625, 0, 0.25, -0.25, 0.75, -3.5},
            {5, -5, 7, 0.25, -0.25, 0, 1, -1, 3, -14}};
        for (int kind = 6; kind < 8; kind++) {
            RasterHouse r = new RasterHouse();
            r.plane(kind, 10, 1);
            for (int x = 0; x < 10; x++) r.put(0, x, 0, (long) (from[x] * 8));
            for (int what = 0; what < 8; what++) {
                int unlike = 0;
                for (int x = 0; x < 10; x++) if (due[what][x] != from[x]) unlike++;
                Check.due("grade " + what, r.grade(0, what), unlike);
                for (int x = 0; x < 10; x++) Check.number("grade " + what, r.glow(0, x, 0), due[what][x]);
                r.undo();
            }
            r.grade(0, 5);
            r.grade(0, 3);
            Check.number("-0.0 itself", r.glow(0, 5, 0), -0.0);
            r.grade(0, 4);
            Check.number("without sign", r.glow(0, 5, 0), 0.0);
            r.spoil(0, 9, 0);
            Check.due("no number counts", r.grade(0, 4), 1);
            Check.due("and stays", r.sort(0, 9, 0), 3);
            r.tile(0, 0, 0, kind, 3);
            Check.due("holes don't", r.grade(0, 5), 2);
            r.wipe(0, 1, 0);
            r.blank(0, 4);
            Check.due("nor does nothing", r.grade(0, 0), 0);
            Check.number("nothing stays", r.glow(0, 9, 0), 0.5);
            Check.due("no such grade", r.grade(0, 8), OUTSIDE);
            Check.due("no such grade", r.grade(0, -1), OUTSIDE);
            Check.due("no plane", r.grade(2, 0), UNKNOWN);
            r.plane(5, 1, 1);
            Check.due("another kind", r.grade(1, 0), CAST);
            Check.due("outside ahead of cast", r.grade(1, 8), OUTSIDE);
        }
    }

    private static void masks() {
        RasterHouse r = new RasterHouse();
        r.plane(2, 10, 10);
        r.plane(0, 10, 10);
        r.plane(0, 10, 9);
        r.plane(1, 10, 10);
        r.put(1, 0, 0, 1);
        r.put(1, 9, 9, 1);
        r.put(1, 1, 0, 1);
        Check.due("mask", r.mask(0, 1, 65535), 3);
        Check.due("masked", r.dot(0, 9, 9), -1);
        Check.due("not masked", r.dot(0, 8, 9), 0);
        Check.due("rows", r.size(0, 3), 2);
        r.tile(0, 0, 0, 2, 1);
        Check.due("holes of the plane", r.mask(0, 1, 3), 2);
        r.tile(1, 1, 1, 1, 64);
        Check.due("holes of the mask", r.mask(0, 1, 3), 1);
        Check.due("no plane", r.mask(4, 1, 0), UNKNOWN);
        Check.due("no plane", r.mask(0, 4, 0), UNKNOWN);
        Check.due("another size", r.mask(0, 2, 0), STATE);
        Check.due("itself", r.mask(1, 1, 0), STATE);
        Check.due("state ahead of cast", r.mask(3, 3, 0), STATE);
        Check.due("no masks", r.mask(0, 3, 0), CAST);
        Check.due("finding", r.finding(), 2);
        r.wipe(1, 0, 0);
        r.wipe(1, 1, 1);
        r.blank(1, 1);
        Check.due("the blank tells 1", r.mask(3, 1, 9), 100);
    }

    private static void acts() {
        RasterHouse r = new RasterHouse();
        r.plane(5, 8, 8);
        Check.due("none", r.undo(), STATE);
        Check.due("none", r.redo(), STATE);
        for (int i = 1; i <= 25; i++) r.put(0, 0, 0, i);
        Check.due("twenty are kept", r.told(2), 20);
        for (int i = 1; i <= 20; i++) {
            Check.due("undo", r.undo(), 20 - i);
            Check.due("as it was", r.dot(0, 0, 0), 25 - i);
        }
        Check.due("no more", r.undo(), STATE);
        Check.due("those taken back", r.told(3), 20);
        for (int i = 1; i <= 20; i++) {
            Check.due("redo", r.redo(), 20 - i);
            Check.due("as it was", r.dot(0, 0, 0), 5 + i);
        }
        Check.due("no more", r.redo(), STATE);
        r.undo();
        r.undo();
        Check.due("a fault is no act", r.spoil(0, 0, 0), CAST);
        Check.due("a refusal is no act", r.put(0, 9, 9, 0), UNKNOWN);
        Check.due("so they can be done again", r.told(3), 2);
        r.wipe(0, 0, 0);
        Check.due("another act forgets them", r.told(3), 0);
        Check.due("kept", r.told(2), 19);
        r.undo();
        Check.due("back to a row", r.dot(0, 0, 0), 23);
        r.redo();
        Check.due("nothing again", r.row(0, 0, 0, 0), NONE);
        r.tile(0, 0, 0, 1, 5);
        r.undo();
        Check.due("nothing again", r.row(0, 0, 0, 0), NONE);
        r.redo();
        Check.due("another kind again", r.row(0, 0, 0, 0), 1);
        Check.due("so many cells", r.row(0, 0, 0, 1), 5);
    }

    private static void actsOfJobs() {
        RasterHouse r = new RasterHouse();
        r.plane(1, 16, 16);
        r.plane(7, 16, 16);
        r.blank(1, 80);
        box(r, 0, 0, 4096, 4096);
        r.style(0, 0, 9);
        r.begin(0, 1, 0, 0);
        r.go(2);
        r.halt();
        Check.due("a halted job is one act", r.told(2), 1);
        r.paint(0, NONE, 0, 0);
        Check.due("a job is one act", r.told(2), 2);
        r.undo();
        Check.due("half of it", r.size(0, 3), 2);
        Check.due("half of it", r.dot(0, 8, 7), 9);
        r.undo();
        Check.due("nothing of it", r.size(0, 3), 0);
        Check.due("nor of the depth", r.size(1, 3), 0);
        Check.due("what is told of the job stays", r.done(2), 256);
        r.redo();
        Check.due("again", r.size(1, 3), 2);
        Check.due("again", r.dot(1, 0, 0), 0);
        Check.due("not by it", r.dot(1, 0, 8), 80);
    }

    private static void actsAndPlanes() {
        RasterHouse r = new RasterHouse();
        r.plane(1, 8, 8);
        r.put(0, 0, 0, 4);
        r.plane(2, 8, 8);
        r.put(1, 1, 1, 6);
        r.blank(1, 3);
        r.undo();
        r.undo();
        Check.due("planes stay", r.told(0), 2);
        Check.due("a plane that came later", r.dot(1, 1, 1), 3);
        r.redo();
        r.redo();
        Check.due("again", r.dot(1, 1, 1), 6);
        Check.due("made of the blank as it was", r.dot(1, 0, 0), 0);
    }

    private static void budget() {
        RasterHouse r = new RasterHouse();
        r.plane(1, 32, 32);
        box(r, 0, 0, 9, 9);
        int g = r.shape(8), h = r.shape(8);
        for (int i = 0; i < 8; i++) r.join(g, 0);
        for (int i = 0; i < 8; i++) r.join(h, g);
        for (int i = 1; i <= 15; i++) Check.due("paint", r.paint(0, NONE, h, i % 2), 1024);
        for (int i = 0; i < 5; i++) Check.due("paint", r.paint(0, NONE, g, 0), 128);
        Check.due("spent", r.told(4), 16000);
        Check.due("a unit too many", r.paint(0, NONE, 0, 0), FULL);
        Check.due("a copy too many", r.copy(0, 0, 0, 1, 1, 0, 0, 0), FULL);
        r.plane(2, 32, 32);
        Check.due("full ahead of cast", r.copy(0, 0, 0, 1, 1, 1, 0, 0), FULL);
        Check.due("outside ahead of full", r.copy(0, 0, 0, 33, 1, 0, 0, 0), OUTSIDE);
        Check.due("state ahead of full", r.paint(0, 0, 0, 0), STATE);
        Check.due("no units", r.paint(0, NONE, r.shape(9), 0), 0);
        RasterHouse q = new RasterHouse();
        q.plane(1, 1, 1);
        for (int i = 0; i < 500; i++) q.copy(0, 0, 0, 1, 1, 0, 0, 0);
        Check.due("copies", q.told(4), 8000);
        RasterHouse n = new RasterHouse();
        n.plane(1, 32, 32);
        box(n, 0, 0, 9, 9);
        int m = n.shape(8), o = n.shape(8);
        for (int i = 0; i < 8; i++) n.join(m, 0);
        for (int i = 0; i < 8; i++) n.join(o, m);
        for (int i = 0; i < 15; i++) n.paint(0, NONE, o, 0);
        for (int i = 0; i < 4; i++) n.paint(0, NONE, m, 0);
        for (int i = 0; i < 7; i++) n.paint(0, NONE, 0, 0);
        Check.due("the last copy", n.copy(0, 0, 0, 1, 1, 0, 0, 0), 1);
        Check.due("spent", n.told(4), 16000);
    }
}
