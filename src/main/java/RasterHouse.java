import java.util.Arrays;

/**
 * A house of rasters: shapes painted into planes of eight kinds of dots.
 * The promises that it keeps stand in DOC.md; README.md says how to use it.
 */
public final class RasterHouse {
    public static final int UNKNOWN = -1, OUTSIDE = -2, STATE = -3, FULL = -4, NONE = -9;

    private static final int CAST = 2, INDEX = 3, STORE = 4, SIZE = 5;

    private static final int MASKS = 0, GREYS = 1, DEPTHS = 2, CODES = 3, COLOURS = 4, SUMS = 5,
        GLOWS = 6, LIGHTS = 7;

    private static final int BOX = 0, WEDGE = 1, RING = 2, STROKE = 3, CURVE = 4, OVAL = 5, TEXT = 6,
        PICTURE = 7, GROUP = 8, CLIP = 9;

    private static final int COLOUR = 0, DEPTH = 1, CODE = 2, MODE = 3, TEST = 4, HALF = 5, ENDS = 6,
        JOINS = 7, RULE = 8, PIECES = 9, GRAIN = 10, LIGHT = 11, UNIT = 12, TEXTURE = 13, FINE = 14;

    private static final int[] STYLE_LEAST =
        {-2147483648, -32768, 0, 0, 0, 1, 0, 0, 0, 1, 0, -8000, 16, NONE, 0};
    private static final int[] STYLE_MOST =
        {2147483647, 32767, 65535, 11, 2, 1024, 2, 1, 1, 8, 2, 8000, 512, 7, 1};
    private static final int[] STYLE_FIRST =
        {0, 0, 0, 0, 0, 128, 0, 0, 0, 4, 0, 8, 64, NONE, 0};

    private static final int[] POINTS_WANTED = {2, 3, 3, 2, 3, 2, 1, 2, 0, 0};
    private static final int[] POINTS_MOST = {2, 3, 12, 12, 9, 2, 1, 2, 0, 0};

    private static final int PLANES_MOST = 8, SIDE_MOST = 32, TILES_MOST = 16, CELLS = 64;
    private static final int SHAPES_MOST = 40, GLYPHS_MOST = 16, LETTERS_MOST = 8, STOPS_MOST = 4;
    private static final int PLACE_MOST = 256, ADVANCE_MOST = 16;
    private static final int POINT_LEAST = -4096, POINT_MOST = 12287, OFFSET_MOST = 4096;
    private static final int WITHIN_MOST = 100, DEEP_MOST = 6, FRAMES_MOST = 4;
    private static final int OUTLINE_MOST = 36;
    private static final int SAMPLES = 16, ENOUGH = 8;
    private static final int UNITS_MOST = 16000, COPY_UNITS = 16, GO_MOST = 2000;
    private static final int ACTS_MOST = 20;
    /** A job touches the tiles of its plane and of its depth plane; no other act touches more. */
    private static final int ACT_TILES_MOST = 32;

    private final Plane[] planes;
    private int planeCount;
    private final Shape[] shapes;
    private int shapeCount;
    private final int[] weights;
    private final Glyphs glyphs;
    private final History history;
    private final Job job;
    private final Leaves asked;
    private final Row carried;
    private int spent;
    private int lastFault;
    private int rowsCopied;

    public RasterHouse() {
        planes = new Plane[PLANES_MOST];
        shapes = new Shape[SHAPES_MOST];
        weights = new int[SHAPES_MOST];
        glyphs = new Glyphs();
        history = new History();
        job = new Job(history);
        asked = new Leaves();
        carried = new Row();
    }

    // ---- changes: planes

    public int plane(int kind, int width, int height) {
        if (job.underWay) return STATE;
        if (!isKind(kind) || width < 1 || width > SIDE_MOST || height < 1 || height > SIDE_MOST) return OUTSIDE;
        if (planeCount >= PLANES_MOST) return FULL;
        planes[planeCount] = new Plane(planeCount, kind, width, height);
        planeCount++;
        return planeCount - 1;
    }

    public int blank(int plane, long v) {
        if (job.underWay) return STATE;
        if (!isPlane(plane)) return UNKNOWN;
        planes[plane].blankRow.setWord(0, v);
        return 1;
    }

    public int put(int plane, int x, int y, long v) {
        if (job.underWay) return clean(STATE);
        if (!isDot(plane, x, y)) return clean(UNKNOWN);
        Plane p = planes[plane];
        int fault = p.faultAt(x, y);
        if (fault != 0) return fail(fault);
        history.writable(p, p.tileOf(x, y)).setWord(Plane.cellOf(x, y), v);
        history.close();
        return clean(1);
    }

    public int spoil(int plane, int x, int y) {
        if (job.underWay) return clean(STATE);
        if (!isDot(plane, x, y)) return clean(UNKNOWN);
        Plane p = planes[plane];
        int fault = p.kind < GLOWS ? CAST : p.faultAt(x, y);
        if (fault != 0) return fail(fault);
        history.writable(p, p.tileOf(x, y)).lose(Plane.cellOf(x, y));
        history.close();
        return clean(1);
    }

    public int tile(int plane, int x, int y, int kind, int n) {
        if (job.underWay) return clean(STATE);
        if (!isTile(plane, x, y)) return clean(UNKNOWN);
        if (!isKind(kind) || n > CELLS) return clean(OUTSIDE);
        if (n < 0) return fail(SIZE);
        Plane p = planes[plane];
        history.renew(p, y * p.across + x).become(kind, n);
        history.close();
        return clean(n);
    }

    public int wipe(int plane, int x, int y) {
        if (job.underWay) return STATE;
        if (!isTile(plane, x, y)) return UNKNOWN;
        Plane p = planes[plane];
        boolean was = history.remove(p, y * p.across + x);
        history.close();
        return was ? 1 : 0;
    }

    // ---- changes: shapes

    public int shape(int sort) {
        if (job.underWay) return STATE;
        if (sort < BOX || sort > CLIP) return OUTSIDE;
        if (shapeCount >= SHAPES_MOST) return FULL;
        shapes[shapeCount] = new Shape(shapeCount, sort, glyphs);
        shapeCount++;
        return shapeCount - 1;
    }

    public int point(int shape, int x, int y) {
        if (job.underWay) return STATE;
        if (!isShape(shape)) return UNKNOWN;
        Shape s = shapes[shape];
        if (!isPlace(x) || !isPlace(y) || s.isNest()) return OUTSIDE;
        if (s.points.isFull()) return FULL;
        s.points.add(x, y);
        s.trace();
        return s.points.count;
    }

    public int move(int shape, int dx, int dy) {
        if (job.underWay) return STATE;
        if (!isShape(shape)) return UNKNOWN;
        Shape s = shapes[shape];
        if (!s.mayMove(dx, dy)) return OUTSIDE;
        s.shift(dx, dy);
        s.trace();
        return 1;
    }

    public int join(int group, int part) {
        if (job.underWay) return STATE;
        if (!isShape(group) || !isShape(part)) return UNKNOWN;
        Shape g = shapes[group];
        Shape p = shapes[part];
        if (!g.isNest() || part >= group || g.wantsFrame() && p.isNest()) return OUTSIDE;
        if (g.isPart) return STATE;
        if (!g.hasRoomFor(p)) return FULL;
        g.take(p);
        return g.partCount;
    }

    public int style(int shape, int what, int v) {
        if (job.underWay) return STATE;
        if (!isShape(shape)) return UNKNOWN;
        if (what < COLOUR || what > FINE || v < STYLE_LEAST[what] || v > STYLE_MOST[what]) return OUTSIDE;
        if (what == TEXTURE && v != NONE && !isPlane(v)) return OUTSIDE;
        Shape s = shapes[shape];
        s.style[what] = v;
        if (what == TEXTURE) s.texture = v == NONE ? null : planes[v];
        if (what == PIECES) s.trace();
        return 1;
    }

    public int stop(int shape, int place, int colour) {
        if (job.underWay) return STATE;
        if (!isShape(shape)) return UNKNOWN;
        Pairs stops = shapes[shape].stops;
        if (place < 0 || place > PLACE_MOST) return OUTSIDE;
        if (stops.count > 0 && place <= stops.x[stops.count - 1]) return OUTSIDE;
        if (stops.isFull()) return FULL;
        stops.add(place, colour);
        return stops.count;
    }

    public int glyph(int glyph, long bits, int advance) {
        if (job.underWay) return STATE;
        if (!isGlyph(glyph)) return UNKNOWN;
        if (advance < 1 || advance > ADVANCE_MOST) return OUTSIDE;
        glyphs.bits[glyph] = bits;
        glyphs.advances[glyph] = advance;
        return 1;
    }

    public int say(int shape, int glyph) {
        if (job.underWay) return STATE;
        if (!isShape(shape) || !isGlyph(glyph)) return UNKNOWN;
        Shape s = shapes[shape];
        if (s.sort != TEXT) return OUTSIDE;
        if (s.letterCount >= LETTERS_MOST) return FULL;
        s.letters[s.letterCount] = glyph;
        s.letterCount++;
        return s.letterCount;
    }

    // ---- changes: painting, copies, acts

    public int begin(int plane, int depth, int shape, int way) {
        int units = start(plane, depth, shape, way);
        if (units >= 0) settle();
        return units;
    }

    public int paint(int plane, int depth, int shape, int way) {
        int units = start(plane, depth, shape, way);
        if (units >= 0) {
            job.run(units);
            settle();
        }
        return units;
    }

    public int copy(int from, int x, int y, int w, int h, int to, int u, int v) {
        if (job.underWay) return clean(STATE);
        if (!isDot(from, x, y) || !isDot(to, u, v)) return clean(UNKNOWN);
        Plane a = planes[from];
        Plane b = planes[to];
        if (!a.holds(x, y, w, h) || !b.holds(u, v, w, h)) return clean(OUTSIDE);
        if (spent + COPY_UNITS > UNITS_MOST) return clean(FULL);
        rowsCopied = 0;
        if (a.kind != b.kind) return fail(CAST);
        spent += COPY_UNITS;
        boolean lastFirst = from == to && v > y;
        int fault = 0;
        for (int i = 0; i < h && fault == 0; i++) {
            int line = lastFirst ? h - 1 - i : i;
            fault = lineFault(a, x, y + line, w, b, u, v + line);
            if (fault == 0) {
                carryLine(a, x, y + line, w, b, u, v + line);
                rowsCopied++;
            }
        }
        history.close();
        if (fault != 0) return fail(fault == CAST ? STORE : INDEX);
        return clean(h);
    }

    public int grade(int plane, int what) {
        if (job.underWay) return clean(STATE);
        if (!isPlane(plane)) return clean(UNKNOWN);
        if (what < 0 || what > 7) return clean(OUTSIDE);
        Plane p = planes[plane];
        if (p.kind < GLOWS) return fail(CAST);
        int changed = 0;
        for (int y = 0; y < p.height; y++) {
            for (int x = 0; x < p.width; x++) {
                int t = p.tileOf(x, y);
                if (p.tiles[t] == null || p.faultAt(x, y) != 0) continue;
                if (history.writable(p, t).gradeCell(Plane.cellOf(x, y), what)) changed++;
            }
        }
        history.close();
        return clean(changed);
    }

    public int mask(int plane, int by, long v) {
        if (job.underWay) return clean(STATE);
        if (!isPlane(plane) || !isPlane(by)) return clean(UNKNOWN);
        Plane p = planes[plane];
        Plane m = planes[by];
        if (plane == by || !p.isAsLargeAs(m)) return clean(STATE);
        if (m.kind != MASKS) return fail(CAST);
        int changed = 0;
        for (int y = 0; y < p.height; y++) {
            for (int x = 0; x < p.width; x++) {
                if (p.faultAt(x, y) != 0 || m.faultAt(x, y) != 0 || m.wordAt(x, y) != 1) continue;
                history.writable(p, p.tileOf(x, y)).setWord(Plane.cellOf(x, y), v);
                changed++;
            }
        }
        history.close();
        return clean(changed);
    }

    public int undo() {
        if (job.underWay || history.standing == 0) return STATE;
        history.takeBack();
        return history.standing;
    }

    public int redo() {
        if (job.underWay || history.standing == history.kept) return STATE;
        history.doAgain();
        return history.kept - history.standing;
    }

    // ---- the job

    public int go(int n) {
        if (!job.underWay) return STATE;
        if (n < 0 || n > GO_MOST) return OUTSIDE;
        int now = job.run(n);
        settle();
        return now;
    }

    public int halt() {
        if (!job.underWay) return STATE;
        endJob();
        return job.total - job.finished;
    }

    public int done(int what) {
        switch (what) {
            case 0: return job.finished;
            case 1: return job.total - job.finished;
            case 2: return job.written;
            case 3: return job.behind;
            case 4: return job.missed;
            case 5: return job.underWay ? 1 : 0;
            default: return OUTSIDE;
        }
    }

    // ---- what is told

    public long dot(int plane, int x, int y) {
        lastFault = 0;
        if (!isDot(plane, x, y)) return 0;
        lastFault = planes[plane].faultAt(x, y);
        return lastFault != 0 ? 0 : planes[plane].wordAt(x, y);
    }

    public double glow(int plane, int x, int y) {
        if (!isDot(plane, x, y) || planes[plane].faultAt(x, y) != 0) return 0.0;
        return planes[plane].numberAt(x, y);
    }

    public int sort(int plane, int x, int y) {
        if (!isDot(plane, x, y)) return clean(UNKNOWN);
        int fault = planes[plane].faultAt(x, y);
        if (fault != 0) return fail(fault);
        return clean(planes[plane].sortAt(x, y));
    }

    public int size(int plane, int what) {
        if (!isPlane(plane)) return UNKNOWN;
        switch (what) {
            case 0: return planes[plane].kind;
            case 1: return planes[plane].width;
            case 2: return planes[plane].height;
            case 3: return planes[plane].rowCount();
            default: return OUTSIDE;
        }
    }

    public int row(int plane, int x, int y, int what) {
        if (!isTile(plane, x, y)) return UNKNOWN;
        if (what != 0 && what != 1) return OUTSIDE;
        Plane p = planes[plane];
        Row r = p.tiles[y * p.across + x];
        if (r == null) return NONE;
        return what == 0 ? r.kind : r.count;
    }

    public int look(int shape, int what) {
        if (!isShape(shape)) return UNKNOWN;
        Shape s = shapes[shape];
        switch (what) {
            case 0: return s.sort;
            case 1: return s.points.count;
            case 2: return s.partCount;
            case 3: return s.letterCount;
            case 4: return s.stops.count;
            case 5: return s.leaves;
            case 6: return s.within;
            case 7: return s.deep;
            case 8: return s.offsetX;
            case 9: return s.offsetY;
            case 10: return weightOf(shape);
            case 11: return rankOf(shape);
            default: return what >= 20 && what <= 20 + FINE ? s.style[what - 20] : OUTSIDE;
        }
    }

    public int at(int shape, int i, int axis) {
        if (!isShape(shape)) return UNKNOWN;
        Pairs points = shapes[shape].points;
        if (i < 0 || i >= points.count) return UNKNOWN;
        if (axis != 0 && axis != 1) return OUTSIDE;
        return axis == 0 ? points.x[i] : points.y[i];
    }

    public int covered(int shape, int x, int y) {
        if (!isShape(shape)) return UNKNOWN;
        if (!isSeat(x) || !isSeat(y)) return OUTSIDE;
        asked.gather(shapes[shape]);
        int many = 0;
        for (int k = 0; k < SAMPLES; k++) {
            if (asked.lastOver(Leaf.sampleX(x, k), Leaf.sampleY(y, k)) != NONE) many++;
        }
        return many;
    }

    public int hit(int shape, int a, int b) {
        if (!isShape(shape)) return UNKNOWN;
        if (!isPlace(a) || !isPlace(b)) return OUTSIDE;
        asked.gather(shapes[shape]);
        return asked.lastOver(a, b);
    }

    public int bounds(int shape, int what) {
        if (!isShape(shape)) return UNKNOWN;
        measureTo(shape);
        Box box = shapes[shape].box;
        switch (what) {
            case 0: return box.x0;
            case 1: return box.y0;
            case 2: return box.x1;
            case 3: return box.y1;
            case 4: return box.isEmpty() ? 1 : 0;
            default: return OUTSIDE;
        }
    }

    public int colour(int shape, int x, int y) {
        if (!isShape(shape) || shapes[shape].isNest() || !isSeat(x) || !isSeat(y)) return 0;
        asked.gather(shapes[shape]);
        return asked.count == 1 ? asked.list[0].colourAt(x, y) : 0;
    }

    public int copied() {
        return rowsCopied;
    }

    public int compare(int a, int b, int what) {
        if (!isPlane(a) || !isPlane(b)) return UNKNOWN;
        Plane p = planes[a];
        Plane q = planes[b];
        if (!p.isAsLargeAs(q)) return STATE;
        if (what != 0 && what != 1) return OUTSIDE;
        int many = 0;
        int first = NONE;
        for (int y = 0; y < p.height; y++) {
            for (int x = 0; x < p.width; x++) {
                if (p.tellsAs(q, x, y)) continue;
                if (many == 0) first = 32 * y + x;
                many++;
            }
        }
        return what == 0 ? many : first;
    }

    public long digest(int plane) {
        if (!isPlane(plane)) return 0;
        Plane p = planes[plane];
        long h = 7;
        for (int y = 0; y < p.height; y++) {
            for (int x = 0; x < p.width; x++) {
                int fault = p.faultAt(x, y);
                h = 31 * h + (fault != 0 ? -1 - fault : p.wordAt(x, y));
            }
        }
        return h;
    }

    public int finding() {
        return lastFault;
    }

    public int told(int what) {
        switch (what) {
            case 0: return planeCount;
            case 1: return shapeCount;
            case 2: return history.standing;
            case 3: return history.kept - history.standing;
            case 4: return spent;
            case 5: return job.underWay ? 1 : 0;
            default: return OUTSIDE;
        }
    }

    // ---- what the calls share

    /** An answer, or a refusal, of a call that names faults and came to none. */
    private int clean(int answer) {
        lastFault = 0;
        return answer;
    }

    private int fail(int fault) {
        lastFault = fault;
        return -10 - fault;
    }

    private boolean isPlane(int plane) {
        return plane >= 0 && plane < planeCount;
    }

    private boolean isDot(int plane, int x, int y) {
        return isPlane(plane) && x >= 0 && x < planes[plane].width && y >= 0 && y < planes[plane].height;
    }

    private boolean isTile(int plane, int x, int y) {
        return isPlane(plane) && x >= 0 && x < planes[plane].across && y >= 0 && y < planes[plane].down;
    }

    private boolean isShape(int shape) {
        return shape >= 0 && shape < shapeCount;
    }

    private static boolean isKind(int kind) {
        return kind >= MASKS && kind <= LIGHTS;
    }

    private static boolean isGlyph(int glyph) {
        return glyph >= 0 && glyph < GLYPHS_MOST;
    }

    private static boolean isPlace(long v) {
        return v >= POINT_LEAST && v <= POINT_MOST;
    }

    /** Whether some plane could have a dot there. */
    private static boolean isSeat(int v) {
        return v >= 0 && v < SIDE_MOST;
    }

    private static int held(int v, int least, int most) {
        return v < least ? least : v > most ? most : v;
    }

    /** Begins a job without doing any of it: its units, or a refusal. */
    private int start(int plane, int depth, int shape, int way) {
        if (job.underWay) return STATE;
        if (!isPlane(plane) || depth != NONE && !isPlane(depth) || !isShape(shape)) return UNKNOWN;
        if (way != 0 && way != 1) return OUTSIDE;
        Plane target = planes[plane];
        Plane deep = depth == NONE ? null : planes[depth];
        if (deep != null && (depth == plane || !deep.servesAsDepthOf(target))) return STATE;
        job.leaves.gather(shapes[shape]);
        if (job.leaves.show(plane) || deep != null && job.leaves.show(depth)) return STATE;
        int units = job.leaves.count * target.tiles.length;
        if (spent + units > UNITS_MOST) return FULL;
        spent += units;
        job.open(target, deep, way, units);
        return units;
    }

    /** Ends the job, if nothing of it is left. */
    private void settle() {
        if (job.underWay && job.finished >= job.total) endJob();
    }

    private void endJob() {
        job.underWay = false;
        history.close();
    }

    /** The first fault of a line of dots and of where it goes, by pairs. */
    private int lineFault(Plane a, int x, int y, int w, Plane b, int u, int v) {
        for (int i = 0; i < w; i++) {
            int fault = a.faultAt(x + i, y);
            if (fault == 0) fault = b.faultAt(u + i, v);
            if (fault != 0) return fault;
        }
        return 0;
    }

    /** A line goes by way of a row of its own, since the two lines may overlap. */
    private void carryLine(Plane a, int x, int y, int w, Plane b, int u, int v) {
        carried.become(a.kind, w);
        for (int i = 0; i < w; i++) carried.setCell(i, a.rowFor(x + i, y), a.cellFor(x + i, y));
        for (int i = 0; i < w; i++) {
            history.writable(b, b.tileOf(u + i, v)).setCell(Plane.cellOf(u + i, v), carried, i);
        }
    }

    /** Parts bear lesser numbers, so one pass from below finds them measured already. */
    private void measureTo(int shape) {
        for (int i = 0; i <= shape && i < shapeCount; i++) shapes[i].measure();
    }

    private int weightOf(int shape) {
        for (int i = 0; i <= shape && i < shapeCount; i++) weights[i] = shapes[i].weigh(weights);
        return weights[shape];
    }

    private int rankOf(int shape) {
        if (shapes[shape].sort == PICTURE) return 99;
        return shapes[shape].isNest() ? 200 - weightOf(shape) : 10 + weightOf(shape);
    }

    /**
     * Up to 64 cells of one kind. Floats are held as the doubles that they equal;
     * what is no number is held as a mark beside the cell, so that none is ever reckoned with.
     */
    static final class Row {
        int kind;
        int count;
        long[] wholes;
        double[] reals;
        long lost;
        Row next;

        /** All cells 0. */
        void become(int newKind, int cells) {
            shapeAs(newKind, cells);
            lost = 0;
            if (kind < GLOWS) Arrays.fill(wholes, 0L);
            else Arrays.fill(reals, 0.0);
        }

        void copyFrom(Row other) {
            shapeAs(other.kind, other.count);
            lost = other.lost;
            if (kind < GLOWS) System.arraycopy(other.wholes, 0, wholes, 0, CELLS);
            else System.arraycopy(other.reals, 0, reals, 0, CELLS);
        }

        /** All 64 cells as the first of another row, which is a number. */
        void fillFrom(Row other) {
            shapeAs(other.kind, CELLS);
            lost = 0;
            if (kind < GLOWS) Arrays.fill(wholes, other.wholes[0]);
            else Arrays.fill(reals, other.reals[0]);
        }

        /** Rows are used again for other kinds, so each array comes when it is first needed. */
        private void shapeAs(int newKind, int cells) {
            kind = newKind;
            count = cells;
            if (kind < GLOWS && wholes == null) wholes = new long[CELLS];
            if (kind >= GLOWS && reals == null) reals = new double[CELLS];
        }

        boolean isLost(int cell) {
            return (lost >>> cell & 1L) != 0;
        }

        void lose(int cell) {
            lost |= 1L << cell;
            reals[cell] = 0.0;
        }

        /** A float times 8 is the same in doubles, but for what a long can't hold either way. */
        long wordOf(int cell) {
            if (kind < GLOWS) return wholes[cell];
            return isLost(cell) ? 0 : (long) (reals[cell] * 8.0);
        }

        double numberOf(int cell) {
            if (kind < GLOWS) return (double) wholes[cell];
            return isLost(cell) ? 0.0 : reals[cell];
        }

        int sortOf(int cell) {
            if (kind < GLOWS) return 0;
            if (isLost(cell)) return 3;
            if (!isInfinite(reals[cell])) return 0;
            return reals[cell] > 0 ? 1 : 2;
        }

        void setWord(int cell, long v) {
            switch (kind) {
                case MASKS: wholes[cell] = v != 0 ? 1 : 0; break;
                case GREYS: wholes[cell] = v & 255; break;
                case DEPTHS: wholes[cell] = (short) v; break;
                case CODES: wholes[cell] = v & 65535; break;
                case COLOURS: wholes[cell] = (int) v; break;
                case SUMS: wholes[cell] = v; break;
                case GLOWS: setReal(cell, (double) ((float) v / 8.0f)); break;
                default: setReal(cell, (double) v / 8.0);
            }
        }

        void setReal(int cell, double v) {
            reals[cell] = v;
            lost &= ~(1L << cell);
        }

        /** A whole number as it is, not by eighths. */
        void setNumber(int cell, int v) {
            if (kind < GLOWS) wholes[cell] = v;
            else setReal(cell, v);
        }

        void setCell(int cell, Row other, int from) {
            if (kind < GLOWS) {
                wholes[cell] = other.wholes[from];
            } else if (other.isLost(from)) {
                lose(cell);
            } else {
                setReal(cell, other.reals[from]);
            }
        }

        /** Whether the cell is another one then; what is no number is unlike itself. */
        boolean gradeCell(int cell, int what) {
            if (isLost(cell)) return true;
            double v = reals[cell];
            double then = rounded(graded(v, what));
            reals[cell] = then;
            return then != v;
        }

        private static double graded(double v, int what) {
            switch (what) {
                case 0: return wholeBelow(v);
                case 1: return -wholeBelow(-v);
                case 2: return nearestWhole(v);
                case 3: return v > 0 ? 1.0 : v < 0 ? -1.0 : v;
                case 4: return unsigned(v);
                case 5: return -v;
                case 6: return v / 2;
                default: return v * 2;
            }
        }

        /** From 2^52 on all doubles are whole; 0.0 and -0.0 stay themselves. */
        private static boolean isWholeAlready(double v) {
            return v == 0 || v >= 4503599627370496.0 || v <= -4503599627370496.0;
        }

        private static double wholeBelow(double v) {
            if (isWholeAlready(v)) return v;
            double cut = (double) (long) v;
            return cut > v ? cut - 1 : cut;
        }

        /** By way of the number without sign, whose part behind the point comes out exact. */
        private static double nearestWhole(double v) {
            if (isWholeAlready(v)) return v;
            double plain = unsigned(v);
            long below = (long) plain;
            double part = plain - (double) below;
            boolean up = part > 0.5 || part == 0.5 && below % 2 == 1;
            double whole = (double) (up ? below + 1 : below);
            return v < 0 ? -whole : whole;
        }

        private static double unsigned(double v) {
            return v <= 0 ? 0.0 - v : v;
        }

        static boolean isInfinite(double v) {
            return v > 1.7976931348623157E308 || v < -1.7976931348623157E308;
        }

        /** Each single step in doubles, cut to a float, is what the step in floats gives. */
        private double rounded(double v) {
            return kind == GLOWS ? (double) (float) v : v;
        }

        /**
         * From an infinite number all ways end in no number (it is taken from itself in the end),
         * from others only the rest by 0 does.
         */
        void mixLight(int cell, int mode, int light, int c) {
            double v = reals[cell];
            if (isLost(cell) || isInfinite(v) || mode == 11 && light == 0) {
                setReal(cell, -1.0);
                return;
            }
            double b = blendedLight(mode, v, light / 8.0);
            double step = rounded(rounded(b - v) * (c / 16.0));
            setReal(cell, rounded(v + step));
        }

        private double blendedLight(int mode, double v, double l) {
            switch (mode) {
                case 0: return l;
                case 1: return v;
                case 2: return rounded(v + l);
                case 3: return rounded(v - l);
                case 4: return rounded(v * l);
                case 5: return rounded(rounded(v + l) - rounded(v * l));
                case 6: return v <= l ? v : l;
                case 7: return v > l ? v : l;
                case 8: return unsigned(rounded(v - l));
                case 9: return l < 0 ? -unsigned(v) : unsigned(v);
                case 10: return rounded(rounded(v + l) / 2);
                default: return restOf(v, l);
            }
        }

        /** The rest by long division: each taking away is exact, as it is at least half of what is there. */
        private static double restOf(double v, double l) {
            double rest = unsigned(v);
            double by = unsigned(l);
            double step = by;
            for (int i = 0; i < 1100 && step <= rest / 2; i++) step = step * 2;
            for (int i = 0; i <= 1100 && step >= by; i++) {
                if (rest >= step) rest = rest - step;
                step = step / 2;
            }
            return v < 0 ? -rest : v == 0 ? v : rest;
        }

        static int mixColour(int mode, int source, int under, int c) {
            int mixed = 0;
            for (int shift = 0; shift < 32; shift += 8) {
                mixed |= mixByte(mode, source >>> shift & 255, under >>> shift & 255, c) << shift;
            }
            return mixed;
        }

        static int mixByte(int mode, int s, int d, int c) {
            return (d * (16 - c) + blendedByte(mode, s, d) * c + 8) / 16;
        }

        private static int blendedByte(int mode, int s, int d) {
            switch (mode) {
                case 0: return s;
                case 1: return d;
                case 2: return Math.min(s + d, 255);
                case 3: return Math.max(d - s, 0);
                case 4: return (s * d + 127) / 255;
                case 5: return 255 - ((255 - s) * (255 - d) + 127) / 255;
                case 6: return Math.min(s, d);
                case 7: return Math.max(s, d);
                case 8: return Math.abs(s - d);
                case 9: return s ^ d;
                case 10: return (s + d + 1) / 2;
                default:
                    return s < 128 ? (2 * s * d + 127) / 255 : 255 - (2 * (255 - s) * (255 - d) + 127) / 255;
            }
        }
    }

    /** Dots by tiles; a tile that is null is nothing, and its dots tell the blank. */
    static final class Plane {
        final int number;
        final int kind;
        final int width;
        final int height;
        final int across;
        final int down;
        final Row[] tiles;
        final Row blankRow;

        Plane(int number, int kind, int width, int height) {
            this.number = number;
            this.kind = kind;
            this.width = width;
            this.height = height;
            across = (width + 7) / 8;
            down = (height + 7) / 8;
            tiles = new Row[across * down];
            blankRow = new Row();
            blankRow.become(kind, 1);
        }

        int tileOf(int x, int y) {
            return y / 8 * across + x / 8;
        }

        static int cellOf(int x, int y) {
            return y % 8 * 8 + x % 8;
        }

        int faultAt(int x, int y) {
            Row r = tiles[tileOf(x, y)];
            if (r == null) return 0;
            if (r.kind != kind) return CAST;
            return cellOf(x, y) < r.count ? 0 : INDEX;
        }

        /** The row that tells a dot which is no hole, and (cellFor) its cell there. */
        Row rowFor(int x, int y) {
            Row r = tiles[tileOf(x, y)];
            return r == null ? blankRow : r;
        }

        int cellFor(int x, int y) {
            return tiles[tileOf(x, y)] == null ? 0 : cellOf(x, y);
        }

        long wordAt(int x, int y) {
            return rowFor(x, y).wordOf(cellFor(x, y));
        }

        double numberAt(int x, int y) {
            return rowFor(x, y).numberOf(cellFor(x, y));
        }

        int sortAt(int x, int y) {
            return rowFor(x, y).sortOf(cellFor(x, y));
        }

        boolean tellsAs(Plane other, int x, int y) {
            int fault = faultAt(x, y);
            if (fault != other.faultAt(x, y)) return false;
            return fault != 0 || wordAt(x, y) == other.wordAt(x, y);
        }

        /** As a texture, of colours or greys: a hole shows the blank, a grey shows in all four bytes. */
        int textureAt(int x, int y) {
            Row r = tiles[tileOf(x, y)];
            int cell = cellOf(x, y);
            boolean tells = r != null && r.kind == kind && cell < r.count;
            int word = (int) (tells ? r.wholes[cell] : blankRow.wholes[0]);
            return kind == GREYS ? word * 0x01010101 : word;
        }

        int rowCount() {
            int many = 0;
            for (Row r : tiles) {
                if (r != null) many++;
            }
            return many;
        }

        boolean holds(int x, int y, int w, int h) {
            return w >= 1 && w <= SIDE_MOST && h >= 1 && h <= SIDE_MOST && x + w <= width && y + h <= height;
        }

        boolean isAsLargeAs(Plane other) {
            return width == other.width && height == other.height;
        }

        boolean servesAsDepthOf(Plane other) {
            return (kind == DEPTHS || kind == GLOWS || kind == LIGHTS) && isAsLargeAs(other);
        }
    }

    /** The tiles that an act changed, each as it is on the act's other side. */
    static final class Act {
        final Plane[] planes = new Plane[ACT_TILES_MOST];
        final int[] tiles = new int[ACT_TILES_MOST];
        final Row[] rows = new Row[ACT_TILES_MOST];
        int count;

        void add(Plane plane, int tile, Row row) {
            planes[count] = plane;
            tiles[count] = tile;
            rows[count] = row;
            count++;
        }

        /** Goes over to the act's other side: back, or forth again. */
        void swap() {
            for (int i = 0; i < count; i++) {
                Row now = planes[i].tiles[tiles[i]];
                planes[i].tiles[tiles[i]] = rows[i];
                rows[i] = now;
            }
        }
    }

    /**
     * The acts that can be taken back or done again, and the one that is open. Each row belongs to
     * one tile or one act alone, so that rows which are let go can be used again.
     */
    static final class History {
        final Act[] acts;
        final boolean[] saved;
        Act current;
        int kept;
        int standing;
        Row spare;

        History() {
            acts = new Act[ACTS_MOST];
            for (int i = 0; i < ACTS_MOST; i++) acts[i] = new Act();
            saved = new boolean[PLANES_MOST * TILES_MOST];
            current = new Act();
        }

        /** The row of a tile that is to be written, made of the blank if the tile is nothing. */
        Row writable(Plane plane, int tile) {
            save(plane, tile);
            if (plane.tiles[tile] == null) {
                Row made = takeRow();
                made.fillFrom(plane.blankRow);
                plane.tiles[tile] = made;
            }
            return plane.tiles[tile];
        }

        /** The row of a tile that is to become another one wholly. */
        Row renew(Plane plane, int tile) {
            save(plane, tile);
            if (plane.tiles[tile] == null) plane.tiles[tile] = takeRow();
            return plane.tiles[tile];
        }

        /** The tile becomes nothing: whether it was something. */
        boolean remove(Plane plane, int tile) {
            if (plane.tiles[tile] == null) return false;
            save(plane, tile);
            letGo(plane.tiles[tile]);
            plane.tiles[tile] = null;
            return true;
        }

        private void save(Plane plane, int tile) {
            int slot = plane.number * TILES_MOST + tile;
            if (saved[slot] || current.count >= ACT_TILES_MOST) return;
            saved[slot] = true;
            Row before = null;
            if (plane.tiles[tile] != null) {
                before = takeRow();
                before.copyFrom(plane.tiles[tile]);
            }
            current.add(plane, tile, before);
        }

        private Row takeRow() {
            if (spare == null) return new Row();
            Row taken = spare;
            spare = taken.next;
            taken.next = null;
            return taken;
        }

        private void letGo(Row row) {
            if (row == null) return;
            row.next = spare;
            spare = row;
        }

        /** What was open is an act from now on; those taken back are forgotten. */
        void close() {
            for (int i = standing; i < kept; i++) forget(acts[i]);
            kept = standing;
            if (kept >= ACTS_MOST) dropOldest();
            for (int i = 0; i < current.count; i++) {
                saved[current.planes[i].number * TILES_MOST + current.tiles[i]] = false;
            }
            Act fresh = acts[kept];
            acts[kept] = current;
            current = fresh;
            kept++;
            standing = kept;
        }

        private void dropOldest() {
            Act oldest = acts[0];
            forget(oldest);
            for (int i = 1; i < ACTS_MOST; i++) acts[i - 1] = acts[i];
            acts[ACTS_MOST - 1] = oldest;
            kept = ACTS_MOST - 1;
        }

        private void forget(Act act) {
            for (int i = 0; i < act.count; i++) {
                letGo(act.rows[i]);
                act.rows[i] = null;
            }
            act.count = 0;
        }

        void takeBack() {
            if (standing <= 0) return;
            standing--;
            acts[standing].swap();
        }

        void doAgain() {
            if (standing >= kept) return;
            acts[standing].swap();
            standing++;
        }
    }

    /** Pairs of numbers in turn: points, or the places of stops with their colours. */
    static final class Pairs {
        final int[] x;
        final int[] y;
        int count;

        Pairs(int most) {
            x = new int[most];
            y = new int[most];
        }

        boolean isFull() {
            return count >= x.length;
        }

        void add(int a, int b) {
            if (isFull()) return;
            x[count] = a;
            y[count] = b;
            count++;
        }
    }

    /** From x0, y0 up to ahead of x1, y1; all 0 if it is empty. */
    static final class Box {
        int x0;
        int y0;
        int x1;
        int y1;

        boolean isEmpty() {
            return x0 >= x1 || y0 >= y1;
        }

        void set(int left, int top, int right, int bottom) {
            boolean empty = left >= right || top >= bottom;
            x0 = empty ? 0 : left;
            y0 = empty ? 0 : top;
            x1 = empty ? 0 : right;
            y1 = empty ? 0 : bottom;
        }

        void setMoved(Box other, int dx, int dy) {
            set(other.x0 + dx, other.y0 + dy, other.x1 + dx, other.y1 + dy);
        }

        void setAround(Pairs points, int more, int behind) {
            int left = POINT_MOST;
            int top = POINT_MOST;
            int right = POINT_LEAST;
            int bottom = POINT_LEAST;
            for (int i = 0; i < points.count; i++) {
                left = Math.min(left, points.x[i]);
                top = Math.min(top, points.y[i]);
                right = Math.max(right, points.x[i]);
                bottom = Math.max(bottom, points.y[i]);
            }
            set(left - more, top - more, right + more + behind, bottom + more + behind);
        }

        void unite(Box other) {
            if (other.isEmpty()) return;
            if (isEmpty()) {
                setMoved(other, 0, 0);
                return;
            }
            set(Math.min(x0, other.x0), Math.min(y0, other.y0), Math.max(x1, other.x1), Math.max(y1, other.y1));
        }

        void setCommon(Box a, Box b) {
            set(Math.max(a.x0, b.x0), Math.max(a.y0, b.y0), Math.min(a.x1, b.x1), Math.min(a.y1, b.y1));
        }
    }

    static final class Glyphs {
        final long[] bits = new long[GLYPHS_MOST];
        final int[] advances = new int[GLYPHS_MOST];

        Glyphs() {
            Arrays.fill(advances, 8);
        }
    }

    static final class Shape {
        final int number;
        final int sort;
        final Glyphs glyphs;
        final int[] style;
        final Pairs points;
        final Pairs outline;
        final Pairs stops;
        final int[] letters;
        int letterCount;
        final Shape[] parts;
        int partCount;
        int offsetX;
        int offsetY;
        int within;
        int deep;
        int leaves;
        int frames;
        boolean isPart;
        Plane texture;
        final Box box;

        Shape(int number, int sort, Glyphs glyphs) {
            this.number = number;
            this.sort = sort;
            this.glyphs = glyphs;
            style = STYLE_FIRST.clone();
            points = new Pairs(POINTS_MOST[sort]);
            outline = new Pairs(OUTLINE_MOST);
            stops = new Pairs(STOPS_MOST);
            letters = new int[LETTERS_MOST];
            parts = new Shape[sort == GROUP ? 8 : sort == CLIP ? 2 : 0];
            deep = sort >= GROUP ? 1 : 0;
            leaves = sort >= GROUP ? 0 : 1;
            box = new Box();
        }

        boolean isNest() {
            return sort >= GROUP;
        }

        boolean mayMove(long dx, long dy) {
            if (isNest()) {
                return Math.abs(offsetX + dx) <= OFFSET_MOST && Math.abs(offsetY + dy) <= OFFSET_MOST;
            }
            for (int i = 0; i < points.count; i++) {
                if (!isPlace(points.x[i] + dx) || !isPlace(points.y[i] + dy)) return false;
            }
            return true;
        }

        void shift(int dx, int dy) {
            if (isNest()) {
                offsetX += dx;
                offsetY += dy;
            }
            for (int i = 0; i < points.count; i++) {
                points.x[i] += dx;
                points.y[i] += dy;
            }
        }

        boolean wantsFrame() {
            return sort == CLIP && partCount == 0;
        }

        boolean hasRoomFor(Shape part) {
            return partCount < parts.length
                && within + 1 + part.within <= WITHIN_MOST
                && 1 + part.deep <= DEEP_MOST
                && framesWith(part) <= FRAMES_MOST;
        }

        /** How many frames a leaf has at most with one more part; where there is no leaf, none has any. */
        private int framesWith(Shape part) {
            if (part.leaves == 0 || wantsFrame()) return frames;
            return Math.max(frames, sort == CLIP ? part.frames + 1 : part.frames);
        }

        void take(Shape part) {
            frames = framesWith(part);
            if (!wantsFrame()) leaves += part.leaves;
            within += 1 + part.within;
            deep = Math.max(deep, 1 + part.deep);
            parts[partCount] = part;
            partCount++;
            part.isPart = true;
        }

        private boolean hasPointsWanted() {
            return points.count >= POINTS_WANTED[sort];
        }

        /** The ring of a wedge, ring or curve, made anew when points or pieces change. */
        void trace() {
            outline.count = 0;
            if (!hasPointsWanted()) return;
            if (sort == WEDGE || sort == RING) {
                for (int i = 0; i < points.count; i++) outline.add(points.x[i], points.y[i]);
            }
            if (sort == CURVE) {
                for (int i = 0; i + 2 < points.count; i += 2) traceArc(i);
            }
        }

        private void traceArc(int first) {
            int n = style[PIECES];
            for (int i = 0; i <= n; i++) {
                outline.add(onArc(points.x, first, i, n), onArc(points.y, first, i, n));
            }
        }

        private static int onArc(int[] along, int first, int i, int n) {
            int back = n - i;
            int sum = along[first] * back * back + 2 * along[first + 1] * i * back + along[first + 2] * i * i;
            return n < 1 ? along[first] : Math.floorDiv(sum, n * n);
        }

        /** The parts of a group or clip are measured. */
        void measure() {
            switch (sort) {
                case GROUP: measureGroup(); break;
                case CLIP: measureClip(); break;
                default: measureLeaf();
            }
        }

        /** Of sorts 0 to 7. */
        void measureLeaf() {
            box.set(0, 0, 0, 0);
            if (!hasPointsWanted()) return;
            switch (sort) {
                case CURVE: box.setAround(outline, 0, 0); break;
                case STROKE: box.setAround(points, style[ENDS] == 2 ? 2 * style[HALF] : style[HALF], 1); break;
                case TEXT: measureText(); break;
                default: box.setAround(points, 0, 0);
            }
        }

        private void measureText() {
            if (letterCount == 0) return;
            int wide = 8;
            for (int i = 0; i + 1 < letterCount; i++) wide += glyphs.advances[letters[i]];
            int unit = style[UNIT];
            box.set(points.x[0], points.y[0], points.x[0] + unit * wide, points.y[0] + unit * 8);
        }

        private void measureGroup() {
            box.set(0, 0, 0, 0);
            for (int i = 0; i < partCount; i++) box.unite(parts[i].box);
            box.setMoved(box, offsetX, offsetY);
        }

        private void measureClip() {
            box.set(0, 0, 0, 0);
            if (partCount < 2 || parts[0].box.isEmpty() || parts[1].box.isEmpty()) return;
            box.setCommon(parts[0].box, parts[1].box);
            box.setMoved(box, offsetX, offsetY);
        }

        /** The weights of all lesser shapes are told. */
        int weigh(int[] weights) {
            int ring = 2 * points.count;
            switch (sort) {
                case RING: return ring;
                case BOX:
                case WEDGE: return ring + 1;
                case PICTURE: return ring + 5;
                case CURVE: return ring + style[PIECES];
                case STROKE: return style[HALF];
                case OVAL: return 7;
                case TEXT: return 3 * letterCount;
                default:
                    int sum = sort == CLIP ? -1 : 0;
                    for (int i = 0; i < partCount; i++) sum += weights[parts[i].number];
                    return sum;
            }
        }

        boolean covers(int a, int b) {
            if (!hasPointsWanted()) return false;
            switch (sort) {
                case BOX:
                case PICTURE: return boxCovers(a, b);
                case STROKE: return strokeCovers(a, b);
                case OVAL: return ovalCovers(a, b);
                case TEXT: return textCovers(a, b);
                default: return outlineCovers(a, b);
            }
        }

        /** A ring of four corners covers what lies between both along x and along y. */
        private boolean boxCovers(int a, int b) {
            return a < points.x[0] != a < points.x[1] && b < points.y[0] != b < points.y[1];
        }

        private boolean outlineCovers(int a, int b) {
            int crossings = 0;
            int turns = 0;
            int n = outline.count;
            for (int i = 0; i < n; i++) {
                int next = i + 1 < n ? i + 1 : 0;
                int way = crossing(i, next, a, b);
                if (way != 0) crossings++;
                turns += way;
            }
            boolean byTurns = style[RULE] == 1 && (sort == RING || sort == CURVE);
            return byTurns ? turns != 0 : crossings % 2 == 1;
        }

        private int crossing(int p, int q, int a, int b) {
            int py = outline.y[p];
            int qy = outline.y[q];
            boolean rising = py <= b && b < qy;
            boolean falling = qy <= b && b < py;
            if (!rising && !falling) return 0;
            int px = outline.x[p];
            long edge = (long) (outline.x[q] - px) * (b - py);
            long here = (long) (a - px) * (qy - py);
            if (rising) return edge <= here ? 1 : 0;
            return edge >= here ? -1 : 0;
        }

        private boolean ovalCovers(int a, int b) {
            long w = points.x[1] - points.x[0];
            long h = points.y[1] - points.y[0];
            long s = 2L * a - points.x[0] - points.x[1];
            long t = 2L * b - points.y[0] - points.y[1];
            return s * s * h * h + t * t * w * w < w * w * h * h;
        }

        private boolean strokeCovers(int a, int b) {
            int last = points.count - 1;
            for (int i = 0; i < last; i++) {
                if (legCovers(i, a, b)) return true;
            }
            if (style[ENDS] == 1 && (isNear(0, a, b) || isNear(last, a, b))) return true;
            if (style[JOINS] != 1) return false;
            for (int i = 1; i < last; i++) {
                if (isNear(i, a, b)) return true;
            }
            return false;
        }

        private boolean legCovers(int leg, int a, int b) {
            long ux = points.x[leg + 1] - points.x[leg];
            long uy = points.y[leg + 1] - points.y[leg];
            long vx = a - points.x[leg];
            long vy = b - points.y[leg];
            long l = ux * ux + uy * uy;
            if (l == 0) return false;
            long t = vx * ux + vy * uy;
            long c = ux * vy - uy * vx;
            long reach = (long) style[HALF] * style[HALF] * l;
            if (c * c > reach) return false;
            if (t >= 0 && t <= l) return true;
            if (style[ENDS] != 2) return false;
            if (t < 0) return leg == 0 && t * t <= reach;
            return leg + 2 == points.count && (t - l) * (t - l) <= reach;
        }

        private boolean isNear(int point, int a, int b) {
            long dx = a - points.x[point];
            long dy = b - points.y[point];
            return dx * dx + dy * dy <= (long) style[HALF] * style[HALF];
        }

        private boolean textCovers(int a, int b) {
            int unit = Math.max(style[UNIT], 1);
            int column = Math.floorDiv(a - points.x[0], unit);
            int line = Math.floorDiv(b - points.y[0], unit);
            if (line < 0 || line > 7) return false;
            for (int i = 0; i < letterCount; i++) {
                if (column >= 0 && column <= 7 && (glyphs.bits[letters[i]] >>> 63 - 8 * line - column & 1L) != 0) {
                    return true;
                }
                column -= glyphs.advances[letters[i]];
            }
            return false;
        }

        boolean showsTexture() {
            return sort == PICTURE && texture != null && (texture.kind == COLOURS || texture.kind == GREYS);
        }

        /** There is a stop at least. */
        int stopColour(int t) {
            int last = stops.count - 1;
            if (t <= stops.x[0]) return stops.y[0];
            if (t >= stops.x[last]) return stops.y[last];
            int i = 0;
            while (i + 1 < last && stops.x[i + 1] <= t) i++;
            return between(stops.y[i], stops.y[i + 1], t - stops.x[i], stops.x[i + 1] - stops.x[i]);
        }

        private static int between(int low, int high, int part, int whole) {
            if (whole < 1) return low;
            int mixed = 0;
            for (int shift = 0; shift < 32; shift += 8) {
                int sum = (low >>> shift & 255) * (whole - part) + (high >>> shift & 255) * part;
                mixed |= sum / whole << shift;
            }
            return mixed;
        }
    }

    /** A shape of sort 0 to 7 as it lies, with the frames that it is seen through. */
    static final class Leaf {
        Shape shape;
        int dx;
        int dy;
        int frameCount;
        final Shape[] frames = new Shape[FRAMES_MOST];
        final int[] frameX = new int[FRAMES_MOST];
        final int[] frameY = new int[FRAMES_MOST];
        final Box box = new Box();

        void addFrame(Shape frame, int x, int y) {
            if (frameCount >= FRAMES_MOST) return;
            frames[frameCount] = frame;
            frameX[frameCount] = x;
            frameY[frameCount] = y;
            frameCount++;
        }

        static int sampleX(int x, int k) {
            return 256 * x + 16 * k + 8;
        }

        static int sampleY(int y, int k) {
            return 256 * y + 16 * (5 * k % 16) + 8;
        }

        /** Nothing is covered beyond the bounds, which spares most of the work. */
        boolean covers(int a, int b) {
            if (a < box.x0 || a >= box.x1 || b < box.y0 || b >= box.y1) return false;
            if (!shape.covers(a - dx, b - dy)) return false;
            for (int i = 0; i < frameCount; i++) {
                if (!frames[i].covers(a - frameX[i], b - frameY[i])) return false;
            }
            return true;
        }

        boolean mayReach(int x, int y, int w, int h) {
            return 256 * x < box.x1 && 256 * (x + w) > box.x0 && 256 * y < box.y1 && 256 * (y + h) > box.y0;
        }

        int countAt(int x, int y) {
            if (!mayReach(x, y, 1, 1)) return 0;
            int many = 0;
            for (int k = 0; k < SAMPLES; k++) {
                if (covers(sampleX(x, k), sampleY(y, k))) many++;
            }
            return many;
        }

        int colourAt(int x, int y) {
            int[] style = shape.style;
            int w = box.x1 - box.x0;
            int h = box.y1 - box.y0;
            if (w < 1 || h < 1) return style[COLOUR];
            int a = 256 * x + 128 - box.x0;
            int b = 256 * y + 128 - box.y0;
            if (shape.showsTexture()) return style[FINE] == 1 ? fineTexture(a, b, w, h) : plainTexture(a, b, w, h);
            if (style[GRAIN] == 0 || shape.stops.count == 0) return style[COLOUR];
            int t = style[GRAIN] == 1 ? Math.floorDiv(a * 256, w) : Math.floorDiv(b * 256, h);
            return shape.stopColour(held(t, 0, PLACE_MOST));
        }

        /** w, h are above 0 here and in fineTexture. */
        private int plainTexture(int a, int b, int w, int h) {
            Plane p = shape.texture;
            int u = held(Math.floorDiv(a * p.width, w), 0, p.width - 1);
            int v = held(Math.floorDiv(b * p.height, h), 0, p.height - 1);
            return p.textureAt(u, v);
        }

        private int fineTexture(int a, int b, int w, int h) {
            Plane p = shape.texture;
            int across = held(Math.floorDiv(a * 256 * p.width, w) - 128, 0, 256 * (p.width - 1));
            int down = held(Math.floorDiv(b * 256 * p.height, h) - 128, 0, 256 * (p.height - 1));
            int u = across / 256;
            int v = down / 256;
            int right = Math.min(u + 1, p.width - 1);
            int below = Math.min(v + 1, p.height - 1);
            int f = across % 256;
            int g = down % 256;
            int first = p.textureAt(u, v);
            int second = p.textureAt(right, v);
            int third = p.textureAt(u, below);
            int fourth = p.textureAt(right, below);
            int mixed = 0;
            for (int shift = 0; shift < 32; shift += 8) {
                int upper = (first >>> shift & 255) * (256 - f) + (second >>> shift & 255) * f;
                int lower = (third >>> shift & 255) * (256 - f) + (fourth >>> shift & 255) * f;
                mixed |= (upper * (256 - g) + lower * g) / 65536 << shift;
            }
            return mixed;
        }
    }

    /** The leaves of a shape in order; what is made for one shape is used again for the next. */
    static final class Leaves {
        final Leaf[] list = new Leaf[WITHIN_MOST];
        int count;
        final Shape[] frames = new Shape[DEEP_MOST];
        final int[] frameX = new int[DEEP_MOST];
        final int[] frameY = new int[DEEP_MOST];
        int frameCount;

        void gather(Shape root) {
            count = 0;
            frameCount = 0;
            walk(root, 0, 0, 0);
        }

        private void walk(Shape s, int x, int y, int level) {
            if (!s.isNest()) {
                addLeaf(s, x, y);
                return;
            }
            if (level >= DEEP_MOST) return;
            int nearX = x + s.offsetX;
            int nearY = y + s.offsetY;
            if (s.sort == GROUP) {
                for (int i = 0; i < s.partCount; i++) walk(s.parts[i], nearX, nearY, level + 1);
            } else if (s.partCount == 2 && frameCount < DEEP_MOST) {
                frames[frameCount] = s.parts[0];
                frameX[frameCount] = nearX;
                frameY[frameCount] = nearY;
                frameCount++;
                walk(s.parts[1], nearX, nearY, level + 1);
                frameCount--;
            }
        }

        private void addLeaf(Shape s, int x, int y) {
            if (count >= WITHIN_MOST) return;
            if (list[count] == null) list[count] = new Leaf();
            Leaf leaf = list[count];
            count++;
            leaf.shape = s;
            leaf.dx = x;
            leaf.dy = y;
            leaf.frameCount = 0;
            s.measureLeaf();
            leaf.box.setMoved(s.box, x, y);
            for (int i = 0; i < frameCount; i++) leaf.addFrame(frames[i], frameX[i], frameY[i]);
        }

        /** The number of the last leaf that covers a point. */
        int lastOver(int a, int b) {
            for (int i = count - 1; i >= 0; i--) {
                if (list[i].covers(a, b)) return list[i].shape.number;
            }
            return NONE;
        }

        /** Whether a picture among them has a plane as its texture. */
        boolean show(int plane) {
            for (int i = 0; i < count; i++) {
                Shape s = list[i].shape;
                if (s.sort == PICTURE && s.style[TEXTURE] == plane) return true;
            }
            return false;
        }
    }

    /** The painting under way, or the latest one: only its counts are of use then. */
    static final class Job {
        final History history;
        final Leaves leaves;
        Plane target;
        Plane depth;
        int way;
        int total;
        int finished;
        int written;
        int behind;
        int missed;
        boolean underWay;

        Job(History history) {
            this.history = history;
            leaves = new Leaves();
        }

        /** Its leaves are gathered already. */
        void open(Plane newTarget, Plane newDepth, int newWay, int units) {
            target = newTarget;
            depth = newDepth;
            way = newWay;
            total = units;
            finished = 0;
            written = 0;
            behind = 0;
            missed = 0;
            underWay = true;
        }

        int run(int most) {
            int now = Math.min(most, total - finished);
            for (int i = 0; i < now; i++) {
                paintUnit(finished);
                finished++;
            }
            return now;
        }

        private void paintUnit(int unit) {
            int tiles = target.tiles.length;
            if (tiles < 1 || leaves.count < 1) return;
            int tile = way == 0 ? unit % tiles : unit / leaves.count;
            Leaf leaf = leaves.list[way == 0 ? unit / tiles : unit % leaves.count];
            int left = tile % target.across * 8;
            int top = tile / target.across * 8;
            if (!leaf.mayReach(left, top, 8, 8)) return;
            int right = Math.min(left + 8, target.width);
            int bottom = Math.min(top + 8, target.height);
            for (int y = top; y < bottom; y++) {
                for (int x = left; x < right; x++) {
                    int c = leaf.countAt(x, y);
                    if (c > 0 && comesThrough(leaf.shape.style, x, y, c)) write(leaf, x, y, c);
                }
            }
        }

        /** Whether a leaf comes on to the plane at a dot: no hole there, and nothing ahead of it. */
        private boolean comesThrough(int[] style, int x, int y, int c) {
            if (target.faultAt(x, y) != 0 || depth != null && depth.faultAt(x, y) != 0) {
                missed++;
                return false;
            }
            if (depth == null) return true;
            if (!passes(style, x, y)) {
                behind++;
                return false;
            }
            if (c >= ENOUGH) {
                history.writable(depth, depth.tileOf(x, y)).setNumber(Plane.cellOf(x, y), style[DEPTH]);
            }
            return true;
        }

        private boolean passes(int[] style, int x, int y) {
            if (depth.sortAt(x, y) == 3) return false;
            double e = depth.numberAt(x, y);
            switch (style[TEST]) {
                case 0: return style[DEPTH] < e;
                case 1: return style[DEPTH] <= e;
                default: return true;
            }
        }

        private boolean isEnough(int mode, int c) {
            if (target.kind == MASKS) return c >= ENOUGH || mode % 4 == 3;
            return c >= ENOUGH || target.kind != DEPTHS && target.kind != CODES;
        }

        private void write(Leaf leaf, int x, int y, int c) {
            int[] style = leaf.shape.style;
            int mode = style[MODE];
            if (!isEnough(mode, c)) return;
            written++;
            Row r = history.writable(target, target.tileOf(x, y));
            int cell = Plane.cellOf(x, y);
            switch (target.kind) {
                case MASKS: r.wholes[cell] = masked(mode % 4, r.wholes[cell]); break;
                case GREYS:
                    r.wholes[cell] = Row.mixByte(mode, leaf.colourAt(x, y) & 255, (int) r.wholes[cell], c);
                    break;
                case DEPTHS: r.wholes[cell] = style[DEPTH]; break;
                case CODES: r.wholes[cell] = style[CODE]; break;
                case COLOURS:
                    r.wholes[cell] = Row.mixColour(mode, leaf.colourAt(x, y), (int) r.wholes[cell], c);
                    break;
                case SUMS: r.wholes[cell] += (long) c * leaf.colourAt(x, y); break;
                default: r.mixLight(cell, mode, style[LIGHT], c);
            }
        }

        private static long masked(int mode, long was) {
            if (mode == 1) return 0;
            return mode == 2 ? 1 - was : 1;
        }
    }
}
