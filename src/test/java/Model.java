import java.util.ArrayList;
import java.util.List;

/**
 * The document once more, written as literally as can be and with all of the Java library:
 * rows are the machine's own arrays, no number is NaN, each act keeps all tiles of all planes.
 * ModelTest holds the class against it. It checks nothing for speed or room.
 */
public final class Model {
    static final int UNKNOWN = -1, OUTSIDE = -2, STATE = -3, FULL = -4, NONE = -9;

    static final class P {
        int kind, w, h;
        Object blank;
        Object[][] tiles;
    }

    static final class S {
        int no, sort, ox, oy;
        boolean part;
        List<int[]> points = new ArrayList<>();
        List<S> parts = new ArrayList<>();
        List<Integer> letters = new ArrayList<>();
        List<int[]> stops = new ArrayList<>();
        int[] style = {0, 0, 0, 0, 0, 128, 0, 0, 0, 4, 0, 8, 64, NONE, 0};
    }

    static final class L {
        S s;
        int x, y;
        List<S> frames = new ArrayList<>();
        List<int[]> at = new ArrayList<>();
    }

    final List<P> planes = new ArrayList<>();
    final List<S> shapes = new ArrayList<>();
    final long[] bits = new long[16];
    final int[] advance = new int[16];
    int found, rows, units;
    final List<Object[]> past = new ArrayList<>(), future = new ArrayList<>();
    Object[] ahead;
    boolean busy;
    P into, deep;
    List<L> leaves = new ArrayList<>();
    int way, total, did, written, behind, missed;

    public Model() {
        java.util.Arrays.fill(advance, 8);
    }

    // ---- cells

    static Object array(int kind, int n) {
        switch (kind) {
            case 0: return new boolean[n];
            case 1: return new byte[n];
            case 2: return new short[n];
            case 3: return new char[n];
            case 4: return new int[n];
            case 5: return new long[n];
            case 6: return new float[n];
            default: return new double[n];
        }
    }

    static int kindOf(Object row) {
        for (int k = 0; k < 8; k++) if (array(k, 0).getClass() == row.getClass()) return k;
        throw new IllegalStateException();
    }

    static int length(Object row) {
        return java.lang.reflect.Array.getLength(row);
    }

    static Object cellOfWord(int kind, long v) {
        switch (kind) {
            case 0: return v != 0;
            case 1: return (byte) v;
            case 2: return (short) v;
            case 3: return (char) v;
            case 4: return (int) v;
            case 5: return v;
            case 6: return (float) v / 8.0f;
            default: return (double) v / 8.0;
        }
    }

    static long wordOfCell(Object c) {
        if (c instanceof Boolean b) return b ? 1 : 0;
        if (c instanceof Byte b) return b & 255;
        if (c instanceof Character ch) return ch;
        if (c instanceof Float f) return (long) (f * 8.0f);
        if (c instanceof Double d) return (long) (d * 8.0);
        return ((Number) c).longValue();
    }

    static double numberOfCell(Object c) {
        if (c instanceof Float f) return f;
        if (c instanceof Double d) return d;
        return wordOfCell(c);
    }

    static Object get(P p, int x, int y) {
        Object row = p.tiles[y / 8][x / 8];
        return row == null ? p.blank : java.lang.reflect.Array.get(row, 8 * (y % 8) + x % 8);
    }

    static void set(P p, int x, int y, Object c) {
        if (p.tiles[y / 8][x / 8] == null) {
            Object row = array(p.kind, 64);
            for (int i = 0; i < 64; i++) java.lang.reflect.Array.set(row, i, p.blank);
            p.tiles[y / 8][x / 8] = row;
        }
        java.lang.reflect.Array.set(p.tiles[y / 8][x / 8], 8 * (y % 8) + x % 8, c);
    }

    static int hole(P p, int x, int y) {
        Object row = p.tiles[y / 8][x / 8];
        if (row == null) return 0;
        if (kindOf(row) != p.kind) return 2;
        return 8 * (y % 8) + x % 8 < length(row) ? 0 : 3;
    }

    // ---- acts

    Object[] snapshot() {
        Object[] all = new Object[planes.size()];
        for (int i = 0; i < all.length; i++) {
            Object[][] t = planes.get(i).tiles;
            Object[][] c = new Object[t.length][t[0].length];
            for (int y = 0; y < t.length; y++) for (int x = 0; x < t[y].length; x++) {
                if (t[y][x] == null) continue;
                int n = length(t[y][x]);
                c[y][x] = array(kindOf(t[y][x]), n);
                System.arraycopy(t[y][x], 0, c[y][x], 0, n);
            }
            all[i] = c;
        }
        return all;
    }

    void restore(Object[] all) {
        for (int i = 0; i < all.length; i++) planes.get(i).tiles = (Object[][]) all[i];
    }

    void act(Object[] before) {
        past.add(before);
        future.clear();
        if (past.size() > 20) past.remove(0);
    }

    public int undo() {
        if (busy || past.isEmpty()) return STATE;
        future.add(snapshot());
        restore(past.remove(past.size() - 1));
        return past.size();
    }

    public int redo() {
        if (busy || future.isEmpty()) return STATE;
        past.add(snapshot());
        restore(future.remove(future.size() - 1));
        return future.size();
    }

    int plain(int v) {
        found = 0;
        return v;
    }

    int fault(int f) {
        found = f;
        return -10 - f;
    }

    boolean noPlane(int p) {
        return p < 0 || p >= planes.size();
    }

    boolean noDot(int p, int x, int y) {
        return noPlane(p) || x < 0 || y < 0 || x >= planes.get(p).w || y >= planes.get(p).h;
    }

    boolean noTile(int p, int x, int y) {
        return noPlane(p) || x < 0 || y < 0 || y >= planes.get(p).tiles.length || x >= planes.get(p).tiles[0].length;
    }

    boolean noShape(int s) {
        return s < 0 || s >= shapes.size();
    }

    // ---- planes

    public int plane(int kind, int width, int height) {
        if (busy) return STATE;
        if (kind < 0 || kind > 7 || width < 1 || width > 32 || height < 1 || height > 32) return OUTSIDE;
        if (planes.size() == 8) return FULL;
        P p = new P();
        p.kind = kind;
        p.w = width;
        p.h = height;
        p.blank = cellOfWord(kind, 0);
        p.tiles = new Object[(height + 7) / 8][(width + 7) / 8];
        planes.add(p);
        return planes.size() - 1;
    }

    public int blank(int plane, long v) {
        if (busy) return STATE;
        if (noPlane(plane)) return UNKNOWN;
        planes.get(plane).blank = cellOfWord(planes.get(plane).kind, v);
        return 1;
    }

    public int put(int plane, int x, int y, long v) {
        if (busy) return plain(STATE);
        if (noDot(plane, x, y)) return plain(UNKNOWN);
        P p = planes.get(plane);
        if (hole(p, x, y) != 0) return fault(hole(p, x, y));
        act(snapshot());
        set(p, x, y, cellOfWord(p.kind, v));
        return plain(1);
    }

    public int spoil(int plane, int x, int y) {
        if (busy) return plain(STATE);
        if (noDot(plane, x, y)) return plain(UNKNOWN);
        P p = planes.get(plane);
        if (p.kind != 6 && p.kind != 7) return fault(2);
        if (hole(p, x, y) != 0) return fault(hole(p, x, y));
        act(snapshot());
        set(p, x, y, p.kind == 6 ? (Object) Float.NaN : (Object) Double.NaN);
        return plain(1);
    }

    public int tile(int plane, int x, int y, int kind, int n) {
        if (busy) return plain(STATE);
        if (noTile(plane, x, y)) return plain(UNKNOWN);
        if (kind < 0 || kind > 7 || n > 64) return plain(OUTSIDE);
        if (n < 0) return fault(5);
        act(snapshot());
        planes.get(plane).tiles[y][x] = array(kind, n);
        return plain(n);
    }

    public int wipe(int plane, int x, int y) {
        if (busy) return STATE;
        if (noTile(plane, x, y)) return UNKNOWN;
        act(snapshot());
        boolean was = planes.get(plane).tiles[y][x] != null;
        planes.get(plane).tiles[y][x] = null;
        return was ? 1 : 0;
    }

    // ---- shapes

    public int shape(int sort) {
        if (busy) return STATE;
        if (sort < 0 || sort > 9) return OUTSIDE;
        if (shapes.size() == 40) return FULL;
        S s = new S();
        s.no = shapes.size();
        s.sort = sort;
        shapes.add(s);
        return s.no;
    }

    static boolean lies(long v) {
        return v >= -4096 && v <= 12287;
    }

    public int point(int shape, int x, int y) {
        if (busy) return STATE;
        if (noShape(shape)) return UNKNOWN;
        S s = shapes.get(shape);
        if (!lies(x) || !lies(y) || s.sort > 7) return OUTSIDE;
        int most = s.sort == 2 || s.sort == 3 ? 12 : s.sort == 4 ? 9 : s.sort == 1 ? 3 : s.sort == 6 ? 1 : 2;
        if (s.points.size() == most) return FULL;
        s.points.add(new int[] {x, y});
        return s.points.size();
    }

    public int move(int shape, int dx, int dy) {
        if (busy) return STATE;
        if (noShape(shape)) return UNKNOWN;
        S s = shapes.get(shape);
        if (s.sort > 7) {
            long x = (long) s.ox + dx, y = (long) s.oy + dy;
            if (x < -4096 || x > 4096 || y < -4096 || y > 4096) return OUTSIDE;
            s.ox = (int) x;
            s.oy = (int) y;
            return 1;
        }
        for (int[] q : s.points) if (!lies((long) q[0] + dx) || !lies((long) q[1] + dy)) return OUTSIDE;
        for (int[] q : s.points) {
            q[0] += dx;
            q[1] += dy;
        }
        return 1;
    }

    static int within(S s) {
        int n = 0;
        for (S p : s.parts) n += 1 + within(p);
        return n;
    }

    static int deep(S s) {
        if (s.sort < 8) return 0;
        int d = 0;
        for (S p : s.parts) d = Math.max(d, deep(p));
        return 1 + d;
    }

    static List<L> leavesOf(S s) {
        List<L> all = new ArrayList<>();
        if (s.sort < 8) {
            L l = new L();
            l.s = s;
            all.add(l);
            return all;
        }
        if (s.sort == 8) for (S p : s.parts) all.addAll(leavesOf(p));
        if (s.sort == 9 && s.parts.size() == 2) {
            all.addAll(leavesOf(s.parts.get(1)));
            for (L l : all) {
                l.frames.add(s.parts.get(0));
                l.at.add(new int[2]);
            }
        }
        for (L l : all) {
            l.x += s.ox;
            l.y += s.oy;
            for (int[] a : l.at) {
                a[0] += s.ox;
                a[1] += s.oy;
            }
        }
        return all;
    }

    public int join(int group, int part) {
        if (busy) return STATE;
        if (noShape(group) || noShape(part)) return UNKNOWN;
        S g = shapes.get(group), p = shapes.get(part);
        if (g.sort < 8 || part >= group || g.sort == 9 && g.parts.isEmpty() && p.sort > 7) return OUTSIDE;
        if (g.part) return STATE;
        if (g.parts.size() == (g.sort == 8 ? 8 : 2)) return FULL;
        g.parts.add(p);
        boolean much = within(g) > 100 || deep(g) > 6;
        for (L l : leavesOf(g)) much |= l.frames.size() > 4;
        if (much) {
            g.parts.remove(g.parts.size() - 1);
            return FULL;
        }
        p.part = true;
        return g.parts.size();
    }

    public int style(int shape, int what, int v) {
        if (busy) return STATE;
        if (noShape(shape)) return UNKNOWN;
        boolean ok;
        switch (what) {
            case 0: ok = true; break;
            case 1: ok = v == (short) v; break;
            case 2: ok = v == (char) v; break;
            case 3: ok = v >= 0 && v <= 11; break;
            case 4: case 6: case 10: ok = v >= 0 && v <= 2; break;
            case 5: ok = v >= 1 && v <= 1024; break;
            case 7: case 8: case 14: ok = v == 0 || v == 1; break;
            case 9: ok = v >= 1 && v <= 8; break;
            case 11: ok = v >= -8000 && v <= 8000; break;
            case 12: ok = v >= 16 && v <= 512; break;
            case 13: ok = v == NONE || !noPlane(v); break;
            default: ok = false;
        }
        if (!ok) return OUTSIDE;
        shapes.get(shape).style[what] = v;
        return 1;
    }

    public int stop(int shape, int place, int colour) {
        if (busy) return STATE;
        if (noShape(shape)) return UNKNOWN;
        List<int[]> st = shapes.get(shape).stops;
        if (place < 0 || place > 256 || !st.isEmpty() && st.get(st.size() - 1)[0] >= place) return OUTSIDE;
        if (st.size() == 4) return FULL;
        st.add(new int[] {place, colour});
        return st.size();
    }

    public int glyph(int glyph, long b, int adv) {
        if (busy) return STATE;
        if (glyph < 0 || glyph > 15) return UNKNOWN;
        if (adv < 1 || adv > 16) return OUTSIDE;
        bits[glyph] = b;
        advance[glyph] = adv;
        return 1;
    }

    public int say(int shape, int glyph) {
        if (busy) return STATE;
        if (noShape(shape) || glyph < 0 || glyph > 15) return UNKNOWN;
        S s = shapes.get(shape);
        if (s.sort != 6) return OUTSIDE;
        if (s.letters.size() == 8) return FULL;
        s.letters.add(glyph);
        return s.letters.size();
    }

    // ---- covering, with the shape itself moved by ox, oy

    static boolean lacks(S s) {
        int[] want = {2, 3, 3, 2, 3, 2, 1, 2};
        return s.points.size() < want[s.sort];
    }

    static List<long[]> ring(S s, int ox, int oy) {
        List<long[]> moved = new ArrayList<>();
        for (int[] p : s.points) moved.add(new long[] {p[0] + ox, p[1] + oy});
        if (s.sort == 1 || s.sort == 2) return moved;
        List<long[]> r = new ArrayList<>();
        if (s.sort == 0 || s.sort == 7) {
            long[] p = moved.get(0), q = moved.get(1);
            r.add(p);
            r.add(new long[] {p[0], q[1]});
            r.add(q);
            r.add(new long[] {q[0], p[1]});
            return r;
        }
        long n = s.style[9];
        for (int k = 0; k + 2 < moved.size(); k += 2) {
            long[] p = moved.get(k), q = moved.get(k + 1), t = moved.get(k + 2);
            for (long i = 0; i <= n; i++) {
                long[] at = new long[2];
                for (int d = 0; d < 2; d++) {
                    at[d] = Math.floorDiv(p[d] * (n - i) * (n - i) + 2 * q[d] * i * (n - i) + t[d] * i * i, n * n);
                }
                r.add(at);
            }
        }
        return r;
    }

    boolean covers(S s, int ox, int oy, long a, long b) {
        if (lacks(s)) return false;
        int[] st = s.style;
        if (s.sort == 3) return strokeCovers(s, a - ox, b - oy);
        if (s.sort == 5) {
            int[] p = s.points.get(0), q = s.points.get(1);
            long w = Math.abs(p[0] - q[0]), h = Math.abs(p[1] - q[1]);
            long u = 2 * a - (p[0] + q[0] + 2L * ox), t = 2 * b - (p[1] + q[1] + 2L * oy);
            return u * u * h * h + t * t * w * w < w * w * h * h;
        }
        if (s.sort == 6) {
            long i = Math.floorDiv(a - s.points.get(0)[0] - ox, (long) st[12]);
            long j = Math.floorDiv(b - s.points.get(0)[1] - oy, (long) st[12]);
            if (j < 0 || j > 7) return false;
            long sum = 0;
            for (int g : s.letters) {
                long k = i - sum;
                if (k >= 0 && k < 8) {
                    int line = (int) (bits[g] >>> 8 * (7 - j)) & 255;
                    if ((line >> 7 - k & 1) == 1) return true;
                }
                sum += advance[g];
            }
            return false;
        }
        List<long[]> r = ring(s, ox, oy);
        int odd = 0, sum = 0;
        for (int i = 0; i < r.size(); i++) {
            long[] p = r.get(i), q = r.get((i + 1) % r.size());
            long left = (q[0] - p[0]) * (b - p[1]), right = (a - p[0]) * (q[1] - p[1]);
            if (p[1] <= b && b < q[1] && left <= right) {
                odd++;
                sum++;
            }
            if (q[1] <= b && b < p[1] && left >= right) {
                odd++;
                sum--;
            }
        }
        boolean rule = (s.sort == 2 || s.sort == 4) && st[8] == 1;
        return rule ? sum != 0 : odd % 2 != 0;
    }

    static boolean strokeCovers(S s, long a, long b) {
        long hh = (long) s.style[5] * s.style[5];
        int n = s.points.size();
        for (int i = 0; i < n; i++) {
            int[] p = s.points.get(i);
            long d = (a - p[0]) * (a - p[0]) + (b - p[1]) * (b - p[1]);
            boolean end = i == 0 || i == n - 1;
            if (d <= hh && (end ? s.style[6] == 1 : s.style[7] == 1)) return true;
            if (i == n - 1) break;
            int[] q = s.points.get(i + 1);
            long ux = q[0] - p[0], uy = q[1] - p[1];
            long l = ux * ux + uy * uy, t = (a - p[0]) * ux + (b - p[1]) * uy;
            long c = ux * (b - p[1]) - uy * (a - p[0]);
            if (l > 0 && t >= 0 && t <= l && c * c <= hh * l) return true;
            if (s.style[6] != 2 || l == 0) continue;
            if (i == 0 && t < 0 && t * t <= hh * l && c * c <= hh * l) return true;
            if (i == n - 2 && t > l && (t - l) * (t - l) <= hh * l && c * c <= hh * l) return true;
        }
        return false;
    }

    boolean leafCovers(L l, long a, long b) {
        if (!covers(l.s, l.x, l.y, a, b)) return false;
        for (int i = 0; i < l.frames.size(); i++) {
            if (!covers(l.frames.get(i), l.at.get(i)[0], l.at.get(i)[1], a, b)) return false;
        }
        return true;
    }

    static long[] sample(int x, int y, int k) {
        return new long[] {256L * x + 16 * k + 8, 256L * y + 16 * (5 * k % 16) + 8};
    }

    int count(L l, int x, int y) {
        int c = 0;
        for (int k = 0; k < 16; k++) if (leafCovers(l, sample(x, y, k)[0], sample(x, y, k)[1])) c++;
        return c;
    }

    /** x0, y0, x1, y1, or null if they are empty. */
    int[] box(S s, int ox, int oy) {
        int[] r = null;
        if (s.sort == 8) {
            for (S p : s.parts) {
                int[] b = box(p, ox + s.ox, oy + s.oy);
                if (b == null) continue;
                if (r == null) r = b;
                else r = new int[] {Math.min(r[0], b[0]), Math.min(r[1], b[1]), Math.max(r[2], b[2]), Math.max(r[3], b[3])};
            }
            return r;
        }
        if (s.sort == 9) {
            if (s.parts.size() < 2) return null;
            int[] a = box(s.parts.get(0), ox + s.ox, oy + s.oy), b = box(s.parts.get(1), ox + s.ox, oy + s.oy);
            if (a == null || b == null) return null;
            r = new int[] {Math.max(a[0], b[0]), Math.max(a[1], b[1]), Math.min(a[2], b[2]), Math.min(a[3], b[3])};
            return r[0] < r[2] && r[1] < r[3] ? r : null;
        }
        if (lacks(s)) return null;
        if (s.sort == 6) {
            if (s.letters.isEmpty()) return null;
            int wide = 8;
            for (int g : s.letters.subList(0, s.letters.size() - 1)) wide += advance[g];
            int px = s.points.get(0)[0] + ox, py = s.points.get(0)[1] + oy;
            return new int[] {px, py, px + s.style[12] * wide, py + 8 * s.style[12]};
        }
        long x0 = 99999, y0 = 99999, x1 = -99999, y1 = -99999;
        List<long[]> at = new ArrayList<>();
        if (s.sort == 4) at = ring(s, ox, oy);
        else for (int[] p : s.points) at.add(new long[] {p[0] + ox, p[1] + oy});
        for (long[] p : at) {
            x0 = Math.min(x0, p[0]);
            x1 = Math.max(x1, p[0]);
            y0 = Math.min(y0, p[1]);
            y1 = Math.max(y1, p[1]);
        }
        if (s.sort == 3) {
            int m = s.style[5] * (s.style[6] == 2 ? 2 : 1);
            x0 -= m;
            y0 -= m;
            x1 += m + 1;
            y1 += m + 1;
        }
        return x0 < x1 && y0 < y1 ? new int[] {(int) x0, (int) y0, (int) x1, (int) y1} : null;
    }

    static int weight(S s) {
        int sum = 0;
        switch (s.sort) {
            case 0: case 1: return 2 * s.points.size() + 1;
            case 2: return 2 * s.points.size();
            case 3: return s.style[5];
            case 4: return 2 * s.points.size() + s.style[9];
            case 5: return 7;
            case 6: return 3 * s.letters.size();
            case 7: return 2 * s.points.size() + 1 + 4;
            default:
                for (S p : s.parts) sum += weight(p);
                return s.sort == 8 ? sum : sum - 1;
        }
    }

    // ---- colours

    static int hold(long v, int lo, int hi) {
        return (int) Math.max(lo, Math.min(hi, v));
    }

    int texel(P t, int u, int v) {
        Object c = hole(t, u, v) != 0 ? t.blank : get(t, u, v);
        int w = (int) wordOfCell(c);
        return t.kind == 1 ? w | w << 8 | w << 16 | w << 24 : w;
    }

    int colourOf(L l, int x, int y) {
        int[] st = l.s.style;
        int[] b = box(l.s, l.x, l.y);
        if (b == null) return st[0];
        long mx = 256L * x + 128 - b[0], my = 256L * y + 128 - b[1], w = b[2] - b[0], h = b[3] - b[1];
        P t = l.s.sort == 7 && st[13] != NONE ? planes.get(st[13]) : null;
        if (t != null && (t.kind == 4 || t.kind == 1)) {
            if (st[14] == 0) {
                return texel(t, hold(Math.floorDiv(mx * t.w, w), 0, t.w - 1), hold(Math.floorDiv(my * t.h, h), 0, t.h - 1));
            }
            int cu = hold(Math.floorDiv(mx * 256 * t.w, w) - 128, 0, 256 * (t.w - 1));
            int cv = hold(Math.floorDiv(my * 256 * t.h, h) - 128, 0, 256 * (t.h - 1));
            int u = cu / 256, f = cu % 256, v = cv / 256, g = cv % 256;
            int u1 = Math.min(u + 1, t.w - 1), v1 = Math.min(v + 1, t.h - 1), out = 0;
            for (int i = 0; i < 4; i++) {
                long pa = texel(t, u, v) >>> 8 * i & 255, pb = texel(t, u1, v) >>> 8 * i & 255;
                long pc = texel(t, u, v1) >>> 8 * i & 255, pd = texel(t, u1, v1) >>> 8 * i & 255;
                long m = ((pa * (256 - f) + pb * f) * (256 - g) + (pc * (256 - f) + pd * f) * g) / 65536;
                out |= (int) m << 8 * i;
            }
            return out;
        }
        if (st[10] == 0 || l.s.stops.isEmpty()) return st[0];
        int at = hold(st[10] == 1 ? Math.floorDiv(mx * 256, w) : Math.floorDiv(my * 256, h), 0, 256);
        List<int[]> stops = l.s.stops;
        if (at <= stops.get(0)[0]) return stops.get(0)[1];
        for (int i = 0; i + 1 < stops.size(); i++) {
            int p = stops.get(i)[0], q = stops.get(i + 1)[0], out = 0;
            if (at < p || at >= q) continue;
            for (int k = 0; k < 32; k += 8) {
                out |= ((stops.get(i)[1] >>> k & 255) * (q - at) + (stops.get(i + 1)[1] >>> k & 255) * (at - p)) / (q - p) << k;
            }
            return out;
        }
        return stops.get(stops.size() - 1)[1];
    }

    // ---- jobs

    int start(int plane, int depth, int shape, int w) {
        if (busy) return STATE;
        if (noPlane(plane) || depth != NONE && noPlane(depth) || noShape(shape)) return UNKNOWN;
        if (w < 0 || w > 1) return OUTSIDE;
        P p = planes.get(plane), d = null;
        if (depth != NONE) {
            d = planes.get(depth);
            if (depth == plane || d.w != p.w || d.h != p.h || d.kind != 2 && d.kind != 6 && d.kind != 7) return STATE;
        }
        List<L> ls = leavesOf(shapes.get(shape));
        for (L l : ls) {
            int t = l.s.style[13];
            if (l.s.sort == 7 && t != NONE && (t == plane || t == depth)) return STATE;
        }
        int n = ls.size() * p.tiles.length * p.tiles[0].length;
        if (units + n > 16000) return FULL;
        units += n;
        into = p;
        deep = d;
        leaves = ls;
        way = w;
        total = n;
        did = written = behind = missed = 0;
        busy = true;
        ahead = snapshot();
        return n;
    }

    void end() {
        busy = false;
        act(ahead);
    }

    int run(int n) {
        int now = 0;
        int across = into.tiles[0].length, tiles = across * into.tiles.length;
        while (now < n && did < total) {
            L l = leaves.get(way == 0 ? did / tiles : did % leaves.size());
            int t = way == 0 ? did % tiles : did / leaves.size();
            for (int y = 0; y < into.h; y++) for (int x = 0; x < into.w; x++) {
                if (y / 8 * across + x / 8 == t) paintDot(l, x, y);
            }
            did++;
            now++;
        }
        if (did == total) end();
        return now;
    }

    void paintDot(L l, int x, int y) {
        int c = count(l, x, y);
        if (c == 0) return;
        if (hole(into, x, y) != 0 || deep != null && hole(deep, x, y) != 0) {
            missed++;
            return;
        }
        int[] st = l.s.style;
        if (deep != null) {
            double e = numberOfCell(get(deep, x, y));
            boolean pass = st[4] == 0 ? st[1] < e : st[4] == 1 ? st[1] <= e : e == e;
            if (!pass) {
                behind++;
                return;
            }
            if (c >= 8) {
                set(deep, x, y, deep.kind == 2 ? (Object) (short) st[1] : deep.kind == 6 ? (Object) (float) st[1] : (Object) (double) st[1]);
            }
        }
        int m = st[3];
        Object v = get(into, x, y), then;
        switch (into.kind) {
            case 0:
                if (m % 4 != 3 && c < 8) return;
                then = m % 4 == 0 || m % 4 == 3 ? (Object) true : m % 4 == 1 ? (Object) false : (Object) !((Boolean) v);
                break;
            case 1: then = (byte) mix(m, colourOf(l, x, y) & 255, ((Byte) v) & 255, c); break;
            case 2:
                if (c < 8) return;
                then = (short) st[1];
                break;
            case 3:
                if (c < 8) return;
                then = (char) st[2];
                break;
            case 4:
                int col = colourOf(l, x, y), out = 0;
                for (int k = 0; k < 32; k += 8) out |= mix(m, col >>> k & 255, ((Integer) v) >>> k & 255, c) << k;
                then = out;
                break;
            case 5: then = ((Long) v) + (long) c * colourOf(l, x, y); break;
            case 6: then = mixFloat(m, (Float) v, st[11] / 8.0f, c); break;
            default: then = mixDouble(m, (Double) v, st[11] / 8.0, c);
        }
        written++;
        set(into, x, y, then);
    }

    static int mix(int m, int s, int d, int c) {
        int[] b = {s, d, Math.min(255, s + d), Math.max(0, d - s), (s * d + 127) / 255,
            255 - ((255 - s) * (255 - d) + 127) / 255, Math.min(s, d), Math.max(s, d), Math.abs(s - d), s ^ d,
            (s + d + 1) / 2,
            s < 128 ? (2 * s * d + 127) / 255 : 255 - (2 * (255 - s) * (255 - d) + 127) / 255};
        return Math.floorDiv(d * (16 - c) + b[m] * c + 8, 16);
    }

    static float mixFloat(int m, float v, float l, int c) {
        float[] bs = {l, v, v + l, v - l, v * l, (v + l) - v * l, Math.min(v, l), Math.max(v, l), Math.abs(v - l),
            Math.copySign(v, l), (v + l) / 2, v % l};
        float b = bs[m], then = v + (b - v) * (c / 16.0f);
        return v != v || b != b || then != then ? -1.0f : then;
    }

    static double mixDouble(int m, double v, double l, int c) {
        double[] bs = {l, v, v + l, v - l, v * l, (v + l) - v * l, Math.min(v, l), Math.max(v, l), Math.abs(v - l),
            Math.copySign(v, l), (v + l) / 2, v % l};
        double b = bs[m], then = v + (b - v) * (c / 16.0);
        return v != v || b != b || then != then ? -1.0 : then;
    }

    public int begin(int plane, int depth, int shape, int w) {
        int n = start(plane, depth, shape, w);
        if (n == 0) end();
        return n;
    }

    public int paint(int plane, int depth, int shape, int w) {
        int n = start(plane, depth, shape, w);
        if (n >= 0) run(n);
        return n;
    }

    public int go(int n) {
        if (!busy) return STATE;
        if (n < 0 || n > 2000) return OUTSIDE;
        return run(n);
    }

    public int halt() {
        if (!busy) return STATE;
        end();
        return total - did;
    }

    public int done(int what) {
        int[] all = {did, total - did, written, behind, missed, busy ? 1 : 0};
        return what < 0 || what > 5 ? OUTSIDE : all[what];
    }

    // ---- copies

    public int copy(int from, int x, int y, int w, int h, int to, int u, int v) {
        if (busy) return plain(STATE);
        if (noDot(from, x, y) || noDot(to, u, v)) return plain(UNKNOWN);
        P a = planes.get(from), b = planes.get(to);
        if (w < 1 || h < 1 || w > 32 || h > 32 || x + w > a.w || y + h > a.h || u + w > b.w || v + h > b.h) {
            return plain(OUTSIDE);
        }
        if (units + 16 > 16000) return plain(FULL);
        rows = 0;
        if (a.kind != b.kind) return fault(2);
        units += 16;
        act(snapshot());
        for (int i = 0; i < h; i++) {
            int r = a == b && v > y ? h - 1 - i : i;
            Object[] line = new Object[w];
            for (int k = 0; k < w; k++) {
                int f = hole(a, x + k, y + r);
                if (f == 0) f = hole(b, u + k, v + r);
                if (f != 0) return fault(f == 2 ? 4 : 3);
                line[k] = get(a, x + k, y + r);
            }
            for (int k = 0; k < w; k++) set(b, u + k, v + r, line[k]);
            rows++;
        }
        return plain(h);
    }

    public int grade(int plane, int what) {
        if (busy) return plain(STATE);
        if (noPlane(plane)) return plain(UNKNOWN);
        if (what < 0 || what > 7) return plain(OUTSIDE);
        P p = planes.get(plane);
        if (p.kind < 6) return fault(2);
        act(snapshot());
        int n = 0;
        for (int y = 0; y < p.h; y++) for (int x = 0; x < p.w; x++) {
            if (p.tiles[y / 8][x / 8] == null || hole(p, x, y) != 0) continue;
            if (p.kind == 6) {
                float f = (Float) get(p, x, y);
                float[] all = {(float) Math.floor(f), (float) Math.ceil(f), (float) Math.rint(f), Math.signum(f),
                    Math.abs(f), -f, f / 2, f * 2};
                if (all[what] != f) n++;
                set(p, x, y, all[what]);
            } else {
                double f = (Double) get(p, x, y);
                double[] all = {Math.floor(f), Math.ceil(f), Math.rint(f), Math.signum(f), Math.abs(f), -f, f / 2, f * 2};
                if (all[what] != f) n++;
                set(p, x, y, all[what]);
            }
        }
        return plain(n);
    }

    public int mask(int plane, int by, long v) {
        if (busy) return plain(STATE);
        if (noPlane(plane) || noPlane(by)) return plain(UNKNOWN);
        P p = planes.get(plane), m = planes.get(by);
        if (p == m || p.w != m.w || p.h != m.h) return plain(STATE);
        if (m.kind != 0) return fault(2);
        act(snapshot());
        int n = 0;
        for (int y = 0; y < p.h; y++) for (int x = 0; x < p.w; x++) {
            if (hole(p, x, y) != 0 || hole(m, x, y) != 0 || !((Boolean) get(m, x, y))) continue;
            set(p, x, y, cellOfWord(p.kind, v));
            n++;
        }
        return plain(n);
    }

    // ---- what is told

    public long dot(int plane, int x, int y) {
        found = 0;
        if (noDot(plane, x, y)) return 0;
        found = hole(planes.get(plane), x, y);
        return found != 0 ? 0 : wordOfCell(get(planes.get(plane), x, y));
    }

    public double glow(int plane, int x, int y) {
        if (noDot(plane, x, y) || hole(planes.get(plane), x, y) != 0) return 0.0;
        double d = numberOfCell(get(planes.get(plane), x, y));
        return d != d ? 0.0 : d;
    }

    public int sort(int plane, int x, int y) {
        if (noDot(plane, x, y)) return plain(UNKNOWN);
        int f = hole(planes.get(plane), x, y);
        if (f != 0) return fault(f);
        double d = numberOfCell(get(planes.get(plane), x, y));
        return plain(d != d ? 3 : !Double.isInfinite(d) ? 0 : d > 0 ? 1 : 2);
    }

    public int size(int plane, int what) {
        if (noPlane(plane)) return UNKNOWN;
        P p = planes.get(plane);
        int n = 0;
        for (Object[] line : p.tiles) for (Object t : line) if (t != null) n++;
        int[] all = {p.kind, p.w, p.h, n};
        return what < 0 || what > 3 ? OUTSIDE : all[what];
    }

    public int row(int plane, int x, int y, int what) {
        if (noTile(plane, x, y)) return UNKNOWN;
        if (what < 0 || what > 1) return OUTSIDE;
        Object t = planes.get(plane).tiles[y][x];
        return t == null ? NONE : what == 0 ? kindOf(t) : length(t);
    }

    public int look(int shape, int what) {
        if (noShape(shape)) return UNKNOWN;
        S s = shapes.get(shape);
        int weight = weight(s);
        int rank = s.sort == 7 ? 99 : s.sort > 7 ? 200 - weight : 10 + weight;
        int[] all = {s.sort, s.points.size(), s.parts.size(), s.letters.size(), s.stops.size(), leavesOf(s).size(),
            within(s), deep(s), s.ox, s.oy, weight, rank};
        if (what >= 0 && what < 12) return all[what];
        return what >= 20 && what <= 34 ? s.style[what - 20] : OUTSIDE;
    }

    public int at(int shape, int i, int axis) {
        if (noShape(shape) || i < 0 || i >= shapes.get(shape).points.size()) return UNKNOWN;
        return axis < 0 || axis > 1 ? OUTSIDE : shapes.get(shape).points.get(i)[axis];
    }

    public int covered(int shape, int x, int y) {
        if (noShape(shape)) return UNKNOWN;
        if (x < 0 || y < 0 || x > 31 || y > 31) return OUTSIDE;
        int n = 0;
        for (int k = 0; k < 16; k++) {
            for (L l : leavesOf(shapes.get(shape))) {
                if (leafCovers(l, sample(x, y, k)[0], sample(x, y, k)[1])) {
                    n++;
                    break;
                }
            }
        }
        return n;
    }

    public int hit(int shape, int a, int b) {
        if (noShape(shape)) return UNKNOWN;
        if (!lies(a) || !lies(b)) return OUTSIDE;
        int last = NONE;
        for (L l : leavesOf(shapes.get(shape))) if (leafCovers(l, a, b)) last = l.s.no;
        return last;
    }

    public int bounds(int shape, int what) {
        if (noShape(shape)) return UNKNOWN;
        if (what < 0 || what > 4) return OUTSIDE;
        int[] b = box(shapes.get(shape), 0, 0);
        if (what == 4) return b == null ? 1 : 0;
        return b == null ? 0 : b[what];
    }

    public int colour(int shape, int x, int y) {
        if (noShape(shape) || shapes.get(shape).sort > 7 || x < 0 || y < 0 || x > 31 || y > 31) return 0;
        L l = new L();
        l.s = shapes.get(shape);
        return colourOf(l, x, y);
    }

    public int copied() {
        return rows;
    }

    public int compare(int a, int b, int what) {
        if (noPlane(a) || noPlane(b)) return UNKNOWN;
        P p = planes.get(a), q = planes.get(b);
        if (p.w != q.w || p.h != q.h) return STATE;
        if (what < 0 || what > 1) return OUTSIDE;
        int n = 0, first = NONE;
        for (int y = 0; y < p.h; y++) for (int x = 0; x < p.w; x++) {
            int f = hole(p, x, y), g = hole(q, x, y);
            if (f == g && (f != 0 || wordOfCell(get(p, x, y)) == wordOfCell(get(q, x, y)))) continue;
            if (n++ == 0) first = 32 * y + x;
        }
        return what == 0 ? n : first;
    }

    public long digest(int plane) {
        if (noPlane(plane)) return 0;
        P p = planes.get(plane);
        long h = 7;
        for (int y = 0; y < p.h; y++) for (int x = 0; x < p.w; x++) {
            h = 31 * h + (hole(p, x, y) != 0 ? -1 - hole(p, x, y) : wordOfCell(get(p, x, y)));
        }
        return h;
    }

    public int finding() {
        return found;
    }

    public int told(int what) {
        int[] all = {planes.size(), shapes.size(), past.size(), future.size(), units, busy ? 1 : 0};
        return what < 0 || what > 5 ? OUTSIDE : all[what];
    }
}
