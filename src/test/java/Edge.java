import java.util.ArrayList;
import java.util.List;
import java.util.Set;

/** What the tests at the edges share: shapes made at once, and calls that must change nothing. */
final class Edge {
    static final int UNKNOWN = -1, OUTSIDE = -2, STATE = -3, FULL = -4, NONE = -9;
    static final int CAST = -12, INDEX = -13, STORE = -14, SIZE = -15;

    /** The calls of which the document names a fault: they alone set finding(). */
    private static final Set<String> NAME_FAULTS = Set.of("put", "spoil", "tile", "copy", "grade", "mask", "dot", "sort");

    private Edge() {
    }

    interface Call {
        long on(RasterHouse r);
    }

    interface Make {
        RasterHouse house();
    }

    /** A shape with points x, y in turn. */
    static int make(RasterHouse r, int sort, int... at) {
        int s = r.shape(sort);
        for (int i = 0; i + 1 < at.length; i += 2) r.point(s, at[i], at[i + 1]);
        return s;
    }

    static int box(RasterHouse r, int x0, int y0, int x1, int y1) {
        return make(r, 0, x0, y0, x1, y1);
    }

    static int nest(RasterHouse r, int sort, int... parts) {
        int s = r.shape(sort);
        for (int part : parts) r.join(s, part);
        return s;
    }

    /** A box over the first c samples (by x) of dot x, y. */
    static int samples(RasterHouse r, int x, int y, int c) {
        return box(r, 256 * x, 256 * y, 256 * x + 16 * c, 256 * y + 256);
    }

    static void bounds(String what, RasterHouse r, int s, int... due) {
        for (int i = 0; i < 4; i++) Check.due(what + ", bounds " + i, r.bounds(s, i), due[i]);
        Check.due(what + ", not empty", r.bounds(s, 4), 0);
    }

    static void empty(String what, RasterHouse r, int s) {
        for (int i = 0; i < 4; i++) Check.due(what + ", bounds " + i, r.bounds(s, i), 0);
        Check.due(what + ", empty", r.bounds(s, 4), 1);
    }

    /**
     * A refusal: it is answered, changes nothing, and sets finding() to 0 if the call names faults.
     * The sentence begins with the call's name and a colon.
     */
    static void refused(String sentence, Make make, Call call, long answer) {
        RasterHouse r = make.house();
        int before = r.finding();
        Check.due(sentence, call.on(r), answer);
        boolean names = NAME_FAULTS.contains(sentence.substring(0, sentence.indexOf(':')));
        Check.due(sentence + " - finding()", r.finding(), names ? 0 : before);
        unchanged(sentence, make, call);
    }

    /** A fault that changes nothing: -10 less it (or 0, of dot()), and finding() tells it. */
    static void fault(String sentence, Make make, Call call, int fault) {
        RasterHouse r = make.house();
        boolean isLong = sentence.startsWith("dot:");
        Check.due(sentence, call.on(r), isLong ? 0 : -10 - fault);
        Check.due(sentence + " - finding()", r.finding(), fault);
        unchanged(sentence, make, call);
    }

    /** Objects made alike, with and without the call, tell the same; each is asked far less than 512 times. */
    private static void unchanged(String sentence, Make make, Call call) {
        RasterHouse planes = make.house(), shapes = make.house();
        call.on(planes);
        call.on(shapes);
        same(sentence, planesTold(planes), planesTold(make.house()));
        same(sentence, shapesTold(shapes), shapesTold(make.house()));
    }

    private static void same(String sentence, List<Long> got, List<Long> due) {
        Check.due(sentence + " - changes nothing, but how much is told", got.size(), due.size());
        for (int i = 0; i < Math.min(due.size(), got.size()); i++) {
            Check.due(sentence + " - changes nothing, but answer " + i + " of what is told", got.get(i), due.get(i));
        }
    }

    /** What is told of counts and planes; then the job is done, and acts go forth and back. */
    private static List<Long> planesTold(RasterHouse r) {
        List<Long> all = new ArrayList<>();
        for (int i = 0; i < 6; i++) all.add((long) r.told(i));
        for (int i = 0; i < 6; i++) all.add((long) r.done(i));
        all.add((long) r.copied());
        int planes = r.told(0);
        for (int p = 0; p < planes; p++) planeTold(r, p, all);
        digests(r, planes, all);
        if (r.told(5) == 1) all.add((long) r.go(2000));
        digests(r, planes, all);
        while (r.redo() >= 0) digests(r, planes, all);
        while (r.undo() >= 0) digests(r, planes, all);
        return all;
    }

    private static void planeTold(RasterHouse r, int p, List<Long> all) {
        int width = r.size(p, 1), height = r.size(p, 2);
        all.add((long) r.size(p, 0));
        all.add((long) width);
        all.add((long) height);
        all.add((long) r.size(p, 3));
        for (int y = 0; y < (height + 7) / 8; y++) {
            for (int x = 0; x < (width + 7) / 8; x++) all.add(100L * r.row(p, x, y, 0) + r.row(p, x, y, 1));
        }
    }

    private static void digests(RasterHouse r, int planes, List<Long> all) {
        for (int p = 0; p < planes; p++) all.add(r.digest(p));
    }

    private static List<Long> shapesTold(RasterHouse r) {
        List<Long> all = new ArrayList<>();
        int shapes = Math.min(r.told(1), 9);
        for (int s = 0; s < shapes; s++) {
            for (int i = 1; i < 12; i++) all.add((long) r.look(s, i));
            for (int i = 20; i < 35; i++) all.add((long) r.look(s, i));
            for (int i = 0; i < 3; i++) all.add((long) r.at(s, i, 0) * 100000 + r.at(s, i, 1));
            all.add((long) r.covered(s, 0, 0));
            all.add((long) r.bounds(s, 2));
            all.add((long) r.colour(s, 2, 2));
        }
        return all;
    }
}
