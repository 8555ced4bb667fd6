import java.lang.reflect.Method;
import java.util.ArrayList;
import java.util.Arrays;
import java.util.List;
import java.util.Random;

/** Random runs of calls, each answered by RasterHouse and by Model: all answers must be the same. */
public final class ModelTest {
    private static final String[] WEIGHTED = {
        "plane 6", "blank 4", "put 14", "spoil 6", "tile 5", "wipe 3", "shape 14", "point 50", "move 6", "join 14",
        "style 34", "stop 12", "glyph 4", "say 8", "begin 6", "paint 22", "copy 8", "grade 10", "mask 4", "undo 8",
        "redo 6", "go 8", "halt 2", "done 6", "dot 6", "glow 8", "sort 6", "size 4", "row 4", "look 10", "at 3",
        "covered 8", "hit 8", "bounds 10", "colour 8", "copied 2", "compare 4", "digest 14", "finding 8", "told 8"};
    private static final int[] EDGES = {0, 1, -1, -9, 7, 8, 16, 31, 32, 63, 64, 65, 128, 256, -4096, 4096, 12287, 12288,
        -4097, 2147483647, -2147483648};

    private final Random random;
    private final RasterHouse house = new RasterHouse();
    private final Model model = new Model();
    private final List<String> calls = new ArrayList<>();
    private final int flavour;
    private static final int ANY = 0, LIGHTS = 1, PICTURES = 2, BLENDS = 3, NESTS = 4, JOBS = 5, LIMITS = 6, STROKES = 7;
    private static final List<Method> METHODS = new ArrayList<>();
    private static final List<Method> MODELS = new ArrayList<>();

    private ModelTest(long seed) {
        random = new Random(seed);
        flavour = (int) (seed % 8);
    }

    public static void main(String[] args) throws Exception {
        prepare();
        long from = args.length > 0 ? Long.parseLong(args[0]) : 1;
        long to = args.length > 1 ? Long.parseLong(args[1]) : 400;
        for (long seed = from; seed <= to; seed++) {
            ModelTest test = new ModelTest(seed);
            if (!test.run()) {
                System.out.println("seed " + seed);
                System.exit(1);
            }
        }
        System.out.println("all answers are those of the model, runs " + from + " to " + to);
    }

    private static void prepare() throws Exception {
        for (String entry : WEIGHTED) {
            String name = entry.substring(0, entry.indexOf(' '));
            int weight = Integer.parseInt(entry.substring(entry.indexOf(' ') + 1));
            for (Method m : RasterHouse.class.getDeclaredMethods()) {
                if (!m.getName().equals(name)) continue;
                Method twin = Model.class.getDeclaredMethod(name, m.getParameterTypes());
                for (int i = 0; i < weight; i++) {
                    METHODS.add(m);
                    MODELS.add(twin);
                }
            }
        }
    }

    private boolean run() throws Exception {
        if (!setUp()) return false;
        while (calls.size() < 512) {
            Object[] special = flavour != ANY && random.nextInt(3) != 0 ? special() : null;
            if (special != null) {
                if (!call((String) special[0], Arrays.copyOfRange(special, 1, special.length))) return false;
                continue;
            }
            int k = random.nextInt(METHODS.size());
            boolean idle = model.busy && random.nextInt(3) != 0 && changes(METHODS.get(k).getName());
            if (idle) k = index(random.nextInt(8) == 0 ? "halt" : "go");
            Method m = METHODS.get(k);
            if (!same(m, MODELS.get(k), arguments(m))) return false;
        }
        return true;
    }

    /** Planes of one size and shapes with points, so that the random calls find something to work on. */
    private boolean setUp() throws Exception {
        int most = flavour == LIMITS ? 32 : flavour == LIGHTS ? 5 : random.nextBoolean() ? 32 : 12;
        int w = flavour == LIMITS ? 32 : 1 + random.nextInt(most);
        int h = flavour == LIMITS ? 32 : 1 + random.nextInt(most);
        int n = 2 + random.nextInt(5);
        for (int i = 0; i < n; i++) {
            if (!call("plane", kindFor(), w, h)) return false;
        }
        if (flavour == PICTURES && !call("plane", 1 + 3 * random.nextInt(2), 1 + random.nextInt(9), 1 + random.nextInt(9))) {
            return false;
        }
        int shapes = 2 + random.nextInt(8);
        for (int i = 0; i < shapes; i++) {
            if (!call("shape", sortFor())) return false;
            int points = random.nextInt(7);
            for (int k = 0; k < points; k++) if (!call("point", i, place(), place())) return false;
        }
        return true;
    }

    private int kindFor() {
        switch (flavour) {
            case LIGHTS: return 6 + random.nextInt(2);
            case PICTURES: return random.nextInt(4) == 0 ? 5 : 1 + 3 * random.nextInt(2);
            case BLENDS: return 1 + 3 * random.nextInt(2);
            default: return random.nextInt(8);
        }
    }

    private int sortFor() {
        switch (flavour) {
            case PICTURES: return random.nextInt(3) == 0 ? random.nextInt(8) : 7;
            case NESTS: case LIMITS: return random.nextInt(3) == 0 ? random.nextInt(8) : 8 + random.nextInt(2);
            case STROKES: return random.nextInt(4) == 0 ? 2 + 2 * random.nextInt(3) : 3;
            default: return random.nextInt(10);
        }
    }

    private int some(int n) {
        return n == 0 ? 0 : random.nextInt(n);
    }

    /** A call that fits the run's flavour, or null. */
    private Object[] special() {
        int p = some(model.planes.size()), s = some(model.shapes.size());
        if (model.planes.isEmpty() || model.shapes.isEmpty()) return null;
        int x = some(model.planes.get(p).w), y = some(model.planes.get(p).h);
        if (model.busy && flavour != JOBS) return new Object[] {"go", 2000};
        switch (flavour) {
            case LIGHTS: return lightCall(p, s, x, y);
            case PICTURES: return pictureCall(p, s, x, y);
            case BLENDS: return blendCall(p, s, x, y);
            case NESTS: return nestCall();
            case JOBS: return jobCall(p, s);
            case LIMITS: return limitCall(p, s);
            default: return strokeCall(s);
        }
    }

    private Object[] lightCall(int p, int s, int x, int y) {
        switch (random.nextInt(12)) {
            case 0: return new Object[] {"style", s, 3, random.nextInt(12)};
            case 1: return new Object[] {"style", s, 11, random.nextInt(4) == 0 ? 0 : random.nextInt(3) == 0 ? 8000 : random.nextInt(40) - 20};
            case 2: return new Object[] {"put", p, x, y, random.nextInt(4) == 0 ? word() : random.nextInt(60) - 30L};
            case 3: return new Object[] {"put", p, x, y, (1L << 52 + random.nextInt(6)) + random.nextInt(9) - 4};
            case 4: return new Object[] {"spoil", p, x, y};
            case 5: case 6: return new Object[] {"paint", p, -9, s, 0};
            case 7: return new Object[] {"grade", p, random.nextInt(3) == 0 ? 7 : random.nextInt(8)};
            case 8: return new Object[] {"sort", p, x, y};
            case 9: return new Object[] {"blank", p, word()};
            default: return new Object[] {"glow", p, x, y};
        }
    }

    private Object[] pictureCall(int p, int s, int x, int y) {
        switch (random.nextInt(10)) {
            case 0: return new Object[] {"style", s, 13, p};
            case 1: return new Object[] {"style", s, 14, random.nextInt(2)};
            case 2: return new Object[] {"tile", p, x / 8, y / 8, model.planes.get(p).kind, random.nextInt(65)};
            case 3: case 4: return new Object[] {"put", p, x, y, word()};
            case 5: return new Object[] {"paint", p, -9, s, 0};
            case 6: return new Object[] {"blank", p, random.nextLong()};
            default: return new Object[] {"colour", s, random.nextInt(32), random.nextInt(32)};
        }
    }

    private Object[] blendCall(int p, int s, int x, int y) {
        switch (random.nextInt(12)) {
            case 0: return new Object[] {"style", s, 3, random.nextInt(12)};
            case 1: return new Object[] {"style", s, 0, random.nextInt()};
            case 2: return new Object[] {"style", s, 10, random.nextInt(3)};
            case 3: return new Object[] {"stop", s, random.nextInt(257), random.nextInt()};
            case 4: return new Object[] {"wipe", p, x / 8, y / 8};
            case 5: return new Object[] {"blank", p, random.nextLong()};
            case 6: case 7: return new Object[] {"colour", s, random.nextInt(32), random.nextInt(32)};
            case 8: return new Object[] {"digest", p};
            default: return new Object[] {"paint", p, -9, s, 0};
        }
    }

    private Object[] nestCall() {
        int n = model.shapes.size();
        int g = some(n);
        for (int i = 0; i < 20 && model.shapes.get(g).sort < 8; i++) g = some(n);
        switch (random.nextInt(9)) {
            case 0: return new Object[] {"shape", sortFor()};
            case 1: case 2: case 3: case 4: return new Object[] {"join", g, Math.max(0, g - 1 - random.nextInt(3))};
            case 5: return new Object[] {"look", g, 5 + random.nextInt(7)};
            case 6: return new Object[] {"bounds", g, random.nextInt(5)};
            case 7: return new Object[] {"hit", g, place(), place()};
            default: return new Object[] {"covered", g, random.nextInt(32), random.nextInt(32)};
        }
    }

    private Object[] jobCall(int p, int s) {
        switch (random.nextInt(10)) {
            case 0: case 1: return new Object[] {"begin", p, random.nextBoolean() ? -9 : some(model.planes.size()), s, random.nextInt(2)};
            case 2: case 3: return new Object[] {"go", random.nextInt(6)};
            case 4: return new Object[] {"done", random.nextInt(6)};
            case 5: return new Object[] {"told", random.nextInt(6)};
            case 6: return new Object[] {random.nextBoolean() ? "undo" : "redo"};
            case 7: return new Object[] {random.nextInt(4) == 0 ? "halt" : "finding"};
            default: return new Object[] {"digest", p};
        }
    }

    private Object[] limitCall(int p, int s) {
        switch (random.nextInt(8)) {
            case 0: case 1: return nestCall();
            case 2: return new Object[] {"copy", p, 0, 0, 32, 32, p, 0, 0};
            case 3: return new Object[] {"told", 4};
            default: return new Object[] {"paint", p, -9, s, 0};
        }
    }

    private Object[] strokeCall(int s) {
        switch (random.nextInt(8)) {
            case 0: return new Object[] {"style", s, 5, 1 + random.nextInt(400)};
            case 1: return new Object[] {"style", s, 6, random.nextInt(3)};
            case 2: return new Object[] {"style", s, 7, random.nextInt(2)};
            case 3: return new Object[] {"point", s, random.nextInt(4000), 100 * random.nextInt(40)};
            case 4: return new Object[] {"bounds", s, random.nextInt(5)};
            default: return strokeHit(s);
        }
    }

    /** A point at a distance of HALF, or thereabouts, from one of the shape's own. */
    private Object[] strokeHit(int s) {
        Model.S shape = model.shapes.get(s);
        if (shape.points.isEmpty()) return new Object[] {"hit", s, 0, 0};
        int[] at = shape.points.get(some(shape.points.size()));
        int half = shape.style[5];
        int[] steps = {0, half, -half, half + 1, -half - 1, random.nextInt(2 * half + 1) - half};
        return new Object[] {"hit", s, at[0] + steps[random.nextInt(6)], at[1] + steps[random.nextInt(6)]};
    }

    private static int index(String name) {
        for (int i = 0; i < METHODS.size(); i++) if (METHODS.get(i).getName().equals(name)) return i;
        throw new IllegalArgumentException(name);
    }

    private boolean call(String name, Object... args) throws Exception {
        int k = index(name);
        return same(METHODS.get(k), MODELS.get(k), args);
    }

    private static boolean changes(String name) {
        return Arrays.asList("plane", "blank", "put", "spoil", "tile", "wipe", "shape", "point", "move", "join", "style",
            "stop", "glyph", "say", "begin", "paint", "copy", "grade", "mask", "undo", "redo").contains(name);
    }

    private boolean same(Method m, Method twin, Object[] args) throws Exception {
        Object due = twin.invoke(model, args);
        calls.add(m.getName() + Arrays.toString(args) + " due " + due);
        Object got;
        try {
            got = m.invoke(house, args);
        } catch (java.lang.reflect.InvocationTargetException e) {
            got = e.getCause();
        }
        if (due.equals(got)) return true;
        for (String c : calls) System.out.println(c);
        System.out.println("but answered " + got);
        if (got instanceof Throwable t) t.printStackTrace(System.out);
        return false;
    }

    private int place() {
        switch (random.nextInt(8)) {
            case 0: return EDGES[random.nextInt(EDGES.length)];
            case 1: return random.nextInt(16384) - 4096;
            case 2: return 256 * random.nextInt(33);
            default: return random.nextInt(random.nextBoolean() ? 8192 : 3000);
        }
    }

    private int near(int most) {
        if (random.nextInt(25) == 0) return EDGES[random.nextInt(EDGES.length)];
        return most <= 0 ? random.nextInt(3) - 1 : random.nextInt(most) - (random.nextInt(60) == 0 ? 1 : 0);
    }

    private long word() {
        switch (random.nextInt(6)) {
            case 0: return random.nextLong();
            case 1: return EDGES[random.nextInt(EDGES.length)];
            case 2: return random.nextInt(2);
            case 3: return random.nextBoolean() ? Long.MAX_VALUE : Long.MIN_VALUE;
            default: return random.nextInt(400) - 150;
        }
    }

    private int styleValue(int what) {
        switch (what) {
            case 0: return random.nextInt();
            case 1: return random.nextInt(4) == 0 ? random.nextInt(80000) - 40000 : random.nextInt(40) - 20;
            case 2: return random.nextInt(66000);
            case 3: return random.nextInt(12) + (random.nextInt(30) == 0 ? 1 : 0);
            case 4: case 6: case 10: return near(3);
            case 5: return random.nextInt(8) == 0 ? random.nextInt(1100) : 1 + random.nextInt(600);
            case 7: case 8: case 14: return near(2);
            case 9: return random.nextInt(10);
            case 11:
                return random.nextInt(3) == 0 ? random.nextInt(17000) - 8500
                    : random.nextInt(4) == 0 ? 0 : random.nextInt(60) - 30;
            case 12: return random.nextInt(6) == 0 ? random.nextInt(600) : 16 + random.nextInt(120);
            default: return random.nextInt(5) == 0 ? -9 : near(model.planes.size());
        }
    }

    private Object[] arguments(Method m) {
        int p = near(model.planes.size()), s = near(model.shapes.size());
        int w = model.planes.isEmpty() ? 1 : model.planes.get(0).w, h = model.planes.isEmpty() ? 1 : model.planes.get(0).h;
        int x = near(w), y = near(h), tx = near((w + 7) / 8), ty = near((h + 7) / 8);
        switch (m.getName()) {
            case "plane":
                boolean alike = random.nextInt(3) != 0;
                return new Object[] {near(8), alike ? w : near(34), alike ? h : near(34)};
            case "blank": return new Object[] {p, word()};
            case "put": return new Object[] {p, x, y, word()};
            case "spoil": case "dot": case "glow": case "sort": return new Object[] {p, x, y};
            case "tile":
                int kind = p >= 0 && p < model.planes.size() && random.nextBoolean() ? model.planes.get(p).kind : near(8);
                return new Object[] {p, tx, ty, kind, random.nextInt(70) - 2};
            case "wipe": return new Object[] {p, tx, ty};
            case "shape": return new Object[] {random.nextInt(3) == 0 ? 8 + random.nextInt(2) : near(10)};
            case "point": return new Object[] {s, place(), place()};
            case "move": return new Object[] {s, place() - 1500, place() - 1500};
            case "join":
                int g = s;
                for (int i = 0; i < 12 && g >= 0 && g < model.shapes.size() && model.shapes.get(g).sort < 8; i++) {
                    g = near(model.shapes.size());
                }
                return new Object[] {g, near(g)};
            case "style":
                int what = near(16);
                return new Object[] {s, what, styleValue(what)};
            case "stop": return new Object[] {s, near(258), random.nextInt()};
            case "glyph": return new Object[] {near(16), random.nextLong(), near(18)};
            case "say":
                for (int i = 0; i < 12 && s >= 0 && s < model.shapes.size() && model.shapes.get(s).sort != 6; i++) {
                    s = near(model.shapes.size());
                }
                return new Object[] {s, near(16)};
            case "begin": case "paint":
                if (random.nextInt(3) == 0) s = model.shapes.size() - 1;
                return new Object[] {p, random.nextInt(3) != 0 ? -9 : near(model.planes.size()), s, near(2)};
            case "copy":
                int q = random.nextBoolean() ? p : near(model.planes.size());
                return new Object[] {p, x, y, near(1 + w - Math.min(x, w)) + 1, near(1 + h - Math.min(y, h)) + 1, q, near(4), near(h)};
            case "grade": return new Object[] {p, near(8)};
            case "mask": return new Object[] {p, near(model.planes.size()), word()};
            case "go": return new Object[] {random.nextInt(3) == 0 ? 1 + random.nextInt(300) : near(8)};
            case "done": case "told": return new Object[] {near(6)};
            case "size": return new Object[] {p, near(4)};
            case "row": return new Object[] {p, tx, ty, near(2)};
            case "look": return new Object[] {s, random.nextInt(3) == 0 ? 19 + random.nextInt(17) : near(13)};
            case "at": return new Object[] {s, near(5), near(2)};
            case "covered": case "colour": return new Object[] {s, near(random.nextBoolean() ? 12 : 33), near(random.nextBoolean() ? 12 : 33)};
            case "hit": return new Object[] {s, place(), place()};
            case "bounds": return new Object[] {s, near(5)};
            case "compare": return new Object[] {p, near(model.planes.size()), near(2)};
            case "digest": return new Object[] {p};
            default: return new Object[0];
        }
    }
}
