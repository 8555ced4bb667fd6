/** What README.md shows, call by call, with the answers that it tells. */
public final class ReadmeTest {
    public static void main(String[] args) {
        RasterHouse house = new RasterHouse();
        firstPainting(house);
        inParts(house);
        refusalsAndFaults(house);
        Check.end();
    }

    private static void firstPainting(RasterHouse house) {
        int plane = house.plane(4, 16, 16);
        int oval = house.shape(5);
        house.point(oval, 0, 0);
        house.point(oval, 4096, 2048);
        house.style(oval, 0, 0x3366CC);
        Check.due("paint()", house.paint(plane, RasterHouse.NONE, oval, 0), 4);
        Check.due("done(2)", house.done(2), 114);
        Check.due("dot()", house.dot(plane, 8, 4), 0x3366CC);
        Check.due("undo()", house.undo(), 0);
        Check.due("dot(), taken back", house.dot(plane, 8, 4), 0);
        Check.due("redo()", house.redo(), 0);
    }

    private static void inParts(RasterHouse house) {
        int depth = house.plane(7, 16, 16);
        house.blank(depth, 800);
        int frame = house.shape(0);
        house.point(frame, 0, 0);
        house.point(frame, 2048, 4096);
        int clip = house.shape(9);
        house.join(clip, frame);
        house.join(clip, 0);
        house.style(0, 1, 50);
        Check.due("begin()", house.begin(0, depth, clip, 1), 4);
        Check.due("go()", house.go(3), 3);
        Check.due("put() in between", house.put(0, 0, 0, 1), RasterHouse.STATE);
        Check.due("go(), the rest", house.go(2000), 1);
        Check.number("glow()", house.glow(depth, 4, 4), 50.0);
        Check.number("glow(), beyond the frame", house.glow(depth, 12, 4), 100.0);
    }

    private static void refusalsAndFaults(RasterHouse house) {
        Check.due("paint(), no shape", house.paint(0, RasterHouse.NONE, 30, 0), RasterHouse.UNKNOWN);
        Check.due("tile()", house.tile(0, 1, 1, 4, 10), 10);
        Check.due("put() into a hole", house.put(0, 15, 15, 1), -13);
        Check.due("finding()", house.finding(), 3);
    }
}
