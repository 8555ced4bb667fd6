/** Counts the answers that are not as due. */
final class Check {
    private static int wrong;

    private Check() {
    }

    static void due(String call, long got, long want) {
        if (got == want) return;
        wrong++;
        System.out.println(call + " answered " + got + ", due is " + want);
    }

    /** 0.0 and -0.0 are unlike here. */
    static void number(String call, double got, double want) {
        if (Double.compare(got, want) == 0) return;
        wrong++;
        System.out.println(call + " answered " + got + ", due is " + want);
    }

    static void end() {
        if (wrong != 0) System.exit(1);
    }
}
