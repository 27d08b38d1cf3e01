/** All promises: drawn runs of calls, each answer laid beside the one of Model; no call may throw. */
public final class ModelTest {
    /** The number of runs can be told, and the first one's seed. */
    public static void main(String[] args) {
        int runs = args.length > 0 ? Integer.parseInt(args[0]) : 400;
        int first = args.length > 1 ? Integer.parseInt(args[1]) : 1;
        int failed = 0;
        long compared = 0;
        for (int seed = first; seed < first + runs; seed++) {
            Twin twin = new Twin(seed);
            play(twin, seed);
            compared += twin.answers();
            if (twin.differs()) {
                failed++;
                System.out.println("seed " + seed + ", call " + twin.answers() + ":\n" + twin.told());
            }
        }
        System.out.println("ModelTest: " + runs + " runs, " + compared + " answers, " + failed + " runs not as due");
        if (failed != 0 || runs < 1) {
            System.exit(1);
        }
    }

    /** A run goes on to the last of the calls for which an object is used. */
    private static void play(Twin twin, int seed) {
        if (seed % 8 != 0) {
            twin.readTape();
        }
        while (twin.hasRoomFor(1)) {
            twin.callAny();
        }
    }
}
