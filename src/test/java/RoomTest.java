import java.lang.management.ManagementFactory;

/** The room of a run: the dearest calls, again and again, must make next to nothing. */
final class RoomTest {
    private static final Check CHECK = new Check();

    public static void main(String[] args) {
        OverFirst warm = dear();
        askAll(warm, 3);
        long before = made();
        OverFirst x = dear();
        long after = made();
        CHECK.due("bytes of a new object and its first town stay under 64 KiB: " + (after - before), after - before < 65536, true);
        askAll(x, 1);
        long first = made();
        CHECK.due("bytes of the tables stay under 4 MB: " + (first - after), first - after < 4000000, true);
        askAll(x, 25);
        long later = made();
        CHECK.due("bytes of 475 calls more stay under 4 KiB: " + (later - first), later - first < 4096, true);
        small();
        small();
        CHECK.end();
    }

    /** A town of few corners and short rounds needs short tables. */
    private static void small() {
        long before = made();
        OverFirst x = Check.made("town 2 3;walk 5;run 3;runs 1;light 0 0 clock round 10 over 0 for 4;light 0 1 hidden round 4 over 0 for 2;rule a 1;");
        Check.walk(x, "on0;on9;over14;");
        askAll(x, 5);
        long bytes = made() - before;
        CHECK.due("bytes of an object with a small town stay under 80 KiB: " + bytes, bytes < 81920, true);
    }

    private static long made() {
        com.sun.management.ThreadMXBean bean = (com.sun.management.ThreadMXBean) ManagementFactory.getThreadMXBean();
        return bean.getThreadAllocatedBytes(Thread.currentThread().getId());
    }

    /** Rounds of 48, 50 and 60 seconds: the least common multiple is 1,200, the most there can be. */
    private static OverFirst dear() {
        OverFirst x = new OverFirst();
        Check.town(x, TOWN);
        Check.walk(x, "on0;on0;on0;on0;on0;on0;on0;on0;over0;over0;over0;over0;over0;");
        return x;
    }

    private static final String TOWN = "town 6 9;walk 9;run 1;slow 30;runs 9;rule a on<over+left;"
        + "light0 0clock round48over0for20;light0 1clock round48over3for20;light0 2hidden round48over0for9;light0 3clock round48over0for1;"
        + "light1 1clock round50over9for21;light2 1clock round60over0for29;light3 1hidden round60over0for30;light2 2hidden round50over4for20;"
        + "light3 3clock round60over0for20;light4 4hidden round60over0for20;light5 5clock round48over0for20;light3 7hidden round50over0for7;";

    private static void askAll(OverFirst x, int times) {
        for (int i = 0; i < times; i++) {
            x.feed(0x2020202020202020L, 0, 0);
            x.stay(1);
            x.mark(i % 4, i % 5 == 4);
            x.soonest(0, 0, i, 12);
            x.latest(0, 0, i);
            x.turning(i, 12);
            x.fits(2);
            x.mean(3, 0, 0, i);
            x.worst(4, 0, 0, i);
            x.gap(0, 0, i);
            x.choice(0, 2, i, 7);
            x.watch(3, 7, i);
            x.worthiest(i);
            x.odds(3, i, 300);
            x.odds(2, i, 300);
            x.nights(i, 30, 3, 0);
            x.pace(i, 0);
            x.wave(0, 0, 4, true, 0);
            x.rules();
        }
    }
}
