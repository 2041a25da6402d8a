import java.util.Arrays;

/** Promises 2 to 5: feed, end, load, places. */
public final class TapeTest {
    private static final int NONE = CompiledProgram.NONE;

    public static void main(String[] args) {
        feedCounts();
        feedIsHighestByteFirst();
        feedHasALimit();
        endCuts();
        endRefuses();
        loadTakesTheTape();
        loadRefuses();
        loadLeavesTheRest();
        longProgram();
        longestProgram();
        Check.finish();
    }

    private static void feedCounts() {
        CompiledProgram x = new CompiledProgram();
        for (int k = 1; k <= 100; k++) {
            Check.same("feed number " + k, x.feed(k, k, k, k, k), 20 * k);
        }
    }

    private static void feedIsHighestByteFirst() {
        CompiledProgram x = new CompiledProgram();
        // r1 = 0x44332211, r2 = -2, EXIT; the last four bytes are cut.
        x.feed(0xb7010000, 0x11223344, 0xb7020000, 0xfeffffff, 0x95000000);
        Check.same("the second feed", x.feed(0, 0, 0, 0, 0), 40);
        x.end(24);
        Check.same("load()", x.load(), NONE);
        Check.same("places()", x.places(), 3);
        Check.ran("as typed", x, 10, CompiledProgram.EXIT, 2, 3);
        Check.same("r1", x.get(1), 0x44332211);
        Check.same("r2", x.get(2), -2);
    }

    /** Beyond the 512 calls of the document, as no fewer can fill a tape. */
    private static void feedHasALimit() {
        CompiledProgram x = new CompiledProgram();
        for (int k = 1; k <= 1638; k++) {
            Check.same("feed", x.feed(-1, 0, 0, 0, 0), 20 * k);
        }
        Check.fails("a feed beyond 32768", IllegalStateException.class, () -> x.feed(0, 0, 0, 0, 0));
        x.end(32760);
        Check.fails("a feed beyond 32768, again", IllegalStateException.class, () -> x.feed(0, 0, 0, 0, 0));
        x.end(32749);
        Check.fails("a feed to 32769", IllegalStateException.class, () -> x.feed(0, 0, 0, 0, 0));
        x.end(32748);
        Check.same("a feed to 32768", x.feed(0, 0, 0, 0, 0), 32768);
        x.end(32768);
        Check.fails("a feed on a full tape", IllegalStateException.class, () -> x.feed(0, 0, 0, 0, 0));
        Check.same("load() of it", x.load(), 0);
        Check.same("feed then", x.feed(0, 0, 0, 0, 0), 20);
    }

    private static void endCuts() {
        CompiledProgram x = new CompiledProgram();
        x.end(0);
        x.feed(0x95000000, 0, -1, -1, -1);
        x.end(20);
        x.end(9);
        x.end(8);
        Check.same("feed behind a cut", x.feed(0, 0, 0, 0, 0), 28);
        x.end(8);
        Check.same("load() of what is before the cut", x.load(), NONE);
        Check.same("places()", x.places(), 1);
    }

    private static void endRefuses() {
        CompiledProgram x = new CompiledProgram();
        x.feed(1, 2, 3, 4, 5);
        for (int n : new int[] {-1, 21, 32768, Integer.MIN_VALUE, Integer.MAX_VALUE}) {
            Check.fails("end(" + n + ")", IllegalArgumentException.class, () -> x.end(n));
        }
        x.end(19);
        Check.fails("end(20) behind end(19)", IllegalArgumentException.class, () -> x.end(20));
        Check.same("feed behind wrong ends", x.feed(1, 2, 3, 4, 5), 39);
    }

    private static void loadTakesTheTape() {
        CompiledProgram x = Check.with(Check.EXIT);
        Check.same("places()", x.places(), 1);
        Check.fails("end(1), the tape being used up", IllegalArgumentException.class, () -> x.end(1));
        Check.same("feed, the tape being used up", x.feed(0x95000000, 0, 0x95000000, 0, 0), 20);
        Check.same("places() before the load", x.places(), 1);
        x.end(16);
        Check.same("the second load()", x.load(), NONE);
        Check.same("places() of the second program", x.places(), 2);
    }

    private static void loadRefuses() {
        CompiledProgram x = Check.with(Check.EXIT);
        Check.same("load() of an empty tape", x.load(), 0);
        Check.same("places() then", x.places(), 0);
        Check.fails("run(1) then", IllegalStateException.class, () -> x.run(1));
        Check.same("load() of a wrong one", Check.load(x, Check.place(0xb7, 0, 0, 0, 1), 255), 1);
        Check.same("feed behind a refused tape", x.feed(0, 0, 0, 0, 0), 20);
        x.end(0);
        Check.same("load() of a right one", Check.load(x, Check.EXIT, Check.EXIT), NONE);
        Check.same("places() of it", x.places(), 2);
        Check.same("load() of a wrong one", Check.load(x, 255), 0);
        Check.same("places(): the one before is gone too", x.places(), 0);
    }

    private static void loadLeavesTheRest() {
        CompiledProgram x = Check.with(Check.place(0xb7, 3, 0, 0, 7), Check.EXIT);
        x.put(Check.MEMORY + 80, 99);
        x.set(10, 5);
        x.run(10);
        Check.load(x, Check.EXIT);
        isAsBefore("behind a right load()", x);
        Check.load(x, 255);
        isAsBefore("behind a refused load()", x);
        Check.fails("run(1) without a program", IllegalStateException.class, () -> x.run(1));
        isAsBefore("behind a run that threw", x);
    }

    private static void isAsBefore(String what, CompiledProgram x) {
        Check.same("r3 " + what, x.get(3), 7);
        Check.same("r10 " + what, x.get(10), 5);
        Check.same("a word " + what, x.word(Check.MEMORY + 80), 99);
        Check.same("place() " + what, x.place(), 1);
        Check.same("steps() " + what, x.steps(), 2);
    }

    private static void longProgram() {
        CompiledProgram x = Check.with(row(1000));
        Check.same("places() of a long one", x.places(), 1000);
        Check.ran("a long one", x, 1000, CompiledProgram.EXIT, 999, 1000);
        Check.same("what it added", x.get(1), 999);
        Check.same("load() of a short one", Check.load(x, row(3)), NONE);
        Check.same("places() of a short one", x.places(), 3);
        Check.ran("a short one", x, 1000, CompiledProgram.EXIT, 2, 3);
    }

    /** Beyond the 512 calls, too. */
    private static void longestProgram() {
        CompiledProgram x = new CompiledProgram();
        byte[] bytes = Check.bytesOf(row(4096));
        Check.type(x, bytes, 32760);
        x.end(32748);
        Check.same("the last feed", Check.feed(x, bytes, 32748), 32768);
        Check.same("load() of the longest", x.load(), NONE);
        Check.same("places() of the longest", x.places(), 4096);
        Check.ran("the longest", x, 100000, CompiledProgram.EXIT, 4095, 4096);
    }

    /** n - 1 times r1 += 1, then EXIT. */
    private static long[] row(int n) {
        long[] places = new long[n];
        Arrays.fill(places, Check.place(0x07, 1, 0, 0, 1));
        places[n - 1] = Check.EXIT;
        return places;
    }
}
