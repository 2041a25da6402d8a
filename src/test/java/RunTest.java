import java.util.Random;

/** Promises 10 to 12: fuel, endings, place, steps; and that no call throws but as the document says. */
public final class RunTest {
    private static final int[] CODES = {
        0x07, 0x0f, 0x17, 0x27, 0x37, 0x3f, 0x97, 0x9f, 0x6f, 0x7f, 0xcf, 0xb7, 0xbf, 0x87, 0xd7, 0xd4, 0xdc, 0x34, 0x9c,
        0x6c, 0x05, 0x06, 0x15, 0x1d, 0x2e, 0x55, 0xc6, 0x85, 0x95, 0x61, 0x79, 0x81, 0x91, 0x62, 0x7a, 0x6b, 0x7b, 0xc3, 0xdb, 0x18
    };

    public static void main(String[] args) {
        wrongFuel();
        fuel();
        exitIsAStep();
        stateStays();
        manySteps();
        nothingElseIsThrown();
        Check.finish();
    }

    private static void wrongFuel() {
        CompiledProgram none = new CompiledProgram();
        CompiledProgram one = Check.with(Check.EXIT);
        one.run(1);
        for (int fuel : new int[] {-1, 100001, Integer.MIN_VALUE, Integer.MAX_VALUE}) {
            Check.fails("run(" + fuel + ") without a program", IllegalArgumentException.class, () -> none.run(fuel));
            Check.fails("run(" + fuel + ")", IllegalArgumentException.class, () -> one.run(fuel));
        }
        Check.fails("run(0) without a program", IllegalStateException.class, () -> none.run(0));
        Check.fails("run(100000) without a program", IllegalStateException.class, () -> none.run(100000));
        Check.same("place() behind runs that threw", none.place(), CompiledProgram.NONE);
        Check.same("steps() behind runs that threw", none.steps(), 0);
        Check.same("place() of the run before", one.place(), 0);
        Check.same("steps() of the run before", one.steps(), 1);
    }

    private static void fuel() {
        CompiledProgram x = Check.with(Check.place(0x07, 1, 0, 0, 1), Check.place(0x18, 2, 0, 0, 1), 0,
            Check.place(0x07, 1, 0, 0, 1), Check.EXIT);
        Check.ran("no fuel", x, 0, CompiledProgram.FUEL, 0, 0);
        Check.same("no fuel, no step", x.get(1), 0);
        Check.ran("fuel 1", x, 1, CompiledProgram.FUEL, 1, 1);
        Check.same("r1", x.get(1), 1);
        Check.ran("fuel 2", x, 2, CompiledProgram.FUEL, 3, 2);
        Check.ran("fuel 3", x, 3, CompiledProgram.FUEL, 4, 3);
        Check.ran("fuel 4", x, 4, CompiledProgram.EXIT, 4, 4);
        Check.ran("fuel 5", x, 5, CompiledProgram.EXIT, 4, 4);
        Check.ran("no fuel again", x, 0, CompiledProgram.FUEL, 0, 0);
    }

    private static void exitIsAStep() {
        CompiledProgram x = Check.with(Check.EXIT, Check.EXIT);
        Check.ran("no fuel for the EXIT", x, 0, CompiledProgram.FUEL, 0, 0);
        Check.ran("fuel for the EXIT", x, 1, CompiledProgram.EXIT, 0, 1);
    }

    private static void stateStays() {
        CompiledProgram x = Check.with(Check.place(0x07, 1, 0, 0, 1), Check.place(0x7b, 2, 1, 0, 0), Check.EXIT);
        x.set(2, Check.MEMORY);
        for (int k = 1; k <= 5; k++) {
            Check.ran("a run again", x, 9, CompiledProgram.EXIT, 2, 3);
            Check.same("r1 goes on", x.get(1), k);
            Check.same("memory goes on", x.word(Check.MEMORY), k);
        }
    }

    private static void manySteps() {
        CompiledProgram x = Check.with(Check.place(0x07, 1, 0, 0, 1), Check.place(0x05, 0, 0, -2, 0));
        for (int k = 1; k <= 100; k++) {
            Check.ran("the most fuel", x, 100000, CompiledProgram.FUEL, 0, 100000);
            Check.same("r1", x.get(1), 50000L * k);
        }
        Check.ran("an odd fuel", x, 99999, CompiledProgram.FUEL, 1, 99999);
    }

    /** Any calls in any order: only the exceptions that a call names, and answers that fit one another. */
    private static void nothingElseIsThrown() {
        Random random = new Random(20261115);
        int loaded = 0;
        for (int k = 0; k < 20000; k++) {
            CompiledProgram x = new CompiledProgram();
            for (int c = 0; c < 40; c++) {
                loaded += anyCall(x, random);
            }
        }
        Check.holds("some programs were loaded", loaded > 1000);
    }

    private static int anyCall(CompiledProgram x, Random random) {
        try {
            switch (random.nextInt(9)) {
                case 0: x.feed(random.nextInt(), random.nextInt(), 0, random.nextInt(), random.nextInt()); break;
                case 1: x.end(random.nextInt(60) - 5); break;
                case 2: x.end(0); return Check.load(x, anyProgram(random)) == CompiledProgram.NONE ? 1 : 0;
                case 3: x.load(); break;
                case 4: x.set(random.nextInt(13) - 1, anyNumber(random)); break;
                case 5: x.get(random.nextInt(13) - 1); break;
                case 6: x.put(anyNumber(random), anyNumber(random)); break;
                case 7: x.word(anyNumber(random)); break;
                default: runFits(x, random.nextInt(100)); break;
            }
        } catch (IllegalStateException | IllegalArgumentException e) {
            return 0;
        } catch (IndexOutOfBoundsException e) {
            Check.holds("no index of an array", e.getClass() == IndexOutOfBoundsException.class);
        }
        return 0;
    }

    private static void runFits(CompiledProgram x, int fuel) {
        int ending = x.run(fuel);
        boolean fits = ending == CompiledProgram.FUEL ? x.steps() == fuel
            : ending == CompiledProgram.EXIT ? x.steps() >= 1 && x.steps() <= fuel : x.steps() < fuel;
        Check.holds("steps() fit the ending", fits);
        Check.holds("place() is in the program", x.place() >= 0 && x.place() < x.places());
    }

    private static long anyNumber(Random random) {
        switch (random.nextInt(3)) {
            case 0: return Check.NUMBERS[random.nextInt(Check.NUMBERS.length)];
            case 1: return Check.MEMORY - 16 + random.nextInt(4128);
            default: return random.nextLong();
        }
    }

    /** Mostly right places, now and then with one field too many. */
    private static long[] anyProgram(Random random) {
        int n = 1 + random.nextInt(8);
        long[] places = new long[n];
        for (int p = 0; p < n; p++) {
            int code = CODES[random.nextInt(CODES.length)];
            boolean hasSource = (code & 8) != 0 && code != 0xdc && code != 0x18 && code != 0x7a || (code & 7) == 1;
            int kind = code & 7;
            int d = code == 0x05 || code == 0x06 || code == 0x85 || code == 0x95 ? 0 : random.nextInt(10);
            int s = hasSource ? random.nextInt(11) : 0;
            int o = kind == 5 && code < 0x80 || kind == 6 && code != 0x06 ? random.nextInt(n) - p - 1 : 0;
            int i = hasSource || code == 0x05 || code == 0x95 || code == 0x87 ? 0 : random.nextInt();
            i = code == 0xd7 || code == 0xd4 || code == 0xdc ? 16 << random.nextInt(3) : i;
            i = code == 0x06 ? random.nextInt(n) - p - 1 : i;
            i = code == 0xc3 || code == 0xdb ? new int[] {0, 1, 64, 65, 80, 81, 160, 161, 225, 241}[random.nextInt(10)] : i;
            places[p] = Check.place(code, d, s, o, i);
            if (code == 0x18 && p + 1 < n) {
                places[++p] = Check.place(0, 0, 0, 0, random.nextInt());
            }
            if (random.nextInt(60) == 0) {
                places[p] ^= 1L << random.nextInt(64);
            }
        }
        if (random.nextInt(4) != 0) {
            places[n - 1] = Check.EXIT;
        }
        return places;
    }
}
