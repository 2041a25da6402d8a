/** What the tests share: counting wrong answers, writing places, typing programs. */
final class Check {
    static final long MEMORY = 1L << 31;
    static final int MEMORY_BYTES = 4096;
    static final long EXIT = place(0x95, 0, 0, 0, 0);
    static final long[] NUMBERS = {
        0, 1, 2, 3, 7, 31, 32, 33, 63, 64, 65, 127, 128, 255, 256, 32767, 32768, 65535, 65536, -1, -2, -7, -128, -129,
        Integer.MAX_VALUE, Integer.MIN_VALUE, 1L << 31, (1L << 32) - 1, 1L << 32, (1L << 32) + 1, 0x80000001L,
        Long.MAX_VALUE, Long.MIN_VALUE, Long.MIN_VALUE + 1, 0x123456789abcdef0L, 0xfedcba9876543210L, 0x8000000080000000L
    };
    static final int[] IMMEDIATES = {
        0, 1, 2, 3, 7, 31, 32, 33, 63, 64, 65, 255, 65536, -1, -2, -7, Integer.MAX_VALUE, Integer.MIN_VALUE, 0x12345678
    };

    private static final int PRINTED = 20;

    private static int wrong = 0;
    private static int wrongOfSentence = 0;
    private static String sentence = "";

    private Check() {
    }

    interface Call {
        void make();
    }

    /** Tests what these words of the document say: they stand before each answer that is wrong. */
    static void sentence(String words, Call test) {
        sentence = "\"" + words + "\": ";
        wrongOfSentence = 0;
        try {
            test.make();
        } catch (RuntimeException e) {
            // So that the other sentences are tested all the same.
            isWrong("a call threw " + e + ", none was due");
        }
        sentence = "";
    }

    static void same(String what, long got, long due) {
        if (got != due) {
            isWrong(what + " answered " + got + ", due is " + due);
        }
    }

    static void same(String what, String got, String due) {
        if (!got.equals(due)) {
            isWrong(what + " answered " + got + ", due is " + due);
        }
    }

    static void holds(String what, boolean so) {
        if (!so) {
            isWrong("it does not hold that " + what);
        }
    }

    /** A test of many inputs may find thousands wrong: the first ones tell enough. */
    private static void isWrong(String what) {
        wrong++;
        wrongOfSentence++;
        if (wrongOfSentence <= PRINTED) {
            System.out.println(sentence + what);
        }
    }

    static void fails(String what, Class<? extends RuntimeException> due, Call call) {
        Class<?> got = null;
        try {
            call.make();
        } catch (RuntimeException e) {
            got = e.getClass();
        }
        if (got != due) {
            isWrong(what + " threw " + got + ", due is " + due);
        }
    }

    static void finish() {
        if (wrong != 0) {
            System.out.println(wrong + " answers are not as due");
            System.exit(1);
        }
    }

    static long place(int code, int d, int s, int o, int i) {
        return (long) i << 32 | (o & 0xffffL) << 16 | (s & 15L) << 12 | (d & 15L) << 8 | code & 255L;
    }

    static byte[] bytesOf(long... places) {
        byte[] bytes = new byte[8 * places.length];
        for (int k = 0; k < bytes.length; k++) {
            bytes[k] = (byte) (places[k / 8] >>> 8 * (k % 8));
        }
        return bytes;
    }

    /** Types the first n bytes of a row, and cuts what was typed too much. */
    static void type(CompiledProgram x, byte[] bytes, int n) {
        for (int from = 0; from < n; from += 20) {
            feed(x, bytes, from);
        }
        x.end(n);
    }

    /** Types twenty bytes of a row, zeros where it has none. */
    static int feed(CompiledProgram x, byte[] bytes, int from) {
        int[] five = new int[5];
        for (int k = 0; k < 20; k++) {
            int b = from + k < bytes.length ? bytes[from + k] & 255 : 0;
            five[k / 4] = five[k / 4] << 8 | b;
        }
        return x.feed(five[0], five[1], five[2], five[3], five[4]);
    }

    static int load(CompiledProgram x, long... places) {
        type(x, bytesOf(places), 8 * places.length);
        return x.load();
    }

    /** An object with a program that must be right. */
    static CompiledProgram with(long... places) {
        CompiledProgram x = new CompiledProgram();
        int wrongPlace = load(x, places);
        if (wrongPlace != CompiledProgram.NONE) {
            same("load() of a right program, first place " + Long.toHexString(places[0]), wrongPlace, CompiledProgram.NONE);
        }
        return x;
    }

    /** That the tape has n bytes, told without changing it: one more is asked for first, as that must be refused. */
    static void hasTyped(String what, CompiledProgram x, int n) {
        fails(what + ": end(" + (n + 1) + ")", IllegalArgumentException.class, () -> x.end(n + 1));
        try {
            x.end(n);
        } catch (IllegalArgumentException e) {
            isWrong(what + ": the tape has not " + n + " bytes");
        }
    }

    static void ran(String what, CompiledProgram x, int fuel, int ending, int place, int steps) {
        same(what + ": run(" + fuel + ")", x.run(fuel), ending);
        same(what + ": place()", x.place(), place);
        same(what + ": steps()", x.steps(), steps);
    }
}
