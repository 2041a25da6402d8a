import java.util.Arrays;

/** The boundary cases of registers and memory as calls reach them: REGISTERS, MEMORY, promises 1 and 6 to 9. */
public final class EdgesOfStateTest {
    private static final long FIRST = Check.MEMORY;
    private static final long LAST = Check.MEMORY + Check.MEMORY_BYTES - 8;
    private static final int[] NO_REGISTERS = {-1, 11, 15, 16, 32, Integer.MIN_VALUE, Integer.MAX_VALUE};

    public static void main(String[] args) {
        Check.sentence("A new object: No program", EdgesOfStateTest::noProgram);
        Check.sentence("A new object: registers are 0", EdgesOfStateTest::registersAreZero);
        Check.sentence("A new object: memory is 0", EdgesOfStateTest::memoryIsZero);
        Check.sentence("A new object: the TAPE is empty", EdgesOfStateTest::theTapeIsEmpty);
        Check.sentence("A new object: nothing was run", EdgesOfStateTest::nothingWasRun);
        Check.sentence("REGISTERS 0 .. 10 hold longs", EdgesOfStateTest::registersHoldLongs);
        Check.sentence("Register r becomes v. IndexOutOfBoundsException: there is no such register",
            EdgesOfStateTest::setOfNoRegister);
        Check.sentence("Register r. IndexOutOfBoundsException: there is no such register",
            EdgesOfStateTest::getOfNoRegister);
        Check.sentence("MEMORY has 4,096 bytes at the addresses 2^31 on", EdgesOfStateTest::memoryOf4096Bytes);
        Check.sentence("numbers stand in it with the lowest byte first", EdgesOfStateTest::lowestByteFirst);
        Check.sentence("put: The eight bytes at an address become v", EdgesOfStateTest::putOfEightBytes);
        Check.sentence("word: The eight bytes at an address", EdgesOfStateTest::wordOfEightBytes);
        Check.sentence("put: IndexOutOfBoundsException: one is not in memory", EdgesOfStateTest::putOutsideMemory);
        Check.sentence("word: IndexOutOfBoundsException: one is not in memory", EdgesOfStateTest::wordOutsideMemory);
        Check.finish();
    }

    private static void noProgram() {
        CompiledProgram x = new CompiledProgram();
        Check.same("places()", x.places(), 0);
        Check.fails("run(0)", IllegalStateException.class, () -> x.run(0));
    }

    private static void registersAreZero() {
        CompiledProgram x = new CompiledProgram();
        for (int r = 0; r <= 10; r++) {
            Check.same("get(" + r + ")", x.get(r), 0);
        }
    }

    private static void memoryIsZero() {
        CompiledProgram x = new CompiledProgram();
        for (long address = FIRST; address <= LAST; address += 8) {
            Check.same("word(" + address + ")", x.word(address), 0);
        }
    }

    private static void theTapeIsEmpty() {
        CompiledProgram x = new CompiledProgram();
        Check.hasTyped("a new object", x, 0);
        Check.same("load()", x.load(), 0);
    }

    private static void nothingWasRun() {
        CompiledProgram x = new CompiledProgram();
        Check.same("place()", x.place(), CompiledProgram.NONE);
        Check.same("steps()", x.steps(), 0);
    }

    private static void registersHoldLongs() {
        for (long v : new long[] {Long.MIN_VALUE, Long.MAX_VALUE, -1, 1L << 32}) {
            for (int r = 0; r <= 10; r++) {
                CompiledProgram x = new CompiledProgram();
                x.set(r, v);
                for (int other = 0; other <= 10; other++) {
                    Check.same("get(" + other + ") behind set(" + r + ", " + v + ")", x.get(other), other == r ? v : 0);
                }
            }
        }
    }

    private static void setOfNoRegister() {
        CompiledProgram x = new CompiledProgram();
        for (int r : NO_REGISTERS) {
            Check.fails("set(" + r + ", 5)", IndexOutOfBoundsException.class, () -> x.set(r, 5));
        }
        for (int r = 0; r <= 10; r++) {
            Check.same("get(" + r + ") behind refused sets", x.get(r), 0);
        }
    }

    private static void getOfNoRegister() {
        CompiledProgram x = new CompiledProgram();
        for (int r : NO_REGISTERS) {
            Check.fails("get(" + r + ")", IndexOutOfBoundsException.class, () -> x.get(r));
        }
    }

    private static void memoryOf4096Bytes() {
        CompiledProgram x = new CompiledProgram();
        x.put(2147483648L, 11);
        x.put(2147483648L + 4088, 22);
        Check.same("the first word", x.word(2147483648L), 11);
        Check.same("the last word", x.word(2147483648L + 4088), 22);
        Check.fails("a word a byte before", IndexOutOfBoundsException.class, () -> x.word(2147483647L));
        Check.fails("a word a byte behind", IndexOutOfBoundsException.class, () -> x.word(2147483648L + 4089));
    }

    private static void lowestByteFirst() {
        CompiledProgram x = new CompiledProgram();
        x.put(FIRST, 0x8877665544332211L);
        for (int k = 0; k < 8; k++) {
            Check.same("the word " + k + " bytes later", x.word(FIRST + k), 0x8877665544332211L >>> 8 * k);
        }
    }

    private static void putOfEightBytes() {
        for (long address : new long[] {FIRST + 8, FIRST + 9, FIRST + 15, LAST - 8, LAST - 9}) {
            CompiledProgram x = new CompiledProgram();
            x.put(address - 8, -1);
            x.put(address + 8, -1);
            x.put(address, 0x8000000000000001L);
            Check.same("the word", x.word(address), 0x8000000000000001L);
            Check.same("the word before", x.word(address - 8), -1);
            Check.same("the word behind", x.word(address + 8), -1);
        }
    }

    private static void wordOfEightBytes() {
        CompiledProgram x = new CompiledProgram();
        for (long address : new long[] {FIRST, FIRST + 1, FIRST + 7, LAST - 1, LAST}) {
            for (long v : new long[] {Long.MIN_VALUE, Long.MAX_VALUE, -1, 255, 0}) {
                x.put(address, v);
                Check.same("word(" + address + ")", x.word(address), v);
            }
        }
    }

    /** First bytes and last bytes just outside, and numbers that a wrong sum or a cut to 32 bits would let in. */
    private static long[] outside() {
        long[] some = {
            0, -1, Long.MIN_VALUE, Long.MAX_VALUE, FIRST - 8, LAST + 8, (int) FIRST, FIRST + (1L << 32), FIRST + (1L << 63),
            FIRST - (1L << 32), LAST + (1L << 32), Long.MIN_VALUE + FIRST - 1, Long.MAX_VALUE - 7
        };
        long[] all = Arrays.copyOf(some, some.length + 14);
        for (int k = 1; k <= 7; k++) {
            all[some.length + 2 * k - 2] = FIRST - k;
            all[some.length + 2 * k - 1] = LAST + k;
        }
        return all;
    }

    private static void putOutsideMemory() {
        CompiledProgram x = new CompiledProgram();
        for (long address : outside()) {
            Check.fails("put(" + address + ", -1)", IndexOutOfBoundsException.class, () -> x.put(address, -1));
            Check.same("the first word behind put(" + address + ", -1)", x.word(FIRST), 0);
            Check.same("the last word behind put(" + address + ", -1)", x.word(LAST), 0);
        }
    }

    private static void wordOutsideMemory() {
        CompiledProgram x = new CompiledProgram();
        for (long address : outside()) {
            Check.fails("word(" + address + ")", IndexOutOfBoundsException.class, () -> x.word(address));
        }
    }
}
