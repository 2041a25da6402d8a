/** The boundary cases of how instructions read, write and exchange in memory: CLASS 1, 2 and 3. */
public final class EdgesOfAccessTest {
    private static final int EXIT = CompiledProgram.EXIT, TRAP = CompiledProgram.TRAP;
    private static final long FIRST = Check.MEMORY, END = Check.MEMORY + Check.MEMORY_BYTES;
    private static final int[] SIZES = {4, 2, 1, 8};
    private static final int READ = 0x61, READ_WITH_SIGN = 0x81, WRITE_NUMBER = 0x62, WRITE = 0x63, EXCHANGE = 0xc3;
    private static final int[] EXCHANGES = {0, 1, 64, 65, 80, 81, 160, 161, 225, 241};
    private static final long OLD = 0xf1e2d3c4b5a69788L;

    public static void main(String[] args) {
        Check.sentence("SIZES z by bits 3 and 4 of the code: 0: 4 bytes, 1: 2, 2: 1, 3: 8", EdgesOfAccessTest::sizes);
        Check.sentence("CLASS 1, mode 3: register d gets the number of z bytes at y + o, without sign (8 bytes: as they are)",
            EdgesOfAccessTest::readsWithoutSign);
        Check.sentence("mode 4, z below 8: with sign", EdgesOfAccessTest::readsWithSign);
        Check.sentence("CLASS 2: z bytes at x + o become the lowest of i (with sign)",
            EdgesOfAccessTest::writesOfTheImmediate);
        Check.sentence("CLASS 3, mode 3: z bytes at x + o become the lowest of register s",
            EdgesOfAccessTest::writesOfARegister);
        Check.sentence("Any offset.", EdgesOfAccessTest::anyOffset);
        Check.sentence("OLD becomes by i: 0: OLD + y; 64: OLD | y; 80: OLD & y; 160: OLD ^ y",
            EdgesOfAccessTest::sumsAndBitsOfOld);
        Check.sentence("225: y", EdgesOfAccessTest::swap);
        Check.sentence("241: y if OLD is the number of the lowest z bytes of register 0, else it stays",
            EdgesOfAccessTest::swapIfSame);
        Check.sentence("With i 1, 65, 81, 161 the same as one less", EdgesOfAccessTest::sameAsOneLess);
        Check.sentence("then, and for 225, register s gets OLD; without sign", EdgesOfAccessTest::sourceGetsOld);
        Check.sentence("for 241 register 0 does; without sign", EdgesOfAccessTest::registerZeroGetsOld);
        Check.sentence("The address must be a multiple of z.", EdgesOfAccessTest::multiplesOfZ);
        Check.sentence("An instruction that would read or write a byte that is not in MEMORY ends it with TRAP",
            EdgesOfAccessTest::bytesNotInMemory);
        Check.sentence("is no step, changes nothing", EdgesOfAccessTest::trapsChangeNothing);
        Check.finish();
    }

    private static long place(int code, int sizeIndex, int d, int s, int o, int i) {
        return Check.place(code | sizeIndex << 3, d, s, o, i);
    }

    private static void sizes() {
        for (int k = 0; k < 4; k++) {
            CompiledProgram x = Check.with(place(WRITE, k, 1, 2, 0, 0), Check.EXIT);
            x.put(FIRST + 8, 0);
            x.set(1, FIRST + 8);
            x.set(2, -1);
            x.run(2);
            Check.same("bytes written by size " + k, x.word(FIRST + 8), -1L >>> 64 - 8 * SIZES[k]);
            Check.same("the word behind", x.word(FIRST + 16), 0);
            Check.same("the word before", x.word(FIRST), 0);
        }
    }

    private static void read(int mode, int sizeIndex, long word, long due) {
        CompiledProgram x = Check.with(place(mode, sizeIndex, 9, 10, 0, 0), Check.EXIT);
        x.put(FIRST + 1, word);
        x.set(10, FIRST + 1);
        x.set(9, 0x5555555555555555L);
        Check.ran("a read", x, 9, EXIT, 1, 2);
        Check.same("a read of " + SIZES[sizeIndex] + " bytes of " + Long.toHexString(word), x.get(9), due);
    }

    private static void readsWithoutSign() {
        read(READ, 0, -1, 0xffffffffL);
        read(READ, 0, 0x80000000L, 0x80000000L);
        read(READ, 1, -1, 0xffff);
        read(READ, 1, 0x8000, 0x8000);
        read(READ, 2, -1, 0xff);
        read(READ, 2, 0x180, 0x80);
        read(READ, 3, -1, -1);
        read(READ, 3, Long.MIN_VALUE, Long.MIN_VALUE);
    }

    private static void readsWithSign() {
        read(READ_WITH_SIGN, 0, 0x80000000L, Integer.MIN_VALUE);
        read(READ_WITH_SIGN, 0, 0x17fffffffL, Integer.MAX_VALUE);
        read(READ_WITH_SIGN, 1, 0x8000, -32768);
        read(READ_WITH_SIGN, 1, 0x17fff, 32767);
        read(READ_WITH_SIGN, 2, 0x80, -128);
        read(READ_WITH_SIGN, 2, 0x17f, 127);
        read(READ_WITH_SIGN, 2, 0xff, -1);
    }

    private static void writesOfTheImmediate() {
        long[] due = {0xf1e2d3c480000000L, 0xf1e2d3c4b5a60000L, 0xf1e2d3c4b5a69700L, Integer.MIN_VALUE};
        long[] dueOfMinusOne = {0xf1e2d3c4ffffffffL, 0xf1e2d3c4b5a6ffffL, 0xf1e2d3c4b5a697ffL, -1};
        for (int k = 0; k < 4; k++) {
            written("the least i", place(WRITE_NUMBER, k, 10, 0, 0, Integer.MIN_VALUE), due[k]);
            written("i -1", place(WRITE_NUMBER, k, 10, 0, 0, -1), dueOfMinusOne[k]);
        }
        written("the greatest i", place(WRITE_NUMBER, 3, 10, 0, 0, Integer.MAX_VALUE), Integer.MAX_VALUE);
    }

    private static void written(String what, long w, long due) {
        CompiledProgram x = Check.with(w, Check.EXIT);
        x.put(FIRST + 8, OLD);
        x.set(10, FIRST + 8);
        x.set(9, 0x8182838485868788L);
        Check.ran(what, x, 9, EXIT, 1, 2);
        Check.same(what, x.word(FIRST + 8), due);
        Check.same(what + ": the word before", x.word(FIRST), 0);
        Check.same(what + ": the word behind", x.word(FIRST + 16), 0);
    }

    private static void writesOfARegister() {
        written("4 bytes", place(WRITE, 0, 10, 9, 0, 0), 0xf1e2d3c485868788L);
        written("2 bytes", place(WRITE, 1, 10, 9, 0, 0), 0xf1e2d3c4b5a68788L);
        written("1 byte", place(WRITE, 2, 10, 9, 0, 0), 0xf1e2d3c4b5a69788L);
        written("8 bytes", place(WRITE, 3, 10, 9, 0, 0), 0x8182838485868788L);
        written("of the register with the address", place(WRITE, 3, 10, 10, 0, 0), FIRST + 8);
    }

    private static void anyOffset() {
        for (int o : new int[] {-32768, -1, 1, 7, 32767}) {
            CompiledProgram x = Check.with(place(WRITE_NUMBER, 3, 1, 0, o, 5), place(READ, 3, 2, 1, o, 0),
                place(WRITE, 3, 1, 1, o, 0), place(READ_WITH_SIGN, 1, 3, 1, o, 0), place(EXCHANGE, 3, 1, 4, o, 225), Check.EXIT);
            x.set(1, FIRST + 16 - o);
            x.set(4, 77);
            Check.ran("accesses with the offset " + o, x, 9, EXIT, 5, 6);
            Check.same("the read", x.get(2), 5);
            Check.same("the read with sign", x.get(3), (short) (16 - o));
            Check.same("the exchange", x.get(4), FIRST + 16 - o);
            Check.same("the word", x.word(FIRST + 16), 77);
        }
    }

    /** An exchange at the first word, d 1, s 2; the word behind must stay. */
    private static CompiledProgram exchanged(int sizeIndex, int i, long old, long y, long zero) {
        CompiledProgram x = Check.with(place(EXCHANGE, sizeIndex, 1, 2, 0, i), Check.EXIT);
        x.put(FIRST, old);
        x.put(FIRST + 8, OLD);
        x.set(0, zero);
        x.set(1, FIRST);
        x.set(2, y);
        Check.ran("exchange " + i, x, 9, EXIT, 1, 2);
        Check.same("exchange " + i + ": the word behind", x.word(FIRST + 8), OLD);
        Check.same("exchange " + i + ": register d", x.get(1), FIRST);
        return x;
    }

    private static void becomes(int sizeIndex, int i, long old, long y, long due) {
        CompiledProgram x = exchanged(sizeIndex, i, old, y, 99);
        Check.same("OLD " + Long.toHexString(old) + " by " + i, x.word(FIRST), due);
        Check.same("register s", x.get(2), y);
        Check.same("register 0", x.get(0), 99);
    }

    private static void sumsAndBitsOfOld() {
        becomes(3, 0, Long.MAX_VALUE, 1, Long.MIN_VALUE);
        becomes(3, 0, -1, 1, 0);
        becomes(0, 0, 0x11223344ffffffffL, 1, 0x1122334400000000L);
        becomes(0, 0, 0x1122334400000001L, 0x55555555ffffffffL, 0x1122334400000000L);
        becomes(3, 64, Long.MIN_VALUE, 1, 0x8000000000000001L);
        becomes(0, 64, 1, 0x5555555580000000L, 0x80000001L);
        becomes(3, 80, -1, Long.MIN_VALUE, Long.MIN_VALUE);
        becomes(0, 80, -1, 0, 0xffffffff00000000L);
        becomes(3, 160, -1, -1, 0);
        becomes(0, 160, -1, -1, 0xffffffff00000000L);
    }

    private static void swap() {
        Check.same("8 bytes", exchanged(3, 225, OLD, Long.MIN_VALUE, 0).word(FIRST), Long.MIN_VALUE);
        Check.same("4 bytes", exchanged(0, 225, OLD, -1, 0).word(FIRST), 0xf1e2d3c4ffffffffL);
    }

    private static void swapIfSame() {
        Check.same("8 bytes, same", exchanged(3, 241, OLD, 5, OLD).word(FIRST), 5);
        Check.same("8 bytes, only the lowest 4 same", exchanged(3, 241, OLD, 5, 0xb5a69788L).word(FIRST), OLD);
        Check.same("8 bytes, not same", exchanged(3, 241, OLD, 5, OLD + 1).word(FIRST), OLD);
        Check.same("4 bytes, same", exchanged(0, 241, OLD, 5, 0xb5a69788L).word(FIRST), 0xf1e2d3c400000005L);
        Check.same("4 bytes, higher ones of register 0 not same", exchanged(0, 241, OLD, 5, (int) OLD).word(FIRST),
            0xf1e2d3c400000005L);
        Check.same("4 bytes, not same", exchanged(0, 241, OLD, 5, 0xf1e2d3c400000000L).word(FIRST), OLD);
        for (int k : new int[] {0, 3}) {
            Check.same("register s", exchanged(k, 241, OLD, 5, OLD).get(2), 5);
            Check.same("register s, not same", exchanged(k, 241, OLD, 5, 0).get(2), 5);
        }
    }

    private static void sameAsOneLess() {
        for (int i : new int[] {1, 65, 81, 161}) {
            for (int k : new int[] {0, 3}) {
                long y = 0x7a5b3c1d0f1e2d3cL;
                long due = exchanged(k, i - 1, OLD, y, 0).word(FIRST);
                Check.same("i " + i + ", size " + k, exchanged(k, i, OLD, y, 0).word(FIRST), due);
            }
        }
    }

    private static void sourceGetsOld() {
        for (int i : EXCHANGES) {
            boolean gets = i == 1 || i == 65 || i == 81 || i == 161 || i == 225;
            Check.same("8 bytes, i " + i, exchanged(3, i, -1, 5, 0).get(2), gets ? -1 : 5);
            Check.same("4 bytes, i " + i, exchanged(0, i, -1, 5, 0).get(2), gets ? 0xffffffffL : 5);
        }
        CompiledProgram x = Check.with(place(EXCHANGE, 3, 1, 1, 0, 1), Check.EXIT);
        x.put(FIRST, 5);
        x.set(1, FIRST);
        x.run(2);
        Check.same("OLD + the register with the address", x.word(FIRST), FIRST + 5);
        Check.same("the register that had the address", x.get(1), 5);
    }

    private static void registerZeroGetsOld() {
        for (int i : EXCHANGES) {
            Check.same("8 bytes, i " + i, exchanged(3, i, -1, 5, 9).get(0), i == 241 ? -1 : 9);
            Check.same("4 bytes, i " + i, exchanged(0, i, -1, 5, 9).get(0), i == 241 ? 0xffffffffL : 9);
        }
        Check.same("4 bytes, same", exchanged(0, 241, -1, 5, -1).get(0), 0xffffffffL);
    }

    private static void at(long w, long address, int ending) {
        CompiledProgram x = Check.with(w, Check.EXIT);
        x.set(1, address);
        x.set(2, 1);
        int steps = ending == EXIT ? 2 : 0;
        Check.ran("place " + Long.toHexString(w) + " at " + address, x, 9, ending, steps / 2, steps);
    }

    private static void multiplesOfZ() {
        for (int i : EXCHANGES) {
            for (int from = 0; from <= 16; from++) {
                at(place(EXCHANGE, 0, 1, 2, 0, i), FIRST + from, from % 4 == 0 ? EXIT : TRAP);
                at(place(EXCHANGE, 3, 1, 2, 0, i), FIRST + from, from % 8 == 0 ? EXIT : TRAP);
                at(place(EXCHANGE, 0, 1, 2, 2, i), FIRST + from, from % 4 == 2 ? EXIT : TRAP);
                at(place(EXCHANGE, 3, 1, 2, -4, i), FIRST + 8 + from, from % 8 == 4 ? EXIT : TRAP);
            }
        }
        for (int k = 0; k < 4; k++) {
            at(place(READ, k, 2, 1, 0, 0), FIRST + 1, EXIT);
            at(place(WRITE_NUMBER, k, 1, 0, 0, 1), FIRST + 1, EXIT);
            at(place(WRITE, k, 1, 2, 0, 0), FIRST + 1, EXIT);
        }
    }

    private static void bytesNotInMemory() {
        for (int k = 0; k < 4; k++) {
            edges(place(READ, k, 2, 1, 0, 0), SIZES[k], 1);
            edges(place(WRITE_NUMBER, k, 1, 0, 0, 1), SIZES[k], 1);
            edges(place(WRITE, k, 1, 2, 0, 0), SIZES[k], 1);
        }
        for (int k = 0; k < 3; k++) {
            edges(place(READ_WITH_SIGN, k, 2, 1, 0, 0), SIZES[k], 1);
        }
        for (int i : EXCHANGES) {
            edges(place(EXCHANGE, 0, 1, 2, 0, i), 4, 4);
            edges(place(EXCHANGE, 3, 1, 2, 0, i), 8, 8);
        }
    }

    /** Each address outside at which some bytes of the z are in memory, and numbers far off. */
    private static void edges(long w, int z, int step) {
        at(w, FIRST, EXIT);
        at(w, END - z, EXIT);
        for (int k = step; k <= z; k += step) {
            at(w, FIRST - k, TRAP);
            at(w, END - z + k, TRAP);
        }
        long[] farOff = {0, -z, Long.MIN_VALUE, Long.MAX_VALUE - 7, FIRST + (1L << 32), FIRST + (1L << 63), (int) FIRST};
        for (long address : farOff) {
            at(w, address, TRAP);
        }
    }

    private static void trapsChangeNothing() {
        for (int k = 0; k < 4; k++) {
            changesNothing(place(READ, k, 2, 1, 0, 0), END - SIZES[k] + 1);
            changesNothing(place(WRITE_NUMBER, k, 1, 0, 0, 1), END - SIZES[k] + 1);
            changesNothing(place(WRITE, k, 1, 2, 0, 0), FIRST - 1);
        }
        for (int i : EXCHANGES) {
            changesNothing(place(EXCHANGE, 0, 1, 2, 0, i), END);
            changesNothing(place(EXCHANGE, 3, 1, 2, 0, i), FIRST + 4);
        }
    }

    private static void changesNothing(long w, long address) {
        CompiledProgram x = Check.with(Check.place(0x07, 5, 0, 0, 1), w, Check.EXIT);
        for (int r = 0; r <= 10; r++) {
            x.set(r, r == 1 ? address : 70 + r);
        }
        for (long k : new long[] {FIRST, FIRST + 8, END - 16, END - 8}) {
            x.put(k, OLD);
        }
        Check.ran("a TRAP", x, 9, TRAP, 1, 1);
        for (int r = 0; r <= 10; r++) {
            Check.same("register " + r, x.get(r), r == 1 ? address : r == 5 ? 76 : 70 + r);
        }
        for (long k : new long[] {FIRST, FIRST + 8, END - 16, END - 8}) {
            Check.same("the word at " + k, x.word(k), OLD);
        }
    }
}
