import java.math.BigInteger;

/** Promise 10, classes 1, 2 and 3: reads, writes, exchanges, and the TRAP. */
public final class MemoryTest {
    private static final int[] SIZES = {4, 2, 1, 8};
    private static final int[] EXCHANGES = {0, 1, 64, 65, 80, 81, 160, 161, 225, 241};
    private static final long OLD = 0xf1e2d3c4b5a69788L;

    public static void main(String[] args) {
        reads();
        writes();
        for (int i : EXCHANGES) {
            exchange(i, 4);
            exchange(i, 8);
        }
        exchangesOfOneRegister();
        edges();
        alignment();
        wrappingAddress();
        trapIsNoStep();
        Check.finish();
    }

    private static int code(int kind, int mode, int sizeIndex) {
        return mode << 5 | sizeIndex << 3 | kind;
    }

    private static long lowest(long v, int bytes) {
        return BigInteger.valueOf(v).mod(BigInteger.ONE.shiftLeft(8 * bytes)).longValue();
    }

    private static void reads() {
        for (int k = 0; k < 4; k++) {
            int z = SIZES[k];
            for (int o : new int[] {0, 1, 5, -3, 100, -100}) {
                CompiledProgram x = Check.with(Check.place(code(1, 3, k), 9, 10, o, 0), Check.EXIT);
                x.put(Check.MEMORY + 200 + o, OLD);
                x.set(10, Check.MEMORY + 200);
                x.set(9, -1);
                Check.ran("a read of " + z, x, 9, CompiledProgram.EXIT, 1, 2);
                Check.same("a read of " + z, x.get(9), lowest(OLD, z));
                Check.same("the word stays", x.word(Check.MEMORY + 200 + o), OLD);
            }
        }
        for (int k = 0; k < 3; k++) {
            int z = SIZES[k];
            CompiledProgram x = Check.with(Check.place(code(1, 4, k), 3, 3, -8, 0), Check.EXIT);
            for (long v : Check.NUMBERS) {
                x.put(Check.MEMORY, v);
                x.set(3, Check.MEMORY + 8);
                x.run(2);
                Check.same("a read of " + z + " with sign", x.get(3), v << 64 - 8 * z >> 64 - 8 * z);
            }
        }
    }

    private static void writes() {
        for (int k = 0; k < 4; k++) {
            int z = SIZES[k];
            for (int i : Check.IMMEDIATES) {
                CompiledProgram x = Check.with(Check.place(code(2, 3, k), 10, 0, -5, i), Check.EXIT);
                written("a write of the number " + i, x, z, i);
            }
            for (long v : Check.NUMBERS) {
                CompiledProgram x = Check.with(Check.place(code(3, 3, k), 10, 6, -5, 0), Check.EXIT);
                x.set(6, v);
                written("a write of the register " + v, x, z, v);
                Check.same("the register stays", x.get(6), v);
            }
        }
    }

    private static void written(String what, CompiledProgram x, int z, long v) {
        x.put(Check.MEMORY + 92, OLD);
        x.put(Check.MEMORY + 100, OLD);
        x.set(10, Check.MEMORY + 105);
        Check.ran(what, x, 9, CompiledProgram.EXIT, 1, 2);
        long high = z == 8 ? 0 : OLD >>> 8 * z << 8 * z;
        Check.same(what + ", " + z + " bytes", x.word(Check.MEMORY + 100), high | lowest(v, z));
        Check.same(what + ": the word before", x.word(Check.MEMORY + 92), OLD);
        Check.same(what + ": the word behind", x.word(Check.MEMORY + 108), 0);
    }

    private static void exchange(int i, int z) {
        int source = i == 1 || i == 65 || i == 81 || i == 161 || i == 225 ? 7 : 10;
        for (long old : Check.NUMBERS) {
            for (long y : Check.NUMBERS) {
                CompiledProgram x = Check.with(Check.place(code(3, 6, z == 4 ? 0 : 3), 2, source, -16, i), Check.EXIT);
                for (long r0 : new long[] {old, lowest(old, 4), ~old, 0}) {
                    x.put(Check.MEMORY + 8, old);
                    x.put(Check.MEMORY + 16, -5);
                    x.set(0, r0);
                    x.set(2, Check.MEMORY + 24);
                    x.set(source, y);
                    x.run(2);
                    exchanged("exchange " + i + " of " + z + " bytes, OLD " + old + ", y " + y, x, i, z,
                        new long[] {old, y, r0, source});
                }
            }
        }
    }

    private static void exchanged(String what, CompiledProgram x, int i, int z, long[] was) {
        long old = lowest(was[0], z);
        long y = was[1];
        boolean same = old == lowest(was[2], z);
        long due;
        switch (i) {
            case 0: case 1: due = old + y; break;
            case 64: case 65: due = old | y; break;
            case 80: case 81: due = old & y; break;
            case 160: case 161: due = old ^ y; break;
            case 225: due = y; break;
            default: due = same ? y : old; break;
        }
        long high = z == 8 ? 0 : was[0] >>> 32 << 32;
        boolean givesSource = i != 241 && i % 2 == 1;
        Check.same(what, x.word(Check.MEMORY + 8), high | lowest(due, z));
        Check.same(what + ": the word behind", x.word(Check.MEMORY + 16), -5);
        Check.same(what + ": register s", x.get((int) was[3]), givesSource ? old : y);
        Check.same(what + ": register 0", x.get(0), i == 241 ? old : was[2]);
        Check.same(what + ": register d", x.get(2), Check.MEMORY + 24);
    }

    private static void exchangesOfOneRegister() {
        CompiledProgram x = Check.with(Check.place(0xdb, 1, 1, 0, 1), Check.EXIT);
        x.put(Check.MEMORY + 8, 5);
        x.set(1, Check.MEMORY + 8);
        x.run(2);
        Check.same("OLD + its address", x.word(Check.MEMORY + 8), Check.MEMORY + 13);
        Check.same("the register that held the address", x.get(1), 5);
        CompiledProgram zero = Check.with(Check.place(0xdb, 1, 0, 0, 241), Check.EXIT);
        zero.put(Check.MEMORY + 8, 5);
        zero.set(1, Check.MEMORY + 8);
        zero.set(0, 6);
        zero.run(2);
        Check.same("a swap by register 0 that is not due", zero.word(Check.MEMORY + 8), 5);
        Check.same("register 0 got OLD", zero.get(0), 5);
    }

    /** The first and the last addresses for each size and each kind of access. */
    private static void edges() {
        for (int k = 0; k < 4; k++) {
            int z = SIZES[k];
            for (long w : new long[] {
                    Check.place(code(1, 3, k), 2, 1, 0, 0), Check.place(code(2, 3, k), 1, 0, 0, 9),
                    Check.place(code(3, 3, k), 1, 2, 0, 0)}) {
                edgesOf(w, z, 1);
            }
            if (z < 8) {
                edgesOf(Check.place(code(1, 4, k), 2, 1, 0, 0), z, 1);
            }
            if (z >= 4) {
                edgesOf(Check.place(code(3, 6, k), 1, 2, 0, 1), z, z);
                edgesOf(Check.place(code(3, 6, k), 1, 2, 0, 241), z, z);
            }
        }
    }

    private static void edgesOf(long w, int z, int step) {
        CompiledProgram x = Check.with(w, Check.EXIT);
        access(x, Check.MEMORY, true);
        access(x, Check.MEMORY + 4096 - z, true);
        access(x, Check.MEMORY - step, false);
        access(x, Check.MEMORY - z, false);
        access(x, Check.MEMORY + 4096 - z + step, false);
        access(x, Check.MEMORY + 4096, false);
        access(x, 0, false);
        access(x, -z, false);
        access(x, Long.MIN_VALUE, false);
        access(x, Long.MAX_VALUE - 7, false);
        access(x, Check.MEMORY + (1L << 32), false);
        access(x, (int) Check.MEMORY, false);
    }

    private static void access(CompiledProgram x, long address, boolean isThere) {
        x.set(0, 0);
        x.set(1, address);
        x.set(2, 77);
        String what = "an access at " + address;
        Check.ran(what, x, 9, isThere ? CompiledProgram.EXIT : CompiledProgram.TRAP, isThere ? 1 : 0, isThere ? 2 : 0);
        if (!isThere) {
            Check.same(what + " changes no register", x.get(2), 77);
            Check.same(what + " changes not register 0", x.get(0), 0);
            Check.same(what + " changes not register 1", x.get(1), address);
        }
    }

    private static void alignment() {
        for (int k : new int[] {0, 3}) {
            for (int i : EXCHANGES) {
                CompiledProgram x = Check.with(Check.place(code(3, 6, k), 1, 2, 0, i), Check.EXIT);
                for (int from = 64; from <= 72; from++) {
                    boolean isMultiple = from % SIZES[k] == 0;
                    x.set(0, OLD);
                    x.set(1, Check.MEMORY + from);
                    x.set(2, 3);
                    x.put(Check.MEMORY + 64, OLD);
                    x.put(Check.MEMORY + 72, OLD);
                    Check.same("an exchange at " + from, x.run(9), isMultiple ? CompiledProgram.EXIT : CompiledProgram.TRAP);
                    if (!isMultiple) {
                        Check.same("the word stays", x.word(Check.MEMORY + 64), OLD);
                        Check.same("the next word stays", x.word(Check.MEMORY + 72), OLD);
                        Check.same("register s stays", x.get(2), 3);
                        Check.same("register 0 stays", x.get(0), OLD);
                    }
                }
            }
        }
        CompiledProgram byOffset = Check.with(Check.place(0xdb, 1, 2, 3, 0), Check.EXIT);
        byOffset.set(1, Check.MEMORY + 5);
        Check.ran("a multiple with the offset", byOffset, 9, CompiledProgram.EXIT, 1, 2);
    }

    private static void wrappingAddress() {
        for (int o : new int[] {32767, -32768}) {
            CompiledProgram x = Check.with(Check.place(0x79, 2, 1, o, 0), Check.place(0x7b, 1, 2, o, 0),
                Check.place(0x7a, 1, 0, o, 6), Check.place(0xdb, 1, 2, o, 1), Check.EXIT);
            x.set(1, Check.MEMORY + 4088 - o);
            Check.same("a great offset", x.run(3), CompiledProgram.FUEL);
            Check.same("what was written", x.word(Check.MEMORY + 4088), 6);
            x.set(1, Long.MAX_VALUE);
            Check.ran("an address that wraps or is too great", x, 9, CompiledProgram.TRAP, 0, 0);
        }
    }

    private static void trapIsNoStep() {
        CompiledProgram x = Check.with(Check.place(0x07, 5, 0, 0, 1), Check.place(0x79, 6, 7, 0, 0), Check.EXIT);
        Check.ran("a TRAP behind a step", x, 9, CompiledProgram.TRAP, 1, 1);
        Check.same("the step before it was made", x.get(5), 1);
        Check.ran("no fuel for the TRAP", x, 1, CompiledProgram.FUEL, 1, 1);
        Check.ran("fuel for the TRAP", x, 2, CompiledProgram.TRAP, 1, 1);
        x.set(7, Check.MEMORY);
        Check.ran("no TRAP now", x, 9, CompiledProgram.EXIT, 2, 3);
    }
}
