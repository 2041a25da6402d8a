import java.math.BigInteger;

/** Promise 10, classes 7, 4 and 0: each result against one worked out with BigInteger. */
public final class ArithmeticTest {
    private static final int[] TWO_OPERANDS = {0, 1, 2, 3, 4, 5, 6, 7, 9, 10, 11, 12};

    public static void main(String[] args) {
        for (int n : TWO_OPERANDS) {
            operation(n, 0);
        }
        operation(3, 1);
        operation(9, 1);
        moves();
        negations();
        turnings();
        twoPlaces();
        sameRegister();
        writtenOut();
        Check.finish();
    }

    private static void operation(int n, int o) {
        for (int kind : new int[] {7, 4}) {
            int bits = kind == 7 ? 64 : 32;
            for (long y : Check.NUMBERS) {
                CompiledProgram byRegister = Check.with(Check.place(n << 4 | 8 | kind, 3, 7, o, 0), Check.EXIT);
                everyX("class " + kind + ", n " + n + ", o " + o + ", y " + y, byRegister, n, o, bits, y);
            }
            for (int i : Check.IMMEDIATES) {
                CompiledProgram byNumber = Check.with(Check.place(n << 4 | kind, 3, 0, o, i), Check.EXIT);
                everyX("class " + kind + ", n " + n + ", o " + o + ", i " + i, byNumber, n, o, bits, i);
            }
        }
    }

    private static void everyX(String what, CompiledProgram x, int n, int o, int bits, long y) {
        for (long v : Check.NUMBERS) {
            x.set(3, v);
            x.set(7, y);
            Check.ran(what + ", x " + v, x, 5, CompiledProgram.EXIT, 1, 2);
            Check.same(what + ", x " + v, x.get(3), due(n, o == 1, bits, v, y));
            Check.same(what + ", x " + v + ": y", x.get(7), y);
        }
    }

    private static BigInteger unsigned(long v, int bits) {
        return BigInteger.valueOf(v).mod(BigInteger.ONE.shiftLeft(bits));
    }

    private static BigInteger signed(long v, int bits) {
        BigInteger u = unsigned(v, bits);
        return u.testBit(bits - 1) ? u.subtract(BigInteger.ONE.shiftLeft(bits)) : u;
    }

    private static long due(int n, boolean withSign, int bits, long xv, long yv) {
        BigInteger x = withSign ? signed(xv, bits) : unsigned(xv, bits);
        BigInteger y = withSign ? signed(yv, bits) : unsigned(yv, bits);
        int shift = (int) (yv & bits - 1);
        BigInteger r;
        switch (n) {
            case 0: r = x.add(y); break;
            case 1: r = x.subtract(y); break;
            case 2: r = x.multiply(y); break;
            case 3: r = y.signum() == 0 ? BigInteger.ZERO : x.divide(y); break;
            case 4: r = x.or(y); break;
            case 5: r = x.and(y); break;
            case 6: r = x.shiftLeft(shift); break;
            case 7: r = x.shiftRight(shift); break;
            case 9: r = y.signum() == 0 ? x : x.remainder(y); break;
            case 10: r = x.xor(y); break;
            case 11: r = y; break;
            default: r = signed(xv, bits).shiftRight(shift); break;
        }
        return r.mod(BigInteger.ONE.shiftLeft(bits)).longValue();
    }

    private static void moves() {
        for (int o : new int[] {8, 16, 32}) {
            CompiledProgram wide = Check.with(Check.place(0xbf, 3, 7, o, 0), Check.EXIT);
            for (long y : Check.NUMBERS) {
                wide.set(7, y);
                wide.set(3, 0x5555555555555555L);
                wide.run(2);
                Check.same("wide move of " + o + " bits of " + y, wide.get(3), signed(y, o).longValue());
            }
        }
        for (int o : new int[] {8, 16}) {
            CompiledProgram narrow = Check.with(Check.place(0xbc, 3, 7, o, 0), Check.EXIT);
            for (long y : Check.NUMBERS) {
                narrow.set(7, y);
                narrow.set(3, 0x5555555555555555L);
                narrow.run(2);
                Check.same("narrow move of " + o + " bits of " + y, narrow.get(3), unsigned(signed(y, o).longValue(), 32).longValue());
            }
        }
    }

    private static void negations() {
        CompiledProgram wide = Check.with(Check.place(0x87, 9, 0, 0, 0), Check.EXIT);
        CompiledProgram narrow = Check.with(Check.place(0x84, 9, 0, 0, 0), Check.EXIT);
        for (long v : Check.NUMBERS) {
            wide.set(9, v);
            wide.run(2);
            Check.same("wide -" + v, wide.get(9), BigInteger.valueOf(v).negate().longValue());
            narrow.set(9, v);
            narrow.run(2);
            Check.same("narrow -" + v, narrow.get(9), BigInteger.valueOf(v).negate().mod(BigInteger.ONE.shiftLeft(32)).longValue());
        }
    }

    private static void turnings() {
        for (int bits : new int[] {16, 32, 64}) {
            CompiledProgram wide = Check.with(Check.place(0xd7, 2, 0, 0, bits), Check.EXIT);
            CompiledProgram cut = Check.with(Check.place(0xd4, 2, 0, 0, bits), Check.EXIT);
            CompiledProgram turned = Check.with(Check.place(0xdc, 2, 0, 0, bits), Check.EXIT);
            for (long v : Check.NUMBERS) {
                long due = 0;
                for (int k = 0; k < bits / 8; k++) {
                    due |= (v >>> 8 * k & 255) << bits - 8 - 8 * k;
                }
                wide.set(2, v);
                wide.run(2);
                Check.same("class 7, " + bits + " bits of " + v + " turned", wide.get(2), due);
                turned.set(2, v);
                turned.run(2);
                Check.same("class 4, " + bits + " bits of " + v + " turned", turned.get(2), due);
                cut.set(2, v);
                cut.run(2);
                Check.same("class 4, " + bits + " bits of " + v, cut.get(2), unsigned(v, bits).longValue());
            }
        }
    }

    private static void twoPlaces() {
        for (int low : Check.IMMEDIATES) {
            for (int high : Check.IMMEDIATES) {
                CompiledProgram x = Check.with(Check.place(0x18, 9, 0, 0, low), Check.place(0, 0, 0, 0, high), Check.EXIT);
                Check.ran("two places", x, 5, CompiledProgram.EXIT, 2, 2);
                Check.same("two places " + low + ", " + high, x.get(9), BigInteger.valueOf(high).shiftLeft(32).add(unsigned(low, 32)).longValue());
            }
        }
        CompiledProgram map = Check.with(Check.place(0x18, 4, 1, 0, 0x7fffffff), 0, Check.EXIT);
        map.set(4, -1);
        map.set(1, 77);
        Check.ran("a map", map, 5, CompiledProgram.EXIT, 2, 2);
        Check.same("a map", map.get(4), 0x7fffffff);
        Check.same("register 1, that of no map", map.get(1), 77);
    }

    private static void sameRegister() {
        CompiledProgram x = Check.with(Check.place(0x0f, 0, 0, 0, 0), Check.place(0x2f, 0, 10, 0, 0), Check.EXIT);
        x.set(0, 21);
        x.set(10, -3);
        x.run(3);
        Check.same("(r0 + r0) * r10", x.get(0), -126);
        Check.same("r10", x.get(10), -3);
    }

    /** The edges that the document names, as numbers written out. */
    private static void writtenOut() {
        one("the least number by -1", 0x3f, 1, Long.MIN_VALUE, -1, Long.MIN_VALUE);
        one("its rest", 0x9f, 1, Long.MIN_VALUE, -1, 0);
        one("the least int by -1", 0x3c, 1, Integer.MIN_VALUE, -1, 0x80000000L);
        one("its rest", 0x9c, 1, Integer.MIN_VALUE, -1, 0);
        one("by 0", 0x3f, 0, 7, 0, 0);
        one("by 0, with sign", 0x3f, 1, -7, 0, 0);
        one("the rest by 0", 0x9f, 0, -7, 0, -7);
        one("the rest by 0, with sign", 0x9f, 1, -7, 0, -7);
        one("the narrow rest by 0", 0x9c, 0, -7, 0, 0xfffffff9L);
        one("a narrow rest by what is 0 as an int", 0x9c, 1, -7, 1L << 32, 0xfffffff9L);
        one("-7 / 2", 0x3f, 1, -7, 2, -3);
        one("rest of -7 by 2", 0x9f, 1, -7, 2, -1);
        one("rest of 7 by -2", 0x9f, 1, 7, -2, 1);
        one("-1 / 2 unsigned", 0x3f, 0, -1, 2, Long.MAX_VALUE);
        one("-1 / -1 unsigned", 0x3f, 0, -1, -1, 1);
        one("rest of -1 by 10 unsigned", 0x9f, 0, -1, 10, 5);
        one("x << 64", 0x6f, 0, 5, 64, 5);
        one("narrow x << 32", 0x6c, 0, 5, 32, 5);
        one("narrow x << 31", 0x6c, 0, 1, 31, 0x80000000L);
        one("narrow x >> 1 of the least int", 0xcc, 0, 0x80000000L, 1, 0xc0000000L);
        one("narrow x >>> 1 of all ones", 0x7c, 0, -1, 1, 0x7fffffffL);
    }

    private static void one(String what, int code, int o, long x, long y, long due) {
        CompiledProgram p = Check.with(Check.place(code, 1, 2, o, 0), Check.EXIT);
        p.set(1, x);
        p.set(2, y);
        p.run(2);
        Check.same(what, p.get(1), due);
    }
}
