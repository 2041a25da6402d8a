import java.math.BigInteger;
import java.util.Arrays;

/** Promise 10, classes 5 and 6: jumps, the CALL, the EXIT. */
public final class JumpTest {
    private static final int[] CONDITIONS = {1, 2, 3, 4, 5, 6, 7, 10, 11, 12, 13};

    public static void main(String[] args) {
        for (int n : CONDITIONS) {
            condition(n, 5, 64);
            condition(n, 6, 32);
        }
        always();
        calls();
        loop();
        Check.finish();
    }

    /** Place 0 jumps over place 1 or goes on at it; both ends are EXITs. */
    private static void condition(int n, int kind, int bits) {
        for (long y : Check.NUMBERS) {
            CompiledProgram byRegister = Check.with(Check.place(n << 4 | 8 | kind, 10, 4, 1, 0), Check.EXIT, Check.EXIT);
            byRegister.set(4, y);
            everyX("class " + kind + ", n " + n + ", y " + y, byRegister, n, bits, y);
        }
        for (int i : Check.IMMEDIATES) {
            CompiledProgram byNumber = Check.with(Check.place(n << 4 | kind, 10, 0, 1, i), Check.EXIT, Check.EXIT);
            everyX("class " + kind + ", n " + n + ", i " + i, byNumber, n, bits, i);
        }
    }

    private static void everyX(String what, CompiledProgram x, int n, int bits, long y) {
        for (long v : Check.NUMBERS) {
            x.set(10, v);
            Check.ran(what + ", x " + v, x, 5, CompiledProgram.EXIT, isDue(n, bits, v, y) ? 2 : 1, 2);
            Check.same(what + ": x stays", x.get(10), v);
        }
    }

    private static boolean isDue(int n, int bits, long xv, long yv) {
        boolean withSign = n == 6 || n == 7 || n == 12 || n == 13;
        BigInteger x = number(xv, bits, withSign);
        BigInteger y = number(yv, bits, withSign);
        int order = x.compareTo(y);
        switch (n) {
            case 1: return order == 0;
            case 4: return x.and(y).signum() != 0;
            case 5: return order != 0;
            case 2: case 6: return order > 0;
            case 3: case 7: return order >= 0;
            case 10: case 12: return order < 0;
            default: return order <= 0;
        }
    }

    private static BigInteger number(long v, int bits, boolean withSign) {
        BigInteger whole = BigInteger.ONE.shiftLeft(bits);
        BigInteger u = BigInteger.valueOf(v).mod(whole);
        return withSign && u.testBit(bits - 1) ? u.subtract(whole) : u;
    }

    private static void always() {
        CompiledProgram x = Check.with(Check.place(0x05, 0, 0, 2, 0), Check.EXIT, Check.place(0x05, 0, 0, -2, 0),
            Check.place(0x06, 0, 0, 0, -2), Check.EXIT);
        Check.ran("jumps by offset and by immediate", x, 9, CompiledProgram.EXIT, 1, 4);
        CompiledProgram y = Check.with(Check.place(0x06, 0, 0, 0, -1));
        Check.ran("a jump to itself", y, 100000, CompiledProgram.FUEL, 0, 100000);
        long[] far = new long[40];
        Arrays.fill(far, Check.EXIT);
        far[0] = Check.place(0x06, 0, 0, 0, 38);
        Check.ran("a far jump", Check.with(far), 9, CompiledProgram.EXIT, 39, 2);
    }

    private static void calls() {
        CompiledProgram x = Check.with(Check.place(0x85, 0, 0, 0, 7), Check.EXIT);
        for (int r = 0; r <= 10; r++) {
            x.set(r, 100 + r);
        }
        Check.ran("a CALL", x, 9, CompiledProgram.EXIT, 1, 2);
        Check.same("r0 behind a CALL", x.get(0), ((((7L * 31 + 101) * 31 + 102) * 31 + 103) * 31 + 104) * 31 + 105);
        for (int r = 1; r <= 5; r++) {
            Check.same("r" + r + " behind a CALL", x.get(r), 0);
        }
        for (int r = 6; r <= 10; r++) {
            Check.same("r" + r + " behind a CALL", x.get(r), 100 + r);
        }
        x.run(1);
        Check.same("r0 behind a CALL, all others 0", x.get(0), 7L * 31 * 31 * 31 * 31 * 31);
        CompiledProgram below = Check.with(Check.place(0x85, 0, 0, 0, -1), Check.EXIT);
        below.set(5, 1);
        below.run(1);
        Check.same("r0 behind a CALL of -1", below.get(0), 1 - 31L * 31 * 31 * 31 * 31);
        below.set(1, Long.MAX_VALUE);
        below.run(1);
        BigInteger due = BigInteger.valueOf(-31).add(BigInteger.valueOf(Long.MAX_VALUE)).multiply(BigInteger.valueOf(31).pow(4));
        Check.same("r0 behind a CALL that wraps", below.get(0), due.longValue());
    }

    private static void loop() {
        CompiledProgram x = Check.with(
            Check.place(0xb7, 1, 0, 0, 10), Check.place(0x0f, 0, 1, 0, 0), Check.place(0x17, 1, 0, 0, 1),
            Check.place(0x55, 1, 0, -3, 0), Check.EXIT);
        Check.ran("a loop", x, 1000, CompiledProgram.EXIT, 4, 32);
        Check.same("its sum", x.get(0), 55);
    }
}
