/** The boundary cases of where the classes 5 and 6 go on. */
public final class EdgesOfJumpingTest {
    private static final long LEAST = Long.MIN_VALUE, GREATEST = Long.MAX_VALUE;
    private static final long LEAST_INT = Integer.MIN_VALUE, GREATEST_INT = Integer.MAX_VALUE;
    private static final long ABOVE_INT = 0x1234567800000000L;

    public static void main(String[] args) {
        Check.sentence("Where it isn't said otherwise, it goes on at the next place",
            EdgesOfJumpingTest::goesOnAtTheNextPlace);
        Check.sentence("0: it goes on o places behind the next one", EdgesOfJumpingTest::placesBehindTheNextOne);
        Check.sentence("1: it does so if x is y", EdgesOfJumpingTest::same);
        Check.sentence("2: x is greater, unsigned", EdgesOfJumpingTest::greaterUnsigned);
        Check.sentence("3: not less, unsigned", EdgesOfJumpingTest::notLessUnsigned);
        Check.sentence("4: x & y is not 0", EdgesOfJumpingTest::commonBits);
        Check.sentence("5: x is not y", EdgesOfJumpingTest::notSame);
        Check.sentence("6: greater, with sign", EdgesOfJumpingTest::greaterWithSign);
        Check.sentence("7: not less, with sign", EdgesOfJumpingTest::notLessWithSign);
        Check.sentence("10: less, unsigned", EdgesOfJumpingTest::lessUnsigned);
        Check.sentence("11: not greater, unsigned", EdgesOfJumpingTest::notGreaterUnsigned);
        Check.sentence("12: less, with sign", EdgesOfJumpingTest::lessWithSign);
        Check.sentence("13: not greater, with sign", EdgesOfJumpingTest::notGreaterWithSign);
        Check.sentence("else it goes on at the next one", EdgesOfJumpingTest::elseTheNextOne);
        Check.sentence("CLASS 6: likewise, 1 to 7 and 10 to 13, with the lowest 32 bits of x and y as ints",
            EdgesOfJumpingTest::intsOfClass6);
        Check.sentence("CLASS 5 and 6: y is i, with sign, where bit 3 of the code is 0", EdgesOfJumpingTest::byTheImmediate);
        Check.sentence("CLASS 6, 0: it goes on i places behind the next one",
            EdgesOfJumpingTest::immediatePlacesBehindTheNextOne);
        Check.finish();
    }

    /** Place 0 jumps over place 1, or goes on at it. */
    private static void goes(int kind, int n, long x, long y, boolean jumps) {
        CompiledProgram p = Check.with(Check.place(n << 4 | 8 | kind, 10, 9, 1, 0), Check.EXIT, Check.EXIT);
        p.set(10, x);
        p.set(9, y);
        Check.ran("class " + kind + ", n " + n + ", x " + x + ", y " + y, p, 9, CompiledProgram.EXIT, jumps ? 2 : 1, 2);
    }

    private static void byImmediate(int kind, int n, long x, int i, boolean jumps) {
        CompiledProgram p = Check.with(Check.place(n << 4 | kind, 10, 0, 1, i), Check.EXIT, Check.EXIT);
        p.set(10, x);
        Check.ran("class " + kind + ", n " + n + ", x " + x + ", i " + i, p, 9, CompiledProgram.EXIT, jumps ? 2 : 1, 2);
    }

    private static void jumps(int n, long x, long y) {
        goes(5, n, x, y, true);
    }

    private static void stays(int n, long x, long y) {
        goes(5, n, x, y, false);
    }

    private static void goesOnAtTheNextPlace() {
        int[] codes = {0x07, 0x04, 0xb7, 0x87, 0x85, 0x61, 0x62, 0x63, 0xc3};
        for (int code : codes) {
            CompiledProgram p = Check.with(Check.place(code, code == 0x85 ? 0 : 1, 0, 0, 0), Check.EXIT, Check.EXIT);
            p.set(0, Check.MEMORY);
            p.set(1, Check.MEMORY);
            Check.ran("behind code " + code, p, 9, CompiledProgram.EXIT, 1, 2);
        }
        CompiledProgram two = Check.with(Check.place(0x18, 1, 0, 0, 0), 0, Check.EXIT);
        Check.ran("behind two places", two, 9, CompiledProgram.EXIT, 2, 2);
    }

    private static void placesBehindTheNextOne() {
        for (int o = -4; o <= 2; o++) {
            CompiledProgram p = Check.with(Check.place(0x05, 0, 0, 2, 0), Check.EXIT, Check.EXIT,
                Check.place(0x05, 0, 0, o, 0), Check.EXIT, Check.EXIT, Check.EXIT);
            p.run(2);
            Check.same("place() behind the offset " + o, p.place(), 4 + o);
            Check.same("steps() behind the offset " + o, p.steps(), 2);
        }
    }

    private static void same() {
        jumps(1, 0, 0);
        jumps(1, LEAST, LEAST);
        stays(1, 0, 1);
        stays(1, 1L << 32, 0);
        stays(1, LEAST, 0);
    }

    private static void greaterUnsigned() {
        stays(2, 0, 0);
        stays(2, -1, -1);
        jumps(2, 1, 0);
        stays(2, 0, 1);
        jumps(2, -1, 0);
        jumps(2, LEAST, GREATEST);
        stays(2, GREATEST, LEAST);
        jumps(2, -1, -2);
    }

    private static void notLessUnsigned() {
        jumps(3, 0, 0);
        jumps(3, -1, -1);
        jumps(3, 1, 0);
        stays(3, 0, 1);
        jumps(3, -1, 0);
        jumps(3, LEAST, GREATEST);
        stays(3, GREATEST, LEAST);
    }

    private static void commonBits() {
        stays(4, 0, 0);
        stays(4, 0, -1);
        stays(4, 5, 10);
        jumps(4, 5, 4);
        jumps(4, LEAST, -1);
        jumps(4, 1L << 32, 1L << 32);
    }

    private static void notSame() {
        stays(5, 0, 0);
        stays(5, LEAST, LEAST);
        jumps(5, 0, 1);
        jumps(5, 1L << 32, 0);
        jumps(5, LEAST, 0);
    }

    private static void greaterWithSign() {
        stays(6, 0, 0);
        jumps(6, 1, 0);
        stays(6, -1, 0);
        stays(6, LEAST, GREATEST);
        jumps(6, GREATEST, LEAST);
        jumps(6, -1, -2);
    }

    private static void notLessWithSign() {
        jumps(7, 0, 0);
        jumps(7, 1, 0);
        stays(7, -1, 0);
        stays(7, LEAST, GREATEST);
        jumps(7, GREATEST, LEAST);
        jumps(7, LEAST, LEAST);
    }

    private static void lessUnsigned() {
        stays(10, 0, 0);
        stays(10, -1, -1);
        jumps(10, 0, 1);
        jumps(10, 0, -1);
        stays(10, -1, 0);
        jumps(10, GREATEST, LEAST);
        stays(10, LEAST, GREATEST);
    }

    private static void notGreaterUnsigned() {
        jumps(11, 0, 0);
        jumps(11, -1, -1);
        jumps(11, 0, -1);
        stays(11, -1, 0);
        jumps(11, GREATEST, LEAST);
        stays(11, LEAST, GREATEST);
    }

    private static void lessWithSign() {
        stays(12, 0, 0);
        jumps(12, -1, 0);
        stays(12, 0, -1);
        jumps(12, LEAST, GREATEST);
        stays(12, GREATEST, LEAST);
    }

    private static void notGreaterWithSign() {
        jumps(13, 0, 0);
        jumps(13, -1, 0);
        stays(13, 0, -1);
        jumps(13, LEAST, GREATEST);
        stays(13, GREATEST, LEAST);
        jumps(13, GREATEST, GREATEST);
    }

    private static void elseTheNextOne() {
        CompiledProgram p = Check.with(
            Check.place(0x55, 1, 0, 2, 0), Check.EXIT, Check.EXIT, Check.place(0x55, 1, 0, -3, 0), Check.EXIT);
        Check.ran("x is 0: not taken", p, 9, CompiledProgram.EXIT, 1, 2);
        p.set(1, 1);
        Check.ran("x is 1: taken, and back", p, 9, CompiledProgram.EXIT, 1, 3);
    }

    private static void intsOfClass6() {
        goes(6, 1, ABOVE_INT, 0, true);
        goes(6, 5, ABOVE_INT, 0, false);
        goes(6, 1, 1, 0, false);
        goes(6, 5, 1, 0, true);
        goes(6, 4, ABOVE_INT, -1, false);
        goes(6, 4, LEAST_INT, 0x80000000L, true);
        for (int n : new int[] {2, 3}) {
            goes(6, n, 0x80000000L, GREATEST_INT, true);
            goes(6, n, GREATEST_INT, LEAST_INT, false);
            goes(6, n, ABOVE_INT, 0, n == 3);
        }
        for (int n : new int[] {6, 7}) {
            goes(6, n, 0x80000000L, GREATEST_INT, false);
            goes(6, n, GREATEST_INT, LEAST_INT, true);
            goes(6, n, ABOVE_INT, 0, n == 7);
        }
        for (int n : new int[] {10, 11}) {
            goes(6, n, 0x80000000L, GREATEST_INT, false);
            goes(6, n, GREATEST_INT, LEAST_INT, true);
            goes(6, n, 0, ABOVE_INT, n == 11);
        }
        for (int n : new int[] {12, 13}) {
            goes(6, n, 0x80000000L, GREATEST_INT, true);
            goes(6, n, GREATEST_INT, LEAST_INT, false);
            goes(6, n, 0, ABOVE_INT, n == 13);
        }
    }

    private static void byTheImmediate() {
        byImmediate(5, 1, -1, -1, true);
        byImmediate(5, 1, 0xffffffffL, -1, false);
        byImmediate(6, 1, 0xffffffffL, -1, true);
        byImmediate(5, 2, -2, -1, false);
        byImmediate(5, 10, 0xffffffffL, -1, true);
        byImmediate(5, 6, 0, -1, true);
        byImmediate(5, 12, LEAST_INT, Integer.MIN_VALUE, false);
        byImmediate(5, 12, LEAST_INT - 1, Integer.MIN_VALUE, true);
        byImmediate(5, 4, 1L << 63, Integer.MIN_VALUE, true);
    }

    private static void immediatePlacesBehindTheNextOne() {
        for (int i = -4; i <= 2; i++) {
            CompiledProgram p = Check.with(Check.place(0x06, 0, 0, 0, 2), Check.EXIT, Check.EXIT,
                Check.place(0x06, 0, 0, 0, i), Check.EXIT, Check.EXIT, Check.EXIT);
            p.run(2);
            Check.same("place() behind the immediate " + i, p.place(), 4 + i);
        }
    }
}
