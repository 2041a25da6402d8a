/** The boundary cases of what the classes 7, 4 and 0 and the CALL compute, as numbers written out. */
public final class EdgesOfComputingTest {
    private static final long LEAST = Long.MIN_VALUE, GREATEST = Long.MAX_VALUE;
    private static final long LEAST_INT = Integer.MIN_VALUE;
    private static final long ALL_INT = 0xffffffffL, TOP_INT = 0x80000000L, ABOVE_INT = 0x1234567800000000L;

    public static void main(String[] args) {
        Check.sentence("Numbers wrap.", EdgesOfComputingTest::numbersWrap);
        Check.sentence("UNSIGNED: taken as 0 .. 2^64 - 1", EdgesOfComputingTest::unsignedOf64Bits);
        Check.sentence("y what register s holds if bit 3 of the code is 1, else i",
            EdgesOfComputingTest::registerOrImmediate);
        Check.sentence("Of y only the lowest six bits count for 6, 7, 12", EdgesOfComputingTest::sixBitsOfShifts);
        Check.sentence("8: -x", EdgesOfComputingTest::negation);
        Check.sentence("3 and 9 are unsigned, or, with o 1, with sign", EdgesOfComputingTest::withOffset1WithSign);
        Check.sentence("quotients cut off toward 0", EdgesOfComputingTest::quotientsTowardZero);
        Check.sentence("rests with the sign of x", EdgesOfComputingTest::restsWithTheSignOfX);
        Check.sentence("the least number by -1 is itself, its rest 0", EdgesOfComputingTest::leastByMinusOne);
        Check.sentence("by 0 the quotient is 0", EdgesOfComputingTest::quotientByZero);
        Check.sentence("by 0 the rest is x", EdgesOfComputingTest::restByZero);
        Check.sentence("11 with o 8, 16 or 32: the lowest o bits of y, the highest of which is their sign",
            EdgesOfComputingTest::movesWithSign);
        Check.sentence("13, i 16, 32 or 64: the lowest i bits of x with their bytes turned round",
            EdgesOfComputingTest::bytesTurnedRound);
        Check.sentence("CLASS 4: the same with the lowest 32 bits of x and y as ints", EdgesOfComputingTest::intsOfClass4);
        Check.sentence("UNSIGNED (of 32 bits: 2^32 - 1)", EdgesOfComputingTest::unsignedOf32Bits);
        Check.sentence("CLASS 4: the least number by -1 is itself, its rest 0; by 0 the quotient is 0, the rest x",
            EdgesOfComputingTest::divisionsOfClass4);
        Check.sentence("CLASS 4: five bits of y for shifts", EdgesOfComputingTest::fiveBitsOfShifts);
        Check.sentence("CLASS 4: 11 with o 8 or 16 alone", EdgesOfComputingTest::movesOfClass4);
        Check.sentence("register d gets the lowest 32 bits of what comes, above them 0", EdgesOfComputingTest::zerosAbove);
        Check.sentence("CLASS 4, 13: all i of them are kept, here x is all of register d",
            EdgesOfComputingTest::cutOrTurnedInClass4);
        Check.sentence("register d gets the number whose lowest 32 bits are i, and whose highest are the i of the second place",
            EdgesOfComputingTest::numberOfTwoPlaces);
        Check.sentence("or it is 1 (the number of a MAP): then i is not below 0, and that of the second place is 0",
            EdgesOfComputingTest::numberOfAMap);
        Check.sentence("register 0 becomes 31 times (31 times (31 times (31 times (31 times i, + r1) + r2) + r3) + r4) + r5",
            EdgesOfComputingTest::theCall);
        Check.sentence("registers 1 to 5 become 0", EdgesOfComputingTest::registersOfTheCall);
        Check.finish();
    }

    /** By n of class 7 or 4, y in a register. */
    private static void due(String what, int kind, int n, int o, long[] xy, long due) {
        CompiledProgram p = Check.with(Check.place(n << 4 | 8 | kind, 1, 2, o, 0), Check.EXIT);
        p.set(1, xy[0]);
        p.set(2, xy[1]);
        Check.ran(what, p, 9, CompiledProgram.EXIT, 1, 2);
        Check.same(what, p.get(1), due);
    }

    private static void wide(String what, int n, long x, long y, long due) {
        due(what, 7, n, 0, new long[] {x, y}, due);
    }

    private static void narrow(String what, int n, long x, long y, long due) {
        due(what, 4, n, 0, new long[] {x, y}, due);
    }

    private static void wideWithSign(String what, int n, long x, long y, long due) {
        due(what, 7, n, 1, new long[] {x, y}, due);
    }

    private static void narrowWithSign(String what, int n, long x, long y, long due) {
        due(what, 4, n, 1, new long[] {x, y}, due);
    }

    /** One place that has only x. */
    private static void only(String what, int code, int i, long x, long due) {
        CompiledProgram p = Check.with(Check.place(code, 1, 0, 0, i), Check.EXIT);
        p.set(1, x);
        p.run(2);
        Check.same(what, p.get(1), due);
    }

    private static void numbersWrap() {
        wide("the greatest + 1", 0, GREATEST, 1, LEAST);
        wide("the least + the least", 0, LEAST, LEAST, 0);
        wide("the least - 1", 1, LEAST, 1, GREATEST);
        wide("0 - the least", 1, 0, LEAST, LEAST);
        wide("the greatest * 2", 2, GREATEST, 2, -2);
        wide("2^32 * 2^32", 2, 1L << 32, 1L << 32, 0);
        wide("the least * -1", 2, LEAST, -1, LEAST);
        wide("1 << 63", 6, 1, 63, LEAST);
        wide("3 << 63", 6, 3, 63, LEAST);
    }

    private static void unsignedOf64Bits() {
        wide("2^64 - 1 by 2", 3, -1, 2, GREATEST);
        wide("2^64 - 1 by 1", 3, -1, 1, -1);
        wide("2^64 - 1 by itself", 3, -1, -1, 1);
        wide("2^64 - 2 by 2^64 - 1", 3, -2, -1, 0);
        wide("2^63 by 2^63 - 1", 3, LEAST, GREATEST, 1);
        wide("2^63 - 1 by 2^63", 3, GREATEST, LEAST, 0);
        wide("2^63 by 2^64 - 1", 3, LEAST, -1, 0);
        wide("the rest of 2^64 - 1 by 10", 9, -1, 10, 5);
        wide("the rest of 2^64 - 2 by 2^64 - 1", 9, -2, -1, -2);
        wide("the rest of 2^64 - 1 by 2^63", 9, -1, LEAST, GREATEST);
        wide("the rest of 2^63 by 2^63 - 1", 9, LEAST, GREATEST, 1);
        wide("the rest of 2^63 by 2^64 - 1", 9, LEAST, -1, LEAST);
    }

    private static void registerOrImmediate() {
        only("x + the least i", 0x07, Integer.MIN_VALUE, 0, LEAST_INT);
        only("x + the greatest i", 0x07, Integer.MAX_VALUE, 0, Integer.MAX_VALUE);
        only("x | -1", 0x47, -1, 5, -1);
        only("x >>> -1", 0x77, -1, -1, 1);
        wide("x + y, above the ints", 0, 1, 1L << 40, (1L << 40) + 1);
        CompiledProgram p = Check.with(Check.place(0x07, 1, 0, 0, 0), Check.EXIT);
        p.set(0, 99);
        p.run(2);
        Check.same("r1 + 0, register 0 not being 0", p.get(1), 0);
    }

    private static void sixBitsOfShifts() {
        long[] counts = {0, 63, 64, 65, 127, 128, -1, -64, LEAST, GREATEST, 1L << 32};
        for (long y : counts) {
            int bits = (int) (y & 63);
            wide("-5 << " + y, 6, -5, y, -5L << bits);
            wide("-5 >>> " + y, 7, -5, y, -5L >>> bits);
            wide("-5 >> " + y, 12, -5, y, -5L >> bits);
        }
        wide("the least >> 63", 12, LEAST, 63, -1);
        wide("the least >>> 63", 7, LEAST, 63, 1);
        wide("the least << 1", 6, LEAST, 1, 0);
        wide("5 << 64", 6, 5, 64, 5);
        wide("5 << 32", 6, 5, 32, 5L << 32);
    }

    private static void negation() {
        only("-the least", 0x87, 0, LEAST, LEAST);
        only("-the greatest", 0x87, 0, GREATEST, LEAST + 1);
        only("-0", 0x87, 0, 0, 0);
        only("-(-1)", 0x87, 0, -1, 1);
        only("-1 as an int", 0x84, 0, 1, ALL_INT);
        only("-the least int", 0x84, 0, LEAST_INT, TOP_INT);
        only("-0 as an int, with higher bits", 0x84, 0, ABOVE_INT, 0);
    }

    private static void withOffset1WithSign() {
        wide("2^64 - 6 by 3", 3, -6, 3, 6148914691236517203L);
        wideWithSign("-6 / 3", 3, -6, 3, -2);
        wide("the rest of 2^64 - 6 by 4", 9, -6, 4, 2);
        wideWithSign("the rest of -6 by 4", 9, -6, 4, -2);
        narrow("2^32 - 6 by 3", 3, -6, 3, 1431655763);
        narrowWithSign("-6 / 3 as ints", 3, -6, 3, 0xfffffffeL);
        narrow("the rest of 2^32 - 6 by 4", 9, -6, 4, 2);
        narrowWithSign("the rest of -6 by 4 as ints", 9, -6, 4, 0xfffffffeL);
    }

    private static void quotientsTowardZero() {
        wideWithSign("7 / 2", 3, 7, 2, 3);
        wideWithSign("-7 / 2", 3, -7, 2, -3);
        wideWithSign("7 / -2", 3, 7, -2, -3);
        wideWithSign("-7 / -2", 3, -7, -2, 3);
        wideWithSign("-1 / the least", 3, -1, LEAST, 0);
        wideWithSign("the least / 3", 3, LEAST, 3, -3074457345618258602L);
        wideWithSign("1 / -2", 3, 1, -2, 0);
    }

    private static void restsWithTheSignOfX() {
        wideWithSign("7 by 2", 9, 7, 2, 1);
        wideWithSign("-7 by 2", 9, -7, 2, -1);
        wideWithSign("7 by -2", 9, 7, -2, 1);
        wideWithSign("-7 by -2", 9, -7, -2, -1);
        wideWithSign("-1 by the least", 9, -1, LEAST, -1);
        wideWithSign("the least by the greatest", 9, LEAST, GREATEST, -1);
        wideWithSign("-8 by 2", 9, -8, 2, 0);
    }

    private static void leastByMinusOne() {
        wideWithSign("the least / -1", 3, LEAST, -1, LEAST);
        wideWithSign("its rest", 9, LEAST, -1, 0);
        wideWithSign("the next one / -1", 3, LEAST + 1, -1, GREATEST);
        CompiledProgram p = Check.with(Check.place(0x37, 1, 0, 1, -1), Check.place(0x97, 2, 0, 1, -1), Check.EXIT);
        p.set(1, LEAST);
        p.set(2, LEAST);
        Check.ran("by the immediate -1", p, 9, CompiledProgram.EXIT, 2, 3);
        Check.same("the least / i", p.get(1), LEAST);
        Check.same("its rest", p.get(2), 0);
    }

    private static void quotientByZero() {
        for (long x : new long[] {0, 1, -1, 7, LEAST, GREATEST}) {
            wide(x + " by 0", 3, x, 0, 0);
            wideWithSign(x + " by 0 with sign", 3, x, 0, 0);
            only(x + " by i 0", 0x37, 0, x, 0);
        }
    }

    private static void restByZero() {
        for (long x : new long[] {0, 1, -1, 7, LEAST, GREATEST}) {
            wide(x + " by 0", 9, x, 0, x);
            wideWithSign(x + " by 0 with sign", 9, x, 0, x);
            only(x + " by i 0", 0x97, 0, x, x);
        }
    }

    private static void moved(int kind, int o, long y, long due) {
        due("class " + kind + ", the lowest " + o + " bits of " + y, kind, 11, o, new long[] {0x5555, y}, due);
    }

    private static void movesWithSign() {
        moved(7, 8, 0x7f, 127);
        moved(7, 8, 0x80, -128);
        moved(7, 8, 0x17f, 127);
        moved(7, 8, -129, 127);
        moved(7, 16, 0x7fff, 32767);
        moved(7, 16, 0x8000, -32768);
        moved(7, 16, 0x17fff, 32767);
        moved(7, 32, 0x7fffffff, Integer.MAX_VALUE);
        moved(7, 32, TOP_INT, LEAST_INT);
        moved(7, 32, ABOVE_INT | 5, 5);
        moved(7, 0, LEAST, LEAST);
        moved(7, 0, TOP_INT, TOP_INT);
    }

    private static void bytesTurnedRound() {
        long x = 0x8182838485868788L;
        only("16 bits", 0xd7, 16, x, 0x8887);
        only("32 bits", 0xd7, 32, x, 0x88878685L);
        only("64 bits", 0xd7, 64, x, 0x8887868584838281L);
    }

    private static void intsOfClass4() {
        narrow("x + y, higher bits not counting", 0, ABOVE_INT | 3, ABOVE_INT | 4, 7);
        narrow("the greatest int + 1", 0, Integer.MAX_VALUE, 1, TOP_INT);
        narrow("2^32 - 1 + 1", 0, ALL_INT, 1, 0);
        narrow("0 - 1", 1, 0, 1, ALL_INT);
        narrow("65536 * 65536", 2, 65536, 65536, 0);
        narrow("the least int * -1", 2, LEAST_INT, -1, TOP_INT);
        narrow("x >>> 1, no higher bit coming down", 7, 1L << 32, 1, 0);
        narrow("x >> 31 of the least int", 12, TOP_INT, 31, ALL_INT);
        narrow("x >> 31, bit 31 alone being the sign", 12, LEAST | 0x7fffffff, 31, 0);
        narrow("y, its lowest 32 bits", 11, 0, -1, ALL_INT);
        only("i -1", 0xb4, -1, 0, ALL_INT);
    }

    private static void unsignedOf32Bits() {
        narrow("2^32 - 1 by 2", 3, -1, 2, Integer.MAX_VALUE);
        narrow("2^32 - 1 by itself", 3, ALL_INT, -1, 1);
        narrow("2^32 - 2 by 2^32 - 1", 3, -2, -1, 0);
        narrow("2^31 by 2^31 - 1", 3, TOP_INT, Integer.MAX_VALUE, 1);
        narrow("the rest of 2^32 - 1 by 7", 9, -1, 7, 3);
        narrow("the rest of 2^32 - 1 by 2^31", 9, -1, TOP_INT, Integer.MAX_VALUE);
        narrow("the rest of 2^32 - 2 by 2^32 - 1", 9, -2, -1, 0xfffffffeL);
        only("2^32 - 1 by i -1", 0x34, -1, ALL_INT, 1);
    }

    private static void divisionsOfClass4() {
        narrowWithSign("the least int / -1", 3, TOP_INT, ALL_INT, TOP_INT);
        narrowWithSign("its rest", 9, TOP_INT, ALL_INT, 0);
        narrowWithSign("-7 / 2", 3, -7, 2, 0xfffffffdL);
        narrowWithSign("the rest of -7 by 2", 9, -7, 2, ALL_INT);
        narrowWithSign("the rest of 7 by -2", 9, 7, -2, 1);
        for (long zero : new long[] {0, 1L << 32, ABOVE_INT, LEAST}) {
            narrow("7 by " + zero, 3, 7, zero, 0);
            narrowWithSign("-7 by " + zero, 3, -7, zero, 0);
            narrow("the rest of 2^32 - 7 by " + zero, 9, -7, zero, 0xfffffff9L);
            narrowWithSign("the rest of -7 by " + zero, 9, -7, zero, 0xfffffff9L);
            narrow("the rest, higher bits of x not counting, by " + zero, 9, ABOVE_INT | 9, zero, 9);
        }
    }

    private static void fiveBitsOfShifts() {
        for (long y : new long[] {0, 31, 32, 33, 63, 64, -1, -32, 1L << 32, LEAST}) {
            int bits = (int) (y & 31);
            narrow("-5 << " + y, 6, -5, y, (-5L << bits) & ALL_INT);
            narrow("-5 >>> " + y, 7, -5, y, 0xfffffffbL >>> bits);
            narrow("-5 >> " + y, 12, -5, y, (-5L >> bits) & ALL_INT);
        }
        narrow("5 << 32", 6, 5, 32, 5);
        narrow("1 << 31", 6, 1, 31, TOP_INT);
    }

    private static void movesOfClass4() {
        moved(4, 8, 0x7f, 127);
        moved(4, 8, 0x80, 0xffffff80L);
        moved(4, 8, -129, 127);
        moved(4, 16, 0x7fff, 32767);
        moved(4, 16, 0x8000, 0xffff8000L);
        moved(4, 16, ABOVE_INT, 0);
    }

    private static void zerosAbove() {
        long x = -2, y = -1;
        long[] due = {0xfffffffdL, ALL_INT, 2, 0, ALL_INT, 0xfffffffeL, 0, 1, 0, 0xfffffffeL, 1, ALL_INT, ALL_INT};
        for (int n = 0; n < due.length; n++) {
            if (n != 8) {
                narrow("n " + n + " of -2 and -1", n, x, y, due[n]);
            }
        }
        only("--2", 0x84, 0, -2, 2);
        only("-2^32", 0x84, 0, 1L << 32, 0);
        only("x | 0", 0x44, 0, -1, ALL_INT);
    }

    private static void cutOrTurnedInClass4() {
        long x = 0x8182838485868788L;
        only("16 bits", 0xd4, 16, x, 0x8788);
        only("32 bits", 0xd4, 32, x, 0x85868788L);
        only("64 bits", 0xd4, 64, x, x);
        only("16 bits turned", 0xdc, 16, x, 0x8887);
        only("32 bits turned", 0xdc, 32, x, 0x88878685L);
        only("64 bits turned", 0xdc, 64, x, 0x8887868584838281L);
    }

    private static void taken(int s, int low, int high, long due) {
        CompiledProgram p = Check.with(Check.place(0x18, 9, s, 0, low), Check.place(0, 0, 0, 0, high), Check.EXIT);
        p.set(9, 0x5555);
        p.set(1, 77);
        Check.ran("two places", p, 9, CompiledProgram.EXIT, 2, 2);
        Check.same("the number of " + low + " and " + high, p.get(9), due);
        Check.same("register 1", p.get(1), 77);
    }

    private static void numberOfTwoPlaces() {
        taken(0, -1, 0, ALL_INT);
        taken(0, 0, -1, -1L << 32);
        taken(0, -1, -1, -1);
        taken(0, Integer.MIN_VALUE, 0, TOP_INT);
        taken(0, 0, Integer.MIN_VALUE, LEAST);
        taken(0, -1, Integer.MAX_VALUE, GREATEST);
        taken(0, 0, 0, 0);
        taken(0, 0x55667788, 0x11223344, 0x1122334455667788L);
    }

    private static void numberOfAMap() {
        taken(1, 0, 0, 0);
        taken(1, Integer.MAX_VALUE, 0, Integer.MAX_VALUE);
    }

    private static void called(int i, long[] given, long due) {
        CompiledProgram p = Check.with(Check.place(0x85, 0, 0, 0, i), Check.EXIT);
        p.set(0, 999);
        for (int r = 1; r <= 5; r++) {
            p.set(r, given[r - 1]);
        }
        Check.ran("a CALL", p, 9, CompiledProgram.EXIT, 1, 2);
        Check.same("register 0 behind a CALL of " + i, p.get(0), due);
    }

    private static void theCall() {
        called(0, new long[] {0, 0, 0, 0, 0}, 0);
        called(1, new long[] {0, 0, 0, 0, 0}, 28629151);
        called(0, new long[] {1, 0, 0, 0, 0}, 923521);
        called(0, new long[] {0, 1, 0, 0, 0}, 29791);
        called(0, new long[] {0, 0, 1, 0, 0}, 961);
        called(0, new long[] {0, 0, 0, 1, 0}, 31);
        called(0, new long[] {0, 0, 0, 0, 1}, 1);
        called(Integer.MIN_VALUE, new long[] {0, 0, 0, 0, 0}, LEAST_INT * 28629151);
        called(-1, new long[] {0, 0, 0, 0, GREATEST}, GREATEST - 28629151);
        called(-1, new long[] {0, 0, 0, 0, LEAST}, GREATEST - 28629150);
        called(0, new long[] {LEAST, 0, 0, 0, 0}, LEAST);
        called(0, new long[] {0, 0, 0, GREATEST, 0}, GREATEST - 30);
    }

    private static void registersOfTheCall() {
        CompiledProgram p = Check.with(Check.place(0x85, 0, 0, 0, 0), Check.EXIT);
        for (int r = 0; r <= 10; r++) {
            p.set(r, -1);
        }
        p.run(1);
        for (int r = 1; r <= 10; r++) {
            Check.same("register " + r, p.get(r), r <= 5 ? 0 : -1);
        }
    }
}
