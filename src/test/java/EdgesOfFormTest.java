/** The boundary cases of FORM: registers, second places, torn places, where it goes on, and which wrong place is first. */
public final class EdgesOfFormTest {
    private static final int NONE = CompiledProgram.NONE;
    private static final long EXIT = Check.EXIT;
    private static final long WRONG = 0xff;
    private static final long ADD = Check.place(0x07, 1, 0, 0, 1);
    private static final long FIRST = Check.place(0x18, 1, 0, 0, 5);
    private static final long SECOND = Check.place(0, 0, 0, 0, 6);
    private static final int[] PERHAPS = {1, 2, 3, 4, 5, 6, 7, 10, 11, 12, 13};

    public static void main(String[] args) {
        Check.sentence("load() goes through the places in order, and finds the first that is WRONG",
            EdgesOfFormTest::theFirstThatIsWrong);
        Check.sentence("d or s above 10 where it is a register", EdgesOfFormTest::registersAbove10);
        Check.sentence("register 10 as one that gets something", EdgesOfFormTest::register10GetsNothing);
        Check.sentence("register 10 as one that gets nothing (not wrong)", EdgesOfFormTest::register10IsRead);
        Check.sentence("a second one of two that is missing (the first one is wrong then)", EdgesOfFormTest::secondMissing);
        Check.sentence("a second one of two that is not as told (the first one is wrong then)",
            EdgesOfFormTest::secondNotAsTold);
        Check.sentence("a place that is no instruction as told: a second one of two alone", EdgesOfFormTest::secondAlone);
        Check.sentence("one that goes on, or might, to a place that isn't there", EdgesOfFormTest::toAPlaceThatIsNotThere);
        Check.sentence("CLASS 6, 0: it goes on i places behind the next one, to a place that isn't there",
            EdgesOfFormTest::immediatesFarOff);
        Check.sentence("or is the second one of two", EdgesOfFormTest::toTheSecondOfTwo);
        Check.sentence("the last instruction if it is none that goes on elsewhere always (class 5 or 6 with n 0) or the EXIT",
            EdgesOfFormTest::lastInstruction);
        Check.sentence("(that is looked at for where it goes on, in its turn)", EdgesOfFormTest::lastInItsTurn);
        Check.sentence("of one of two places at its first", EdgesOfFormTest::lastOfTwoPlaces);
        Check.sentence("A program of no place is wrong at 0", EdgesOfFormTest::noPlace);
        Check.sentence("one whose last place has fewer than 8 bytes at that place", EdgesOfFormTest::tornPlace);
        Check.sentence("(behind a first one of two: at that one)", EdgesOfFormTest::tornBehindAFirst);
        Check.sentence("(Places are looked at for themselves first, all of them; then where they go on, all of them.)",
            EdgesOfFormTest::forThemselvesFirst);
        Check.sentence("(Places are looked at for themselves first, all of them: a torn one, too)",
            EdgesOfFormTest::tornBeforeGoingOn);
        Check.finish();
    }

    private static void due(String what, int due, long... places) {
        CompiledProgram x = new CompiledProgram();
        Check.same("load() of " + what, Check.load(x, places), due);
        Check.same("places() of " + what, x.places(), due == NONE ? places.length : 0);
    }

    private static void torn(String what, int bytes, int due, long... places) {
        CompiledProgram x = new CompiledProgram();
        Check.type(x, Check.bytesOf(places), bytes);
        Check.same("load() of " + what + ", " + bytes + " bytes", x.load(), due);
        Check.same("places() of " + what, x.places(), 0);
    }

    private static long jump(int o) {
        return Check.place(0x05, 0, 0, o, 0);
    }

    private static long jumpByImmediate(int i) {
        return Check.place(0x06, 0, 0, 0, i);
    }

    private static long perhaps(int o) {
        return Check.place(0x15, 1, 0, o, 7);
    }

    private static void theFirstThatIsWrong() {
        due("a wrong first one", 0, WRONG, ADD, WRONG, EXIT);
        due("a wrong one between", 1, ADD, WRONG, WRONG, EXIT);
        due("a wrong last one", 3, ADD, ADD, ADD, WRONG);
        due("no wrong one", NONE, ADD, ADD, ADD, EXIT);
    }

    private static void registersAbove10() {
        for (int r = 11; r <= 15; r++) {
            for (int code : new int[] {0x07, 0x04, 0x0f, 0x0c, 0x61, 0x81, 0x62, 0x63, 0xc3, 0x15, 0x1d, 0x16, 0x1e, 0x18}) {
                due("code " + code + " with d " + r, 0, Check.place(code, r, 0, 0, 0), code == 0x18 ? 0 : EXIT, EXIT);
            }
            for (int code : new int[] {0x0f, 0x0c, 0xbf, 0xbc, 0x3f, 0x61, 0x81, 0x63, 0xc3, 0x1d, 0x1e}) {
                due("code " + code + " with s " + r, 0, Check.place(code, 0, r, 0, 0), EXIT);
            }
            due("a swap with s " + r, 0, Check.place(0xdb, 0, r, 0, 225), EXIT);
        }
    }

    private static void register10GetsNothing() {
        for (int n : new int[] {0, 1, 2, 3, 4, 5, 6, 7, 8, 9, 10, 11, 12}) {
            for (int kind : new int[] {7, 4}) {
                due("n " + n + " of class " + kind + " with d 10", 0, Check.place(n << 4 | kind, 10, 0, 0, 0), EXIT);
                due("n " + n + " of class " + kind + " with d 9", NONE, Check.place(n << 4 | kind, 9, 0, 0, 0), EXIT);
            }
        }
        for (int code : new int[] {0x0f, 0x0c, 0xbf, 0xbc, 0x61, 0x69, 0x71, 0x79, 0x81, 0x89, 0x91}) {
            due("code " + code + " with d 10", 0, Check.place(code, 10, 1, 0, 0), EXIT);
            due("code " + code + " with d 9", NONE, Check.place(code, 9, 1, 0, 0), EXIT);
        }
        for (int code : new int[] {0xd7, 0xd4, 0xdc}) {
            due("code " + code + " with d 10", 0, Check.place(code, 10, 0, 0, 16), EXIT);
            due("code " + code + " with d 9", NONE, Check.place(code, 9, 0, 0, 16), EXIT);
        }
        due("two places with d 10", 0, Check.place(0x18, 10, 0, 0, 0), 0, EXIT);
        due("two places with d 9", NONE, Check.place(0x18, 9, 0, 0, 0), 0, EXIT);
        for (int i : new int[] {1, 65, 81, 161, 225}) {
            due("exchange " + i + " with s 10", 0, Check.place(0xdb, 1, 10, 0, i), EXIT);
            due("exchange " + i + " with s 9", NONE, Check.place(0xdb, 1, 9, 0, i), EXIT);
        }
    }

    private static void register10IsRead() {
        for (int code : new int[] {0x0f, 0x0c, 0xbf, 0x61, 0x81, 0x63}) {
            due("code " + code + " with s 10", NONE, Check.place(code, 1, 10, 0, 0), EXIT);
        }
        for (int n : PERHAPS) {
            due("a jump with d 10, s 10", NONE, Check.place(n << 4 | 13, 10, 10, 0, 0), EXIT);
            due("a narrow jump with d 10", NONE, Check.place(n << 4 | 6, 10, 0, 0, 0), EXIT);
        }
        due("a write with d 10", NONE, Check.place(0x62, 10, 0, 0, 0), EXIT);
        due("a write of register 10 with d 10", NONE, Check.place(0x63, 10, 10, 0, 0), EXIT);
        for (int i : new int[] {0, 64, 80, 160, 241}) {
            due("exchange " + i + " with d 10, s 10", NONE, Check.place(0xdb, 10, 10, 0, i), EXIT);
        }
        for (int i : new int[] {1, 65, 81, 161, 225}) {
            due("exchange " + i + " with d 10", NONE, Check.place(0xdb, 10, 1, 0, i), EXIT);
        }
    }

    private static void secondMissing() {
        due("a first one alone", 0, FIRST);
        due("a first one at the end", 2, ADD, EXIT, FIRST);
        due("a first one behind two at the end", 2, FIRST, SECOND, FIRST);
    }

    private static void secondNotAsTold() {
        due("any immediate", NONE, FIRST, Check.place(0, 0, 0, 0, Integer.MIN_VALUE), EXIT);
        due("a second one with a code", 1, ADD, FIRST, Check.place(1, 0, 0, 0, 6), EXIT);
        due("a first one as second one", 0, FIRST, FIRST, SECOND, EXIT);
        due("an instruction as second one", 0, FIRST, EXIT, EXIT);
        for (int v : new int[] {1, 8, 15}) {
            due("a second one with d " + v, 1, ADD, FIRST, Check.place(0, v, 0, 0, 6), EXIT);
            due("a second one with s " + v, 1, ADD, FIRST, Check.place(0, 0, v, 0, 6), EXIT);
        }
        for (int o : new int[] {1, -1, 256, -32768}) {
            due("a second one with o " + o, 1, ADD, FIRST, Check.place(0, 0, 0, o, 6), EXIT);
        }
        long map = Check.place(0x18, 1, 1, 0, 5);
        due("a map", NONE, map, 0, EXIT);
        for (int i : new int[] {1, -1, 65536, Integer.MIN_VALUE}) {
            due("a map whose second place has i " + i, 0, map, Check.place(0, 0, 0, 0, i), EXIT);
        }
    }

    private static void secondAlone() {
        due("a second one at the start", 0, SECOND, EXIT);
        due("zeros alone", 0, 0);
        due("a second one behind two", 2, FIRST, SECOND, SECOND, EXIT);
    }

    private static void toAPlaceThatIsNotThere() {
        for (int k = 0; k < 2; k++) {
            int kind = 5 + k;
            for (int n : PERHAPS) {
                for (int bit3 : new int[] {0, 8}) {
                    goingOn("n " + n + " of class " + kind, n << 4 | bit3 | kind);
                }
            }
        }
        goingOn("code 5", 0x05);
        goingOn("code 6", 0x06);
    }

    private static void goingOn(String what, int code) {
        boolean isByImmediate = code == 0x06;
        int[] by = {-4, -3, -2, -1, 0, 1, 2, 3, 32767, -32768};
        for (int b : by) {
            long w = isByImmediate ? jumpByImmediate(b) : Check.place(code, 0, 0, b, 0);
            int to = 2 + b;
            due(what + " from 1 to " + to + " of 4", to >= 0 && to < 4 ? NONE : 1, ADD, w, ADD, EXIT);
        }
    }

    private static void immediatesFarOff() {
        int[] farOff = {
            Integer.MAX_VALUE, Integer.MAX_VALUE - 1, Integer.MIN_VALUE, Integer.MIN_VALUE + 2, 65535, 65536, -65536, 4096
        };
        for (int i : farOff) {
            due("a jump by the immediate " + i, 1, ADD, jumpByImmediate(i), EXIT);
        }
    }

    private static void toTheSecondOfTwo() {
        long[] over = {jump(1), jumpByImmediate(1), perhaps(1), Check.place(0xde, 1, 2, 1, 0)};
        for (long w : over) {
            due("a jump to the second one of two", 0, w, FIRST, SECOND, EXIT);
        }
        long[] back = {jump(-2), jumpByImmediate(-2), perhaps(-2), Check.place(0xde, 1, 2, -2, 0)};
        for (long w : back) {
            due("a jump back to the second one of two", 2, FIRST, SECOND, w, EXIT);
        }
        due("a jump to the first one of two", NONE, jump(0), FIRST, SECOND, EXIT);
        due("a jump to behind two", NONE, jump(2), FIRST, SECOND, EXIT);
        due("a jump to a second one that is all 0", 0, perhaps(1), FIRST, 0, EXIT);
    }

    private static void lastInstruction() {
        due("the EXIT as the last", NONE, EXIT);
        due("code 5 as the last", NONE, jump(-1));
        due("code 6 as the last", NONE, jumpByImmediate(-1));
        long[] others = {
            ADD, Check.place(0x0c, 1, 2, 0, 0), Check.place(0x87, 1, 0, 0, 0), Check.place(0x85, 0, 0, 0, 1), perhaps(-1),
            Check.place(0x16, 1, 0, -1, 0), Check.place(0x61, 1, 2, 0, 0), Check.place(0x62, 1, 0, 0, 0),
            Check.place(0x63, 1, 2, 0, 0), Check.place(0xc3, 1, 2, 0, 0)
        };
        for (long w : others) {
            due("the place " + Long.toHexString(w) + " as the last", 1, EXIT, w);
            due("the place " + Long.toHexString(w) + " alone", 0, w);
        }
    }

    private static void lastInItsTurn() {
        due("a jump to nowhere before a wrong last one", 1, EXIT, jump(99), ADD);
        due("a wrong place before a wrong last one", 1, EXIT, WRONG, ADD);
        due("a wrong last one alone", 2, EXIT, jump(0), ADD);
    }

    private static void lastOfTwoPlaces() {
        due("two places alone", 0, FIRST, SECOND);
        due("two places at the end", 2, EXIT, EXIT, FIRST, SECOND);
    }

    private static void noPlace() {
        due("no place", 0);
        CompiledProgram x = Check.with(EXIT);
        Check.same("load() of an empty tape behind a program", x.load(), 0);
        Check.same("places() then", x.places(), 0);
    }

    private static void tornPlace() {
        for (int n = 1; n < 8; n++) {
            torn("a torn place alone", n, 0, EXIT);
            torn("a torn place behind the EXIT", 8 + n, 1, EXIT, EXIT);
            torn("a torn place behind two", 16 + n, 2, FIRST, SECOND, EXIT);
            torn("a torn place behind a wrong one", 16 + n, 1, EXIT, WRONG, EXIT);
        }
    }

    private static void tornBehindAFirst() {
        for (int n = 1; n < 8; n++) {
            torn("a torn second one", 8 + n, 0, FIRST, SECOND);
            torn("a torn second one behind others", 24 + n, 2, EXIT, EXIT, FIRST, SECOND);
            torn("a torn second one of zeros", 16 + n, 1, EXIT, FIRST, 0);
        }
    }

    private static void forThemselvesFirst() {
        due("a jump to nowhere before a wrong place", 2, jump(99), EXIT, WRONG, EXIT);
        due("a jump to a second one before a wrong place", 3, jump(1), FIRST, SECOND, WRONG);
        due("a jump to nowhere before a missing second one", 1, jump(99), FIRST);
        due("a jump to nowhere before a wrong second one", 1, jump(99), FIRST, EXIT);
        due("two jumps to nowhere", 1, EXIT, jump(99), perhaps(-99), EXIT);
        due("a jump to nowhere and a wrong last one", 0, perhaps(99), ADD);
    }

    private static void tornBeforeGoingOn() {
        for (int n = 1; n < 8; n++) {
            torn("a jump to nowhere before a torn place", 8 + n, 1, jump(99), EXIT);
            torn("an addition before a torn place", 8 + n, 1, ADD, EXIT);
            torn("a jump to a torn place", 8 + n, 1, jump(0), EXIT);
        }
    }
}
