import java.util.Arrays;

/** The boundary cases of the tape and of the program made from it: THE TAPE, A PROGRAM, promises 2 to 5. */
public final class EdgesOfTapeTest {
    private static final int NONE = CompiledProgram.NONE;
    private static final long WRONG = 0xff;
    private static final long ADD = Check.place(0x07, 1, 0, 0, 1);

    public static void main(String[] args) {
        Check.sentence("An object is used for at most 512 calls after it has been made", EdgesOfTapeTest::atMost512Calls);
        Check.sentence("THE TAPE is a row of bytes, at most 32,768", EdgesOfTapeTest::tapeOfAtMost32768);
        Check.sentence("that is typed twenty at a time, and cut", EdgesOfTapeTest::typedTwentyAtATimeAndCut);
        Check.sentence("load() uses it up", EdgesOfTapeTest::loadUsesTheTapeUp);
        Check.sentence("A PROGRAM is a row of PLACES 0, 1, .., 8 bytes each, at most 4,096",
            EdgesOfTapeTest::programOfAtMost4096);
        Check.sentence("byte 1: its lowest four bits d, its highest four s", EdgesOfTapeTest::fourBitsEach);
        Check.sentence("bytes 2 and 3 the OFFSET o, both with sign, lowest byte first", EdgesOfTapeTest::offsetsWithSign);
        Check.sentence("bytes 4 to 7 the IMMEDIATE i, both with sign, lowest byte first",
            EdgesOfTapeTest::immediatesWithSign);
        Check.sentence("Twenty bytes more on the TAPE, those of a first, the highest byte of each first",
            EdgesOfTapeTest::highestByteFirst);
        Check.sentence("how many it has then", EdgesOfTapeTest::feedTellsHowManyThen);
        Check.sentence("int feed(..) throws IllegalStateException: no room on the TAPE", EdgesOfTapeTest::feedWithoutRoom);
        Check.sentence("The TAPE is cut behind its first n bytes.", EdgesOfTapeTest::cutBehindN);
        Check.sentence("IllegalArgumentException: n is below 0", EdgesOfTapeTest::endBelowZero);
        Check.sentence("or more than it has", EdgesOfTapeTest::endOfMoreThanItHas);
        Check.sentence("The TAPE becomes the program (NONE; registers, memory, and what the latest run told stay)",
            EdgesOfTapeTest::loadOfARightOne);
        Check.sentence("or is refused (the first wrong place; there is no program then, not the one before either)",
            EdgesOfTapeTest::loadOfAWrongOne);
        Check.sentence("(Registers, memory, and what the latest run told, stay.)",
            EdgesOfTapeTest::allElseStaysBehindAWrongOne);
        Check.sentence("the TAPE is empty then", EdgesOfTapeTest::theTapeIsEmptyThen);
        Check.sentence("How many places the program has", EdgesOfTapeTest::placesOfAProgram);
        Check.sentence("0 without one", EdgesOfTapeTest::placesWithoutAProgram);
        Check.finish();
    }

    private static CompiledProgram typed(int bytes) {
        CompiledProgram x = new CompiledProgram();
        Check.type(x, new byte[bytes], bytes);
        return x;
    }

    /** n - 1 times r1 += 1, then EXIT. */
    private static long[] additions(int n) {
        long[] places = new long[n];
        Arrays.fill(places, ADD);
        places[n - 1] = Check.EXIT;
        return places;
    }

    private static void atMost512Calls() {
        CompiledProgram x = new CompiledProgram();
        byte[] bytes = Check.bytesOf(additions(1270));
        for (int call = 1; call <= 508; call++) {
            Check.same("call " + call + ", feed", Check.feed(x, bytes, 20 * (call - 1)), 20 * call);
        }
        Check.same("call 509, load()", x.load(), NONE);
        Check.same("call 510, run(1270)", x.run(1270), CompiledProgram.EXIT);
        Check.same("call 511, get(1)", x.get(1), 1269);
        Check.same("call 512, steps()", x.steps(), 1270);
    }

    /** No 512 calls fill a tape: the class keeps the limit beyond them, as the document tells it. */
    private static void tapeOfAtMost32768() {
        CompiledProgram x = typed(32748);
        Check.same("a feed to 32768", x.feed(0, 0, 0, 0, 0), 32768);
        Check.fails("a feed on a full tape", IllegalStateException.class, () -> x.feed(0, 0, 0, 0, 0));
        Check.hasTyped("a full tape", x, 32768);
        CompiledProgram y = typed(32749);
        Check.fails("a feed to 32769", IllegalStateException.class, () -> y.feed(0, 0, 0, 0, 0));
    }

    private static void typedTwentyAtATimeAndCut() {
        CompiledProgram x = new CompiledProgram();
        Check.same("the first feed", x.feed(0, 0, 0, 0, 0), 20);
        x.end(7);
        Check.same("a feed behind a cut", x.feed(0, 0, 0, 0, 0), 27);
        x.end(26);
        x.end(0);
        Check.same("a feed behind a cut of all", x.feed(0, 0, 0, 0, 0), 20);
    }

    private static void loadUsesTheTapeUp() {
        CompiledProgram x = Check.with(Check.EXIT);
        Check.same("a second load() of one tape", x.load(), 0);
        Check.same("places() behind it", x.places(), 0);
    }

    private static void programOfAtMost4096() {
        CompiledProgram x = new CompiledProgram();
        byte[] bytes = Check.bytesOf(additions(4096));
        Check.type(x, bytes, 32748);
        Check.feed(x, bytes, 32748);
        Check.same("load() of the longest", x.load(), NONE);
        Check.same("places() of the longest", x.places(), 4096);
        Check.ran("the longest", x, 4096, CompiledProgram.EXIT, 4095, 4096);
    }

    private static void fourBitsEach() {
        CompiledProgram x = new CompiledProgram();
        x.feed(0xbfa90000, 0, 0x95000000, 0, 0);
        x.end(16);
        Check.same("load() of d 9, s 10", x.load(), NONE);
        x.set(10, 77);
        x.run(2);
        Check.same("r9, that gets r10", x.get(9), 77);
    }

    private static void offsetsWithSign() {
        int[] typed = {0x0000, 0x0100, 0x0001, 0xff7f, 0x0080, 0xffff, 0xff00, 0x00ff};
        int[] offsets = {0, 1, 256, 32767, -32768, -1, 255, -256};
        for (int k = 0; k < typed.length; k++) {
            CompiledProgram x = new CompiledProgram();
            x.feed(0x79210000 | typed[k], 0, 0x95000000, 0, 0);
            x.end(16);
            Check.same("load()", x.load(), NONE);
            x.put(Check.MEMORY, 77);
            x.set(2, Check.MEMORY - offsets[k]);
            Check.ran("a read with the offset " + offsets[k], x, 2, CompiledProgram.EXIT, 1, 2);
            Check.same("what it read", x.get(1), 77);
        }
    }

    private static void immediatesWithSign() {
        int[] typed = {0, 0x01000000, 1, 0xffffff7f, 0x00000080, 0xffffffff, 0x00010000, 0x00000100};
        int[] immediates = {0, 1, 1 << 24, Integer.MAX_VALUE, Integer.MIN_VALUE, -1, 256, 65536};
        for (int k = 0; k < typed.length; k++) {
            CompiledProgram x = new CompiledProgram();
            x.feed(0xb7010000, typed[k], 0x95000000, 0, 0);
            x.end(16);
            Check.same("load()", x.load(), NONE);
            x.run(2);
            Check.same("r1, that gets i", x.get(1), immediates[k]);
        }
    }

    private static void highestByteFirst() {
        CompiledProgram x = new CompiledProgram();
        x.feed(0xb7010000, 0x11223344, 0xb7020000, 0x85868788, 0xb7030000);
        x.feed(0x99aabbcc, 0xb7040000, 0xff000180, 0x95000000, 0x00000000);
        Check.same("load()", x.load(), NONE);
        x.run(5);
        Check.same("r1", x.get(1), 0x44332211);
        Check.same("r2", x.get(2), 0x88878685);
        Check.same("r3", x.get(3), 0xccbbaa99);
        Check.same("r4", x.get(4), 0x800100ff);
    }

    private static void feedTellsHowManyThen() {
        CompiledProgram x = new CompiledProgram();
        for (int k = 1; k <= 500; k++) {
            Check.same("feed number " + k, x.feed(-1, -1, -1, -1, -1), 20 * k);
        }
        Check.hasTyped("500 feeds", x, 10000);
    }

    private static void feedWithoutRoom() {
        for (int room = 0; room < 20; room++) {
            CompiledProgram x = typed(32748);
            x.feed(0, 0, 0, 0, 0);
            x.end(32768 - room);
            Check.fails("a feed with room for " + room, IllegalStateException.class, () -> x.feed(-1, -1, -1, -1, -1));
            Check.hasTyped("a refused feed", x, 32768 - room);
        }
    }

    private static void cutBehindN() {
        CompiledProgram x = new CompiledProgram();
        x.end(0);
        Check.hasTyped("an empty tape cut behind 0", x, 0);
        x.feed(0x95000000, 0, -1, -1, -1);
        x.end(20);
        Check.hasTyped("a tape cut behind all it has", x, 20);
        x.end(8);
        Check.hasTyped("a tape cut behind 8", x, 8);
        x.feed(0x95000000, 0, -1, -1, -1);
        x.end(16);
        Check.same("load() of what stays and what is typed behind it", x.load(), NONE);
        Check.same("places()", x.places(), 2);
    }

    private static void endBelowZero() {
        for (int typed : new int[] {0, 20}) {
            CompiledProgram x = typed(typed);
            Check.fails("end(-1)", IllegalArgumentException.class, () -> x.end(-1));
            Check.fails("end(the least int)", IllegalArgumentException.class, () -> x.end(Integer.MIN_VALUE));
            Check.hasTyped("refused ends", x, typed);
        }
    }

    private static void endOfMoreThanItHas() {
        for (int typed : new int[] {0, 1, 19, 20, 40, 512, 1000}) {
            CompiledProgram x = typed(typed);
            Check.fails("end(" + (typed + 1) + ")", IllegalArgumentException.class, () -> x.end(typed + 1));
            Check.fails("end(the greatest int)", IllegalArgumentException.class, () -> x.end(Integer.MAX_VALUE));
            Check.hasTyped("refused ends", x, typed);
        }
        CompiledProgram cut = typed(20);
        cut.end(19);
        Check.fails("end(20) behind end(19)", IllegalArgumentException.class, () -> cut.end(20));
    }

    private static void loadOfARightOne() {
        CompiledProgram x = ranOnce();
        Check.same("load() of another", Check.load(x, Check.EXIT, Check.EXIT, Check.EXIT), NONE);
        Check.same("places()", x.places(), 3);
        isAsItRan("behind a right load()", x);
        Check.ran("the new program", x, 9, CompiledProgram.EXIT, 0, 1);
    }

    private static void loadOfAWrongOne() {
        CompiledProgram x = ranOnce();
        Check.same("load() of a wrong one", Check.load(x, Check.EXIT, WRONG, WRONG), 1);
        Check.same("places()", x.places(), 0);
        Check.fails("run(1)", IllegalStateException.class, () -> x.run(1));
    }

    private static void allElseStaysBehindAWrongOne() {
        CompiledProgram x = ranOnce();
        Check.load(x, Check.EXIT, WRONG, WRONG);
        isAsItRan("behind a refused load()", x);
    }

    private static CompiledProgram ranOnce() {
        CompiledProgram x = Check.with(Check.place(0xb7, 3, 0, 0, 7), Check.place(0x7b, 10, 3, 0, 0), Check.EXIT);
        x.set(10, Check.MEMORY + 4088);
        Check.ran("the first program", x, 9, CompiledProgram.EXIT, 2, 3);
        return x;
    }

    private static void isAsItRan(String what, CompiledProgram x) {
        Check.same("r3 " + what, x.get(3), 7);
        Check.same("r10 " + what, x.get(10), Check.MEMORY + 4088);
        Check.same("the last word " + what, x.word(Check.MEMORY + 4088), 7);
        Check.same("place() " + what, x.place(), 2);
        Check.same("steps() " + what, x.steps(), 3);
    }

    private static void theTapeIsEmptyThen() {
        CompiledProgram x = Check.with(Check.EXIT);
        Check.hasTyped("behind a right load()", x, 0);
        Check.load(x, WRONG);
        Check.hasTyped("behind a load() refused for a place itself", x, 0);
        Check.load(x, ADD);
        Check.hasTyped("behind a load() refused for where it goes on", x, 0);
        Check.type(x, Check.bytesOf(Check.EXIT, Check.EXIT), 11);
        x.load();
        Check.hasTyped("behind a load() refused for a torn place", x, 0);
        x.load();
        Check.hasTyped("behind a load() of an empty tape", x, 0);
    }

    private static void placesOfAProgram() {
        CompiledProgram x = Check.with(Check.EXIT);
        Check.same("places() of the shortest", x.places(), 1);
        x.feed(0, 0, 0, 0, 0);
        Check.same("places(), more being typed", x.places(), 1);
        x.end(0);
        Check.load(x, Check.place(0x18, 1, 0, 0, 5), 0, Check.EXIT);
        Check.same("places() with an instruction of two", x.places(), 3);
        Check.load(x, additions(1000));
        Check.same("places() of a long one", x.places(), 1000);
    }

    private static void placesWithoutAProgram() {
        CompiledProgram x = new CompiledProgram();
        Check.same("places() of a new object", x.places(), 0);
        x.feed(0x95000000, 0, 0, 0, 0);
        Check.same("places() before load()", x.places(), 0);
        x.end(8);
        x.load();
        x.load();
        Check.same("places() behind a refused load()", x.places(), 0);
    }
}
