/** The boundary cases of TO RUN, of calls that throw, and of promises 10 to 12. */
public final class EdgesOfRunTest {
    private static final int NONE = CompiledProgram.NONE;
    private static final int EXIT = CompiledProgram.EXIT, FUEL = CompiledProgram.FUEL, TRAP = CompiledProgram.TRAP;
    private static final long ADD = Check.place(0x07, 1, 0, 0, 1);
    private static final long FIRST = Check.place(0x18, 2, 0, 0, 5);
    private static final long TRAPPING = Check.place(0x79, 3, 9, 0, 0);
    private static final int[] WRONG_FUELS = {-1, 100001, Integer.MIN_VALUE, Integer.MAX_VALUE};

    public static void main(String[] args) {
        Check.sentence("TO RUN with a fuel: from place 0 on", EdgesOfRunTest::fromPlaceZeroOn);
        Check.sentence("Each instruction (of two places, too) is a STEP", EdgesOfRunTest::eachInstructionIsAStep);
        Check.sentence("when as many as the fuel are done, and another one comes: fuel 0", EdgesOfRunTest::fuelZero);
        Check.sentence("and another one comes (whatever it is), it ends with FUEL at its place",
            EdgesOfRunTest::whateverComes);
        Check.sentence("when as many as the fuel are done: the last step of a fuel is done",
            EdgesOfRunTest::lastStepOfAFuel);
        Check.sentence("The EXIT is a step, and ends it with EXIT", EdgesOfRunTest::exitIsAStep);
        Check.sentence("An instruction that would read or write a byte that is not in MEMORY is no step, and ends it with TRAP",
            EdgesOfRunTest::notInMemory);
        Check.sentence("or has an address that should be a multiple of z and isn't", EdgesOfRunTest::notAMultiple);
        Check.sentence("Runs the program with a fuel, registers and memory as they are",
            EdgesOfRunTest::registersAndMemoryAsTheyAre);
        Check.sentence("IllegalArgumentException: fuel is not 0 .. 100000", EdgesOfRunTest::wrongFuel);
        Check.sentence("fuel 0 .. 100000: both ends are right", EdgesOfRunTest::edgesOfFuel);
        Check.sentence("IllegalStateException: there is no program", EdgesOfRunTest::noProgram);
        Check.sentence("of two exceptions the one that it names first is thrown", EdgesOfRunTest::firstNamedException);
        Check.sentence("A call that throws changes nothing", EdgesOfRunTest::throwingChangesNothing);
        Check.sentence("place: NONE when there was none", EdgesOfRunTest::placeOfNoRun);
        Check.sentence("The place at which the latest run ended", EdgesOfRunTest::placeOfTheLatestRun);
        Check.sentence("steps: 0 when there was none", EdgesOfRunTest::stepsOfNoRun);
        Check.sentence("How many steps the latest run made", EdgesOfRunTest::stepsOfTheLatestRun);
        Check.finish();
    }

    private static void fromPlaceZeroOn() {
        CompiledProgram x = Check.with(ADD, ADD, Check.place(0x07, 2, 0, 0, 1), Check.EXIT);
        Check.ran("the first run", x, 2, FUEL, 2, 2);
        Check.ran("a run behind FUEL", x, 2, FUEL, 2, 2);
        Check.ran("a run to the EXIT", x, 9, EXIT, 3, 4);
        Check.ran("a run behind EXIT", x, 1, FUEL, 1, 1);
        Check.same("what place 0 and 1 added", x.get(1), 7);
        Check.same("what place 2 added", x.get(2), 1);
    }

    private static void eachInstructionIsAStep() {
        CompiledProgram x = Check.with(FIRST, 0, FIRST, 0, ADD, Check.EXIT);
        Check.ran("fuel 1", x, 1, FUEL, 2, 1);
        Check.ran("fuel 2", x, 2, FUEL, 4, 2);
        Check.ran("fuel 3", x, 3, FUEL, 5, 3);
        Check.ran("fuel 4", x, 4, EXIT, 5, 4);
        CompiledProgram jumps = Check.with(
            Check.place(0x05, 0, 0, 0, 0), Check.place(0x15, 1, 0, 0, 9), Check.place(0x85, 0, 0, 0, 1), Check.EXIT);
        Check.ran("jumps and a CALL", jumps, 9, EXIT, 3, 4);
    }

    private static void fuelZero() {
        Check.ran("before an addition", Check.with(ADD, Check.EXIT), 0, FUEL, 0, 0);
        Check.ran("before the EXIT", Check.with(Check.EXIT), 0, FUEL, 0, 0);
        Check.ran("before a TRAP", Check.with(TRAPPING, Check.EXIT), 0, FUEL, 0, 0);
        Check.ran("before two places", Check.with(FIRST, 0, Check.EXIT), 0, FUEL, 0, 0);
        CompiledProgram x = Check.with(ADD, Check.EXIT);
        x.run(0);
        Check.same("r1 behind fuel 0", x.get(1), 0);
    }

    private static void whateverComes() {
        Check.ran("the EXIT comes", Check.with(ADD, Check.EXIT), 1, FUEL, 1, 1);
        Check.ran("a TRAP comes", Check.with(ADD, TRAPPING, Check.EXIT), 1, FUEL, 1, 1);
        Check.ran("two places come", Check.with(ADD, FIRST, 0, Check.EXIT), 1, FUEL, 1, 1);
        Check.ran("what comes behind two places", Check.with(FIRST, 0, Check.EXIT), 1, FUEL, 2, 1);
        Check.ran("a jump's aim comes", Check.with(Check.place(0x05, 0, 0, 1, 0), ADD, Check.EXIT), 1, FUEL, 2, 1);
        Check.ran("the same one comes", Check.with(Check.place(0x05, 0, 0, -1, 0)), 7, FUEL, 0, 7);
    }

    private static void lastStepOfAFuel() {
        CompiledProgram x = Check.with(ADD, ADD, ADD, Check.EXIT);
        x.run(2);
        Check.same("r1 behind fuel 2", x.get(1), 2);
        CompiledProgram trap = Check.with(ADD, TRAPPING, Check.EXIT);
        Check.ran("the last of the fuel would trap", trap, 2, TRAP, 1, 1);
    }

    private static void exitIsAStep() {
        Check.ran("the EXIT as the last step of the fuel", Check.with(ADD, Check.EXIT), 2, EXIT, 1, 2);
        Check.ran("the EXIT alone", Check.with(Check.EXIT), 1, EXIT, 0, 1);
        Check.ran("fuel left", Check.with(Check.EXIT, ADD, Check.EXIT), 9, EXIT, 0, 1);
    }

    private static void notInMemory() {
        CompiledProgram x = Check.with(ADD, TRAPPING, Check.EXIT);
        Check.ran("a read at 0", x, 9, TRAP, 1, 1);
        x.set(9, Check.MEMORY + 4089);
        Check.ran("a read with its last byte outside", x, 9, TRAP, 1, 1);
        x.set(9, Check.MEMORY - 1);
        Check.ran("a read with its first byte outside", x, 9, TRAP, 1, 1);
        x.set(9, Check.MEMORY + 4088);
        Check.ran("a read of the last word", x, 9, EXIT, 2, 3);
    }

    private static void notAMultiple() {
        CompiledProgram x = Check.with(ADD, Check.place(0xdb, 9, 2, 0, 0), Check.EXIT);
        x.set(9, Check.MEMORY + 4);
        Check.ran("an exchange of 8 bytes at 4", x, 9, TRAP, 1, 1);
        x.set(9, Check.MEMORY + 8);
        Check.ran("an exchange of 8 bytes at 8", x, 9, EXIT, 2, 3);
    }

    private static void registersAndMemoryAsTheyAre() {
        CompiledProgram x = Check.with(Check.place(0x79, 1, 9, 0, 0), ADD, Check.place(0x7b, 9, 1, 0, 0), Check.EXIT);
        x.put(Check.MEMORY, Long.MAX_VALUE);
        x.set(9, Check.MEMORY);
        x.run(9);
        Check.same("the word behind one run", x.word(Check.MEMORY), Long.MIN_VALUE);
        x.run(9);
        Check.same("the word behind two runs", x.word(Check.MEMORY), Long.MIN_VALUE + 1);
    }

    private static void wrongFuel() {
        CompiledProgram x = Check.with(ADD, Check.EXIT);
        for (int fuel : WRONG_FUELS) {
            Check.fails("run(" + fuel + ")", IllegalArgumentException.class, () -> x.run(fuel));
        }
        Check.same("r1", x.get(1), 0);
    }

    private static void edgesOfFuel() {
        CompiledProgram x = Check.with(ADD, Check.place(0x05, 0, 0, -2, 0));
        Check.ran("the least fuel", x, 0, FUEL, 0, 0);
        Check.ran("the greatest fuel", x, 100000, FUEL, 0, 100000);
        Check.same("r1", x.get(1), 50000);
        Check.ran("one less", x, 99999, FUEL, 1, 99999);
    }

    private static void noProgram() {
        CompiledProgram x = new CompiledProgram();
        for (int fuel : new int[] {0, 1, 100000}) {
            Check.fails("run(" + fuel + ") of a new object", IllegalStateException.class, () -> x.run(fuel));
        }
        x.feed(0x95000000, 0, 0, 0, 0);
        x.end(8);
        Check.fails("run(1) before load()", IllegalStateException.class, () -> x.run(1));
        x.load();
        Check.ran("behind load()", x, 1, EXIT, 0, 1);
        x.load();
        Check.fails("run(1) behind a refused load()", IllegalStateException.class, () -> x.run(1));
    }

    private static void firstNamedException() {
        CompiledProgram x = new CompiledProgram();
        for (int fuel : WRONG_FUELS) {
            Check.fails("run(" + fuel + ") without a program", IllegalArgumentException.class, () -> x.run(fuel));
        }
    }

    private static void throwingChangesNothing() {
        CompiledProgram x = Check.with(ADD, Check.place(0x7b, 9, 1, 0, 0), ADD, Check.EXIT);
        x.set(9, Check.MEMORY);
        Check.ran("before", x, 3, FUEL, 3, 3);
        x.feed(0x95000000, 0, 0, 0, 0);
        Check.fails("end(-1)", IllegalArgumentException.class, () -> x.end(-1));
        Check.fails("end(21)", IllegalArgumentException.class, () -> x.end(21));
        isAsBefore("end", x, 4);
        Check.fails("set(-1, 5)", IndexOutOfBoundsException.class, () -> x.set(-1, 5));
        Check.fails("set(11, 5)", IndexOutOfBoundsException.class, () -> x.set(11, 5));
        Check.fails("get(11)", IndexOutOfBoundsException.class, () -> x.get(11));
        isAsBefore("set and get", x, 4);
        Check.fails("put before memory", IndexOutOfBoundsException.class, () -> x.put(Check.MEMORY - 1, -1));
        Check.fails("put behind memory", IndexOutOfBoundsException.class, () -> x.put(Check.MEMORY + 4089, -1));
        Check.fails("word behind memory", IndexOutOfBoundsException.class, () -> x.word(Check.MEMORY + 4089));
        isAsBefore("put and word", x, 4);
        Check.fails("run(-1)", IllegalArgumentException.class, () -> x.run(-1));
        Check.fails("run(100001)", IllegalArgumentException.class, () -> x.run(100001));
        isAsBefore("run with a wrong fuel", x, 4);
        x.load();
        x.feed(0, 0, 0, 0, 0);
        Check.fails("run(5) without a program", IllegalStateException.class, () -> x.run(5));
        isAsBefore("run without a program", x, 0);
    }

    private static void isAsBefore(String what, CompiledProgram x, int places) {
        Check.hasTyped(what, x, 20);
        Check.same("places() behind " + what, x.places(), places);
        Check.same("place() behind " + what, x.place(), 3);
        Check.same("steps() behind " + what, x.steps(), 3);
        for (int r = 0; r <= 10; r++) {
            Check.same("get(" + r + ") behind " + what, x.get(r), r == 1 ? 2 : r == 9 ? Check.MEMORY : 0);
        }
        Check.same("the first word behind " + what, x.word(Check.MEMORY), 1);
        Check.same("the last word behind " + what, x.word(Check.MEMORY + 4088), 0);
    }

    private static void placeOfNoRun() {
        CompiledProgram x = new CompiledProgram();
        Check.same("place() of a new object", x.place(), NONE);
        Check.fails("run(1)", IllegalStateException.class, () -> x.run(1));
        Check.same("place() behind a run that threw", x.place(), NONE);
        Check.load(x, Check.EXIT);
        Check.same("place() behind load()", x.place(), NONE);
        Check.fails("run(-1)", IllegalArgumentException.class, () -> x.run(-1));
        Check.same("place() behind another run that threw", x.place(), NONE);
    }

    private static void placeOfTheLatestRun() {
        CompiledProgram x = Check.with(ADD, TRAPPING, ADD, Check.EXIT);
        x.run(9);
        Check.same("place() behind TRAP", x.place(), 1);
        x.run(0);
        Check.same("place() behind FUEL", x.place(), 0);
        x.set(9, Check.MEMORY);
        x.run(9);
        Check.same("place() behind EXIT", x.place(), 3);
        x.load();
        Check.same("place() without a program", x.place(), 3);
    }

    private static void stepsOfNoRun() {
        CompiledProgram x = new CompiledProgram();
        Check.same("steps() of a new object", x.steps(), 0);
        Check.fails("run(1)", IllegalStateException.class, () -> x.run(1));
        Check.same("steps() behind a run that threw", x.steps(), 0);
        Check.load(x, Check.EXIT);
        Check.same("steps() behind load()", x.steps(), 0);
    }

    private static void stepsOfTheLatestRun() {
        CompiledProgram x = Check.with(ADD, TRAPPING, ADD, Check.EXIT);
        x.set(9, Check.MEMORY);
        x.run(9);
        Check.same("steps() behind EXIT", x.steps(), 4);
        x.set(9, 0);
        x.run(9);
        Check.same("steps() behind TRAP", x.steps(), 1);
        x.run(0);
        Check.same("steps() behind fuel 0", x.steps(), 0);
        x.set(9, Check.MEMORY);
        x.run(3);
        Check.same("steps() behind FUEL", x.steps(), 3);
        x.load();
        Check.same("steps() without a program", x.steps(), 3);
    }
}
