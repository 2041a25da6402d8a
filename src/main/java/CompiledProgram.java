import java.util.Arrays;

/** Small programs of a machine with eleven registers: typed as bytes, looked over for their form, run with a fuel. */
public final class CompiledProgram {
    public static final int NONE = -1;
    public static final int EXIT = 0, FUEL = 1, TRAP = 2;

    private static final int REGISTERS = 11;
    private static final int MOST_FUEL = 100000;
    private static final int LONG_BYTES = 8;

    private final Tape tape = new Tape();
    private final Program program = new Program();
    private final Machine machine = new Machine();
    private int latestPlace = NONE;
    private int latestSteps = 0;

    public CompiledProgram() {
    }

    public int feed(int a, int b, int c, int d, int e) throws IllegalStateException {
        if (!tape.hasRoom()) {
            throw new IllegalStateException("no room on the tape");
        }
        tape.makeRoom();
        tape.type(a);
        tape.type(b);
        tape.type(c);
        tape.type(d);
        tape.type(e);
        return tape.length;
    }

    public void end(int n) throws IllegalArgumentException {
        if (n < 0 || n > tape.length) {
            throw new IllegalArgumentException("the tape has no such length");
        }
        tape.length = n;
    }

    public int load() {
        boolean torn = tape.length % Tape.PLACE_BYTES != 0;
        program.takeFrom(tape);
        tape.length = 0;
        int wrong = Form.firstWrongForItself(program, torn);
        if (wrong == NONE) {
            wrong = Form.firstGoingWrong(program);
        }
        if (wrong != NONE) {
            program.count = 0;
        }
        return wrong;
    }

    public int places() {
        return program.count;
    }

    public void set(int r, long v) throws IndexOutOfBoundsException {
        if (r < 0 || r >= REGISTERS) {
            throw new IndexOutOfBoundsException("there is no such register");
        }
        machine.registers[r] = v;
    }

    public long get(int r) throws IndexOutOfBoundsException {
        if (r < 0 || r >= REGISTERS) {
            throw new IndexOutOfBoundsException("there is no such register");
        }
        return machine.registers[r];
    }

    public void put(long address, long v) throws IndexOutOfBoundsException {
        if (!machine.memory.holds(address, LONG_BYTES)) {
            throw new IndexOutOfBoundsException("there is no such word");
        }
        machine.memory.write(address, LONG_BYTES, v);
    }

    public long word(long address) throws IndexOutOfBoundsException {
        if (!machine.memory.holds(address, LONG_BYTES)) {
            throw new IndexOutOfBoundsException("there is no such word");
        }
        return machine.memory.read(address, LONG_BYTES);
    }

    public int run(int fuel) throws IllegalArgumentException, IllegalStateException {
        if (fuel < 0 || fuel > MOST_FUEL) {
            throw new IllegalArgumentException("the fuel is not 0 .. 100000");
        }
        if (program.count == 0) {
            throw new IllegalStateException("there is no program");
        }
        latestPlace = 0;
        latestSteps = 0;
        for (int done = 0; done < fuel; done++) {
            int next = machine.follow(program, latestPlace);
            if (next == Machine.TRAPPED) {
                return TRAP;
            }
            latestSteps = done + 1;
            if (next == Machine.LEFT) {
                return EXIT;
            }
            latestPlace = next;
        }
        return FUEL;
    }

    public int place() {
        return latestPlace;
    }

    public int steps() {
        return latestSteps;
    }

    /** The bytes typed so far. The row grows, as few tapes come near the limit and all rows are counted. */
    private static final class Tape {
        static final int PLACE_BYTES = 8;
        static final int LIMIT = 32768;
        static final int FED = 20;

        byte[] bytes = new byte[512];
        int length = 0;

        boolean hasRoom() {
            return length + FED <= LIMIT;
        }

        void makeRoom() {
            if (length + FED > bytes.length) {
                bytes = Arrays.copyOf(bytes, Math.min(LIMIT, 2 * bytes.length));
            }
        }

        void type(int four) {
            if (length + 4 > bytes.length) {
                return;
            }
            bytes[length] = (byte) (four >> 24);
            bytes[length + 1] = (byte) (four >> 16);
            bytes[length + 2] = (byte) (four >> 8);
            bytes[length + 3] = (byte) four;
            length += 4;
        }

        /** The eight bytes of a place as one long, the first byte lowest: fields are then cut out by shifts. */
        long placeAt(int p) {
            int from = p * PLACE_BYTES;
            if (p < 0 || from + PLACE_BYTES > length) {
                return 0;
            }
            long w = 0;
            for (int k = PLACE_BYTES - 1; k >= 0; k--) {
                w = w << 8 | bytes[from + k] & 255;
            }
            return w;
        }
    }

    /** The places of a program, each as one long. */
    private static final class Program {
        long[] row = new long[64];
        int count = 0;

        void takeFrom(Tape tape) {
            count = tape.length / Tape.PLACE_BYTES;
            if (count > row.length) {
                // Twice as long at least, so that ever longer programs make few rows.
                row = new long[Math.max(count, 2 * row.length)];
            }
            for (int p = 0; p < count; p++) {
                row[p] = tape.placeAt(p);
            }
        }

        boolean has(long p) {
            return p >= 0 && p < count;
        }

        long at(int p) {
            return has(p) ? row[p] : 0;
        }
    }

    /** The fields of a place. */
    private static final class Fields {
        static final int JUMP_BY_OFFSET = 5, JUMP_BY_IMMEDIATE = 6, TWO_PLACES = 24, CALL = 133, LEAVE = 149;

        static int code(long w) {
            return (int) w & 255;
        }

        static int kind(long w) {
            return (int) w & 7;
        }

        static int operation(long w) {
            return (int) (w >>> 4) & 15;
        }

        static boolean usesSource(long w) {
            return (w & 8) != 0;
        }

        static int mode(long w) {
            return (int) (w >>> 5) & 7;
        }

        static int size(long w) {
            switch ((int) (w >>> 3) & 3) {
                case 0: return 4;
                case 1: return 2;
                case 2: return 1;
                default: return 8;
            }
        }

        static int target(long w) {
            return (int) (w >>> 8) & 15;
        }

        static int source(long w) {
            return (int) (w >>> 12) & 15;
        }

        static int offset(long w) {
            return (short) (w >>> 16);
        }

        static int immediate(long w) {
            return (int) (w >>> 32);
        }

        static boolean isTwoPlaces(long w) {
            return code(w) == TWO_PLACES;
        }

        static boolean isExit(long w) {
            return code(w) == LEAVE;
        }

        static boolean isCall(long w) {
            return code(w) == CALL;
        }

        static boolean jumpsAlways(long w) {
            return code(w) == JUMP_BY_OFFSET || code(w) == JUMP_BY_IMMEDIATE;
        }

        static boolean jumpsPerhaps(long w) {
            int n = operation(w);
            boolean jumps = kind(w) == 5 || kind(w) == 6;
            return jumps && (n >= 1 && n <= 7 || n >= 10 && n <= 13);
        }

        /** Where a jump at p goes. A long, as an immediate may lead beyond the ints. */
        static long jumpFrom(int p, long w) {
            return p + 1L + (code(w) == JUMP_BY_IMMEDIATE ? immediate(w) : offset(w));
        }
    }

    /** What load() finds wrong. */
    private static final class Form {
        static final int LAST_REGISTER = 10;
        static final int LAST_CHANGED = 9;

        static int firstWrongForItself(Program program, boolean torn) {
            for (int p = 0; p < program.count; p++) {
                long w = program.at(p);
                if (!isInstruction(w)) {
                    return p;
                }
                if (Fields.isTwoPlaces(w)) {
                    if (!program.has(p + 1) || !isSecondOf(w, program.at(p + 1))) {
                        return p;
                    }
                    p++;
                }
            }
            return torn || program.count == 0 ? program.count : NONE;
        }

        static int firstGoingWrong(Program program) {
            for (int p = 0; p < program.count; p++) {
                long w = program.at(p);
                if (!goesOnRightly(program, p, w)) {
                    return p;
                }
                if (Fields.isTwoPlaces(w)) {
                    p++;
                }
            }
            return NONE;
        }

        static boolean goesOnRightly(Program program, int p, long w) {
            if (Fields.isExit(w)) {
                return true;
            }
            if (Fields.jumpsAlways(w)) {
                return isStart(program, Fields.jumpFrom(p, w));
            }
            if (Fields.jumpsPerhaps(w) && !isStart(program, Fields.jumpFrom(p, w))) {
                return false;
            }
            return isStart(program, p + (Fields.isTwoPlaces(w) ? 2 : 1));
        }

        /** Among places that are right for themselves, code 0 is that of the second ones of two, and of no other. */
        static boolean isStart(Program program, long p) {
            return program.has(p) && Fields.code(program.at((int) p)) != 0;
        }

        static boolean isInstruction(long w) {
            switch (Fields.kind(w)) {
                case 0: return isFirstOfTwo(w);
                case 1: return isRead(w);
                case 2: return isWriteOfNumber(w);
                case 3: return Fields.mode(w) == 6 ? isExchange(w) : isWriteOfRegister(w);
                case 5: case 6: return Fields.jumpsPerhaps(w) ? isPerhapsJump(w) : isCallOrExitOrJump(w);
                default: return isArithmetic(w);
            }
        }

        static boolean isFirstOfTwo(long w) {
            int s = Fields.source(w);
            return Fields.isTwoPlaces(w) && Fields.target(w) <= LAST_CHANGED && Fields.offset(w) == 0
                && (s == 0 || s == 1 && Fields.immediate(w) >= 0);
        }

        static boolean isSecondOf(long first, long w) {
            boolean onlyImmediate = (int) w == 0;
            return onlyImmediate && (Fields.source(first) == 0 || Fields.immediate(w) == 0);
        }

        static boolean isRead(long w) {
            int mode = Fields.mode(w);
            return (mode == 3 || mode == 4 && Fields.size(w) < 8) && Fields.immediate(w) == 0
                && Fields.target(w) <= LAST_CHANGED && Fields.source(w) <= LAST_REGISTER;
        }

        static boolean isWriteOfNumber(long w) {
            return Fields.mode(w) == 3 && Fields.target(w) <= LAST_REGISTER && Fields.source(w) == 0;
        }

        static boolean isWriteOfRegister(long w) {
            return Fields.mode(w) == 3 && Fields.immediate(w) == 0
                && Fields.target(w) <= LAST_REGISTER && Fields.source(w) <= LAST_REGISTER;
        }

        static boolean isExchange(long w) {
            return Fields.size(w) >= 4 && Exchange.isKnown(Fields.immediate(w)) && Fields.target(w) <= LAST_REGISTER
                && Fields.source(w) <= (Exchange.changesSource(Fields.immediate(w)) ? LAST_CHANGED : LAST_REGISTER);
        }

        static boolean isPerhapsJump(long w) {
            return Fields.target(w) <= LAST_REGISTER && hasOperand(w);
        }

        static boolean isCallOrExitOrJump(long w) {
            if (Fields.target(w) != 0 || Fields.source(w) != 0) {
                return false;
            }
            switch (Fields.code(w)) {
                case Fields.JUMP_BY_OFFSET: return Fields.immediate(w) == 0;
                case Fields.JUMP_BY_IMMEDIATE: case Fields.CALL: return Fields.offset(w) == 0;
                case Fields.LEAVE: return Fields.offset(w) == 0 && Fields.immediate(w) == 0;
                default: return false;
            }
        }

        static boolean hasOperand(long w) {
            return Fields.usesSource(w)
                ? Fields.source(w) <= LAST_REGISTER && Fields.immediate(w) == 0
                : Fields.source(w) == 0;
        }

        static boolean isArithmetic(long w) {
            if (Fields.target(w) > LAST_CHANGED) {
                return false;
            }
            switch (Fields.operation(w)) {
                case 3: case 9: return hasOperand(w) && (Fields.offset(w) == 0 || Fields.offset(w) == 1);
                case 8: return !Fields.usesSource(w) && hasOperand(w) && Fields.immediate(w) == 0 && Fields.offset(w) == 0;
                case 11: return hasOperand(w) && isMoveOffset(w);
                case 13: return isTurning(w);
                case 14: case 15: return false;
                default: return hasOperand(w) && Fields.offset(w) == 0;
            }
        }

        static boolean isMoveOffset(long w) {
            switch (Fields.offset(w)) {
                case 0: return true;
                case 8: case 16: return Fields.usesSource(w);
                case 32: return Fields.usesSource(w) && Fields.kind(w) == 7;
                default: return false;
            }
        }

        static boolean isTurning(long w) {
            int i = Fields.immediate(w);
            return (Fields.kind(w) == 4 || !Fields.usesSource(w)) && Fields.source(w) == 0 && Fields.offset(w) == 0
                && (i == 16 || i == 32 || i == 64);
        }
    }

    /** What the instructions of the classes 7 and 4 compute, by n. */
    private static final class Arithmetic {
        // Longs with this bit turned stand in the order that they have unsigned.
        static final long TOP_BIT = 1L << 63;

        static long wide(int n, int o, long x, long y) {
            switch (n) {
                case 0: return x + y;
                case 1: return x - y;
                case 2: return x * y;
                case 3: return quotient(o == 1, x, y);
                case 4: return x | y;
                case 5: return x & y;
                case 6: return x << (y & 63);
                case 7: return x >>> (y & 63);
                case 8: return -x;
                case 9: return rest(o == 1, x, y);
                case 10: return x ^ y;
                case 11: return o == 0 ? y : signed(y, o);
                case 12: return x >> (y & 63);
                default: return x;
            }
        }

        static long narrow(int n, int o, int x, int y) {
            switch (n) {
                case 3: return lowest(o == 1 ? quotient(true, x, y) : quotient(false, lowest(x, 32), lowest(y, 32)), 32);
                case 6: return lowest(x << (y & 31), 32);
                case 7: return lowest(x >>> (y & 31), 32);
                case 9: return lowest(o == 1 ? rest(true, x, y) : rest(false, lowest(x, 32), lowest(y, 32)), 32);
                case 12: return lowest(x >> (y & 31), 32);
                // Of the others the lowest 32 bits depend on no higher ones.
                default: return lowest(wide(n, o, x, y), 32);
            }
        }

        static long quotient(boolean withSign, long x, long y) {
            if (y == 0) {
                return 0;
            }
            return withSign ? x / y : unsignedQuotient(x, y);
        }

        /** The library's own one may make objects, which would be counted. */
        static long unsignedQuotient(long x, long y) {
            if (y <= 0) {
                return (x ^ TOP_BIT) >= (y ^ TOP_BIT) ? 1 : 0;
            }
            long q = (x >>> 1) / y << 1;
            long left = x - q * y;
            return (left ^ TOP_BIT) >= (y ^ TOP_BIT) ? q + 1 : q;
        }

        /** By 0 the quotient is 0, so that all of x is left. */
        static long rest(boolean withSign, long x, long y) {
            return x - y * quotient(withSign, x, y);
        }

        static long lowest(long x, int bits) {
            return bits >= 64 ? x : x & (1L << bits) - 1;
        }

        static long signed(long x, int bits) {
            return bits >= 64 ? x : x << 64 - bits >> 64 - bits;
        }

        static long turned(long x, int bits) {
            return Long.reverseBytes(x) >>> 64 - bits;
        }

        /** If a jump with this n is taken. */
        static boolean isTaken(int n, long x, long y) {
            long a = x ^ TOP_BIT;
            long b = y ^ TOP_BIT;
            switch (n) {
                case 1: return x == y;
                case 2: return a > b;
                case 3: return a >= b;
                case 4: return (x & y) != 0;
                case 5: return x != y;
                case 6: return x > y;
                case 7: return x >= y;
                case 10: return a < b;
                case 11: return a <= b;
                case 12: return x < y;
                case 13: return x <= y;
                default: return false;
            }
        }
    }

    /** Class 3, mode 6: what becomes of OLD, by the immediate. */
    private static final class Exchange {
        static final int SWAP = 225, SWAP_IF_SAME = 241;

        static boolean isKnown(int i) {
            switch (i) {
                case 0: case 1: case 64: case 65: case 80: case 81: case 160: case 161: return true;
                default: return i == SWAP || i == SWAP_IF_SAME;
            }
        }

        static boolean changesSource(int i) {
            return (i & 1) == 1 && i != SWAP_IF_SAME;
        }

        static long become(int i, long old, long y, boolean same) {
            switch (i) {
                case 0: case 1: return old + y;
                case 64: case 65: return old | y;
                case 80: case 81: return old & y;
                case 160: case 161: return old ^ y;
                case SWAP: return y;
                default: return same ? y : old;
            }
        }
    }

    private static final class Memory {
        static final long START = 1L << 31;
        static final int SIZE = 4096;

        private final byte[] bytes = new byte[SIZE];

        boolean holds(long address, int z) {
            long from = address - START;
            return from >= 0 && from <= SIZE - z;
        }

        long read(long address, int z) {
            if (!holds(address, z)) {
                return 0;
            }
            int from = (int) (address - START);
            long v = 0;
            for (int k = z - 1; k >= 0; k--) {
                v = v << 8 | bytes[from + k] & 255;
            }
            return v;
        }

        void write(long address, int z, long v) {
            if (!holds(address, z)) {
                return;
            }
            int from = (int) (address - START);
            for (int k = 0; k < z; k++) {
                bytes[from + k] = (byte) (v >> 8 * k);
            }
        }
    }

    /** Registers and memory, and what each instruction does with them. */
    private static final class Machine {
        static final int LEFT = -1, TRAPPED = -2;

        // Sixteen, so that the four bits of any field are an index; the form keeps the last five unused.
        final long[] registers = new long[16];
        final Memory memory = new Memory();

        /** Does the instruction at p: the place where it goes on, LEFT or TRAPPED. */
        int follow(Program program, int p) {
            long w = program.at(p);
            switch (Fields.kind(w)) {
                case 0:
                    takeTwoPlaces(w, program.at(p + 1));
                    return p + 2;
                case 1:
                    return read(w) ? p + 1 : TRAPPED;
                case 2:
                    return write(w, Fields.immediate(w)) ? p + 1 : TRAPPED;
                case 3:
                    return (Fields.mode(w) == 6 ? exchange(w) : write(w, y(w))) ? p + 1 : TRAPPED;
                case 5: case 6:
                    return jump(p, w);
                default:
                    registers[Fields.target(w)] = computed(w);
                    return p + 1;
            }
        }

        long x(long w) {
            return registers[Fields.target(w)];
        }

        long y(long w) {
            return registers[Fields.source(w)];
        }

        long operand(long w) {
            return Fields.usesSource(w) ? y(w) : Fields.immediate(w);
        }

        void takeTwoPlaces(long w, long second) {
            long high = Fields.immediate(second);
            registers[Fields.target(w)] = high << 32 | Arithmetic.lowest(Fields.immediate(w), 32);
        }

        boolean read(long w) {
            int z = Fields.size(w);
            long address = y(w) + Fields.offset(w);
            if (!memory.holds(address, z)) {
                return false;
            }
            long v = memory.read(address, z);
            registers[Fields.target(w)] = Fields.mode(w) == 4 ? Arithmetic.signed(v, 8 * z) : v;
            return true;
        }

        boolean write(long w, long v) {
            int z = Fields.size(w);
            long address = x(w) + Fields.offset(w);
            if (!memory.holds(address, z)) {
                return false;
            }
            memory.write(address, z, v);
            return true;
        }

        boolean exchange(long w) {
            int z = Fields.size(w);
            int i = Fields.immediate(w);
            long address = x(w) + Fields.offset(w);
            if (!memory.holds(address, z) || (address & z - 1) != 0) {
                return false;
            }
            long old = memory.read(address, z);
            boolean same = old == Arithmetic.lowest(registers[0], 8 * z);
            memory.write(address, z, Exchange.become(i, old, y(w), same));
            if (i == Exchange.SWAP_IF_SAME) {
                registers[0] = old;
            } else if (Exchange.changesSource(i)) {
                registers[Fields.source(w)] = old;
            }
            return true;
        }

        int jump(int p, long w) {
            if (Fields.isExit(w)) {
                return LEFT;
            }
            if (Fields.isCall(w)) {
                answerCall(Fields.immediate(w));
                return p + 1;
            }
            return Fields.jumpsAlways(w) || takesJump(w) ? (int) Fields.jumpFrom(p, w) : p + 1;
        }

        boolean takesJump(long w) {
            long x = x(w);
            long y = operand(w);
            // Ints made longs with their sign keep their order, the unsigned one too.
            return Fields.kind(w) == 6
                ? Arithmetic.isTaken(Fields.operation(w), (int) x, (int) y)
                : Arithmetic.isTaken(Fields.operation(w), x, y);
        }

        void answerCall(int i) {
            long answer = i;
            for (int r = 1; r <= 5; r++) {
                answer = 31 * answer + registers[r];
                registers[r] = 0;
            }
            registers[0] = answer;
        }

        long computed(long w) {
            int n = Fields.operation(w);
            if (n == 13) {
                return turnedOrCut(w);
            }
            return Fields.kind(w) == 7
                ? Arithmetic.wide(n, Fields.offset(w), x(w), operand(w))
                : Arithmetic.narrow(n, Fields.offset(w), (int) x(w), (int) operand(w));
        }

        long turnedOrCut(long w) {
            int bits = Fields.immediate(w);
            boolean turns = Fields.kind(w) == 7 || Fields.usesSource(w);
            return turns ? Arithmetic.turned(x(w), bits) : Arithmetic.lowest(x(w), bits);
        }
    }
}
