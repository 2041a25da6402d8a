/** Promises 6 to 9: set, get, put, word. */
public final class StateTest {
    private static final int[] NO_REGISTERS = {-1, 11, 12, 15, 16, 255, Integer.MIN_VALUE, Integer.MAX_VALUE};
    private static final long[] NO_WORDS = {
        0, 1, -1, Check.MEMORY - 1, Check.MEMORY - 7, Check.MEMORY - 8, Check.MEMORY + 4089, Check.MEMORY + 4095,
        Check.MEMORY + 4096, Check.MEMORY + (1L << 32), Check.MEMORY + (1L << 33), -Check.MEMORY, (int) Check.MEMORY,
        Long.MAX_VALUE, Long.MIN_VALUE, Long.MIN_VALUE + Check.MEMORY, Long.MIN_VALUE + Check.MEMORY - 1
    };

    public static void main(String[] args) {
        registers();
        noRegisters();
        words();
        everyAddress();
        noWords();
        Check.finish();
    }

    private static void registers() {
        CompiledProgram x = new CompiledProgram();
        for (long v : Check.NUMBERS) {
            for (int r = 0; r <= 10; r++) {
                x.set(r, v + r);
            }
            for (int r = 0; r <= 10; r++) {
                Check.same("get(" + r + ")", x.get(r), v + r);
            }
            x = new CompiledProgram();
        }
    }

    private static void noRegisters() {
        CompiledProgram x = new CompiledProgram();
        for (int r : NO_REGISTERS) {
            Check.fails("set(" + r + ", 5)", IndexOutOfBoundsException.class, () -> x.set(r, 5));
            Check.fails("get(" + r + ")", IndexOutOfBoundsException.class, () -> x.get(r));
        }
        for (int r = 0; r <= 10; r++) {
            Check.same("get(" + r + ") behind wrong sets", x.get(r), 0);
        }
    }

    private static void words() {
        CompiledProgram x = new CompiledProgram();
        x.put(Check.MEMORY + 8, 0x1122334455667788L);
        Check.same("the word", x.word(Check.MEMORY + 8), 0x1122334455667788L);
        Check.same("the word a byte later", x.word(Check.MEMORY + 9), 0x11223344556677L);
        Check.same("the word a byte before", x.word(Check.MEMORY + 7), 0x2233445566778800L);
        x.put(Check.MEMORY + 11, -1);
        Check.same("the word, half of it new", x.word(Check.MEMORY + 8), 0xffffffffff667788L);
        Check.same("the word behind it", x.word(Check.MEMORY + 16), 0xffffffL);
        for (long v : Check.NUMBERS) {
            x.put(Check.MEMORY + 4088, v);
            Check.same("the last word", x.word(Check.MEMORY + 4088), v);
        }
    }

    private static void everyAddress() {
        for (int k = 0; k <= 4088; k++) {
            CompiledProgram x = new CompiledProgram();
            x.put(Check.MEMORY + k, 0x8877665544332211L + k);
            Check.same("word at " + k, x.word(Check.MEMORY + k), 0x8877665544332211L + k);
            if (k >= 8) {
                Check.same("the word before " + k, x.word(Check.MEMORY + k - 8), 0);
            }
            if (k <= 4080) {
                Check.same("the word behind " + k, x.word(Check.MEMORY + k + 8), 0);
            }
        }
    }

    private static void noWords() {
        CompiledProgram x = new CompiledProgram();
        for (long address : NO_WORDS) {
            Check.fails("put(" + address + ", -1)", IndexOutOfBoundsException.class, () -> x.put(address, -1));
            Check.fails("word(" + address + ")", IndexOutOfBoundsException.class, () -> x.word(address));
        }
        Check.same("the first word behind wrong puts", x.word(Check.MEMORY), 0);
        Check.same("the last word behind wrong puts", x.word(Check.MEMORY + 4088), 0);
    }
}
