/** The boundary cases of the fields: which numbers make a place an instruction, and that the next ones make it none. */
public final class EdgesOfFieldsTest {
    private static final int[] NOT_ZERO = {1, -1};
    private static final int[] OFFSETS_NOT_ZERO = {1, -1, 2, 8, 256, 32767, -32768};
    private static final int[] IMMEDIATES_NOT_ZERO = {1, -1, 256, 65536, 1 << 24, Integer.MAX_VALUE, Integer.MIN_VALUE};
    private static final int[] COMPUTING = {0, 1, 2, 4, 5, 6, 7, 10, 12};
    private static final int[] JUMPING = {1, 2, 3, 4, 5, 6, 7, 10, 11, 12, 13};

    public static void main(String[] args) {
        Check.sentence("Where it isn't said otherwise, o is 0", EdgesOfFieldsTest::offsetIsZero);
        Check.sentence("y what register s holds (then i is 0) if bit 3 of the code is 1",
            EdgesOfFieldsTest::immediateIsZeroWithARegister);
        Check.sentence("else i (then s is 0)", EdgesOfFieldsTest::sourceIsZeroWithAnImmediate);
        Check.sentence("CLASS 7 and 4: by n, the highest four bits of the code: 0 .. 13",
            EdgesOfFieldsTest::operationsOfClass7And4);
        Check.sentence("8 (bit 3 and i are 0)", EdgesOfFieldsTest::negation);
        Check.sentence("3 and 9, with o 0 or 1", EdgesOfFieldsTest::divisions);
        Check.sentence("11, bit 3 being 1, with o 8, 16 or 32", EdgesOfFieldsTest::movesWithAnOffset);
        Check.sentence("13, bit 3 being 0, i 16, 32 or 64, s 0", EdgesOfFieldsTest::turning);
        Check.sentence("CLASS 4: 11 with o 8 or 16 alone (other offsets are wrong)", EdgesOfFieldsTest::movesOfClass4);
        Check.sentence("CLASS 4: 13, s 0, i 16, 32 or 64", EdgesOfFieldsTest::cuttingInClass4);
        Check.sentence("CLASS 5: 0 (code 5; d, s, i are 0)", EdgesOfFieldsTest::jumpByOffset);
        Check.sentence("8 (code 133; d, s are 0): a CALL of i", EdgesOfFieldsTest::call);
        Check.sentence("9 (code 149; d, s, i are 0): the EXIT", EdgesOfFieldsTest::exit);
        Check.sentence("CLASS 5, by n: 1 to 7 and 10 to 13", EdgesOfFieldsTest::operationsOfClass5);
        Check.sentence("CLASS 6: likewise, 1 to 7 and 10 to 13", EdgesOfFieldsTest::operationsOfClass6);
        Check.sentence("CLASS 6: 0 (code 6; d, s, o are 0)", EdgesOfFieldsTest::jumpByImmediate);
        Check.sentence("MODES by bits 5 to 7: 3 and 4 of class 1, 3 of class 2, 3 and 6 of class 3",
            EdgesOfFieldsTest::modes);
        Check.sentence("CLASS 1, i 0, mode 3", EdgesOfFieldsTest::reads);
        Check.sentence("mode 4, z below 8", EdgesOfFieldsTest::readsWithSign);
        Check.sentence("CLASS 2, s 0, mode 3", EdgesOfFieldsTest::writesOfTheImmediate);
        Check.sentence("CLASS 3, mode 3, i 0", EdgesOfFieldsTest::writesOfARegister);
        Check.sentence("CLASS 3, mode 6, z 4 or 8: by i: 0, 64, 80, 160, 225, 241, 1, 65, 81, 161",
            EdgesOfFieldsTest::exchanges);
        Check.sentence("CLASS 0, code 24", EdgesOfFieldsTest::firstOfTwo);
        Check.sentence("s is 0; or it is 1 (the number of a MAP): then i is not below 0", EdgesOfFieldsTest::map);
        Check.finish();
    }

    /** If a place is an instruction: a wrong place behind it keeps load() from looking at where it goes on. */
    private static boolean isInstruction(long w) {
        boolean isOfTwo = (w & 255) == 24;
        int got = isOfTwo ? Check.load(new CompiledProgram(), w, 0, 255) : Check.load(new CompiledProgram(), w, 255);
        int behind = isOfTwo ? 2 : 1;
        if (got != 0 && got != behind) {
            Check.same("load() of the place " + Long.toHexString(w), got, behind);
        }
        return got == behind;
    }

    private static void right(int code, int d, int s, int o, int i) {
        looked(code, d, s, o, i, true);
    }

    private static void wrong(int code, int d, int s, int o, int i) {
        looked(code, d, s, o, i, false);
    }

    private static void looked(int code, int d, int s, int o, int i, boolean isRight) {
        boolean found = isInstruction(Check.place(code, d, s, o, i));
        if (found != isRight) {
            String what = String.format("code %d, d %d, s %d, o %d, i %d is an instruction (1) or none (0):", code, d, s, o, i);
            Check.same(what, found ? 1 : 0, isRight ? 1 : 0);
        }
    }

    private static void offsetIsZero() {
        for (int kind : new int[] {7, 4}) {
            for (int n : COMPUTING) {
                right(n << 4 | kind, 1, 0, 0, 5);
                right(n << 4 | 8 | kind, 1, 2, 0, 0);
                for (int o : OFFSETS_NOT_ZERO) {
                    wrong(n << 4 | kind, 1, 0, o, 5);
                    wrong(n << 4 | 8 | kind, 1, 2, o, 0);
                }
            }
        }
        for (int o : OFFSETS_NOT_ZERO) {
            wrong(0x87, 1, 0, o, 0);
            wrong(0x84, 1, 0, o, 0);
            wrong(0xd7, 1, 0, o, 16);
            wrong(0xd4, 1, 0, o, 16);
            wrong(0xdc, 1, 0, o, 16);
            wrong(0x85, 0, 0, o, 1);
            wrong(0x95, 0, 0, o, 0);
            wrong(0x18, 1, 0, o, 0);
        }
    }

    private static void immediateIsZeroWithARegister() {
        for (int i : IMMEDIATES_NOT_ZERO) {
            for (int n : COMPUTING) {
                wrong(n << 4 | 15, 1, 2, 0, i);
                wrong(n << 4 | 12, 1, 2, 0, i);
            }
            for (int n : new int[] {3, 9, 11}) {
                wrong(n << 4 | 15, 1, 2, 0, i);
                wrong(n << 4 | 12, 1, 2, 0, i);
            }
            for (int n : JUMPING) {
                wrong(n << 4 | 13, 1, 2, 0, i);
                wrong(n << 4 | 14, 1, 2, 0, i);
            }
        }
    }

    private static void sourceIsZeroWithAnImmediate() {
        for (int s : new int[] {1, 2, 10, 11, 15}) {
            for (int n : new int[] {0, 1, 2, 3, 4, 5, 6, 7, 9, 10, 11, 12}) {
                wrong(n << 4 | 7, 1, s, 0, 5);
                wrong(n << 4 | 4, 1, s, 0, 5);
            }
            for (int n : JUMPING) {
                wrong(n << 4 | 5, 1, s, 0, 5);
                wrong(n << 4 | 6, 1, s, 0, 5);
            }
        }
        for (int i : IMMEDIATES_NOT_ZERO) {
            right(0x07, 1, 0, 0, i);
            right(0x15, 1, 0, 0, i);
        }
    }

    private static void operationsOfClass7And4() {
        for (int kind : new int[] {7, 4}) {
            for (int n : new int[] {14, 15}) {
                for (int bit3 : new int[] {0, 8}) {
                    wrong(n << 4 | bit3 | kind, 1, 0, 0, 0);
                    wrong(n << 4 | bit3 | kind, 1, 0, 0, 16);
                }
            }
        }
    }

    private static void negation() {
        for (int kind : new int[] {7, 4}) {
            right(0x80 | kind, 1, 0, 0, 0);
            wrong(0x88 | kind, 1, 0, 0, 0);
            wrong(0x88 | kind, 1, 2, 0, 0);
            wrong(0x80 | kind, 1, 2, 0, 0);
            for (int i : IMMEDIATES_NOT_ZERO) {
                wrong(0x80 | kind, 1, 0, 0, i);
            }
        }
    }

    private static void divisions() {
        for (int n : new int[] {3, 9}) {
            for (int kind : new int[] {7, 4}) {
                for (int o : new int[] {0, 1}) {
                    right(n << 4 | kind, 1, 0, o, 5);
                    right(n << 4 | kind, 1, 0, o, 0);
                    right(n << 4 | 8 | kind, 1, 2, o, 0);
                }
                for (int o : new int[] {-1, 2, 3, 8, 256, 257, 32767, -32768}) {
                    wrong(n << 4 | kind, 1, 0, o, 5);
                    wrong(n << 4 | 8 | kind, 1, 2, o, 0);
                }
            }
        }
    }

    private static void movesWithAnOffset() {
        for (int o : new int[] {0, 8, 16, 32}) {
            right(0xbf, 1, 2, o, 0);
        }
        for (int o : new int[] {-8, 1, 7, 9, 15, 17, 24, 31, 33, 48, 64, 264, 32767, -32768}) {
            wrong(0xbf, 1, 2, o, 0);
        }
        for (int o : new int[] {8, 16, 32}) {
            wrong(0xb7, 1, 0, o, 0);
            wrong(0xb7, 1, 0, o, 5);
        }
    }

    private static void turning() {
        for (int i : new int[] {16, 32, 64}) {
            right(0xd7, 1, 0, 0, i);
            wrong(0xdf, 1, 0, 0, i);
            wrong(0xd7, 1, 1, 0, i);
            wrong(0xd7, 1, 10, 0, i);
        }
        for (int i : new int[] {0, 1, 8, 15, 17, 24, 31, 33, 48, 63, 65, 128, -16, -64, 65552}) {
            wrong(0xd7, 1, 0, 0, i);
        }
        wrong(0xdf, 1, 0, 0, 0);
    }

    private static void movesOfClass4() {
        for (int o : new int[] {0, 8, 16}) {
            right(0xbc, 1, 2, o, 0);
        }
        for (int o : new int[] {32, 64, 24, -8, 1, 7, 9, 15, 17}) {
            wrong(0xbc, 1, 2, o, 0);
        }
        wrong(0xb4, 1, 0, 8, 0);
        wrong(0xb4, 1, 0, 16, 5);
    }

    private static void cuttingInClass4() {
        for (int code : new int[] {0xd4, 0xdc}) {
            for (int i : new int[] {16, 32, 64}) {
                right(code, 1, 0, 0, i);
                wrong(code, 1, 1, 0, i);
                wrong(code, 1, 10, 0, i);
            }
            for (int i : new int[] {0, 8, 15, 17, 31, 33, 48, 63, 65, 128, -32}) {
                wrong(code, 1, 0, 0, i);
            }
        }
    }

    private static void jumpByOffset() {
        for (int o : new int[] {0, -1, 32767, -32768}) {
            right(0x05, 0, 0, o, 0);
        }
        for (int v : NOT_ZERO) {
            wrong(0x05, v, 0, 0, 0);
            wrong(0x05, 0, v, 0, 0);
        }
        for (int i : IMMEDIATES_NOT_ZERO) {
            wrong(0x05, 0, 0, 0, i);
        }
        wrong(0x0d, 0, 0, 0, 0);
    }

    private static void call() {
        right(133, 0, 0, 0, 0);
        for (int i : IMMEDIATES_NOT_ZERO) {
            right(133, 0, 0, 0, i);
        }
        for (int v : NOT_ZERO) {
            wrong(133, v, 0, 0, 1);
            wrong(133, 0, v, 0, 1);
        }
        wrong(141, 0, 0, 0, 0);
        wrong(141, 0, 0, 0, 1);
    }

    private static void exit() {
        right(149, 0, 0, 0, 0);
        for (int v : NOT_ZERO) {
            wrong(149, v, 0, 0, 0);
            wrong(149, 0, v, 0, 0);
        }
        for (int i : IMMEDIATES_NOT_ZERO) {
            wrong(149, 0, 0, 0, i);
        }
        wrong(157, 0, 0, 0, 0);
    }

    private static void operationsOfClass5() {
        for (int n : JUMPING) {
            for (int o : new int[] {0, 1, -1, 32767, -32768}) {
                right(n << 4 | 5, 10, 0, o, -5);
                right(n << 4 | 13, 10, 10, o, 0);
            }
        }
        for (int code : new int[] {0xe5, 0xed, 0xf5, 0xfd}) {
            wrong(code, 0, 0, 0, 0);
            wrong(code, 1, 0, 0, 0);
        }
    }

    private static void operationsOfClass6() {
        for (int n : JUMPING) {
            for (int o : new int[] {0, 1, -1, 32767, -32768}) {
                right(n << 4 | 6, 10, 0, o, -5);
                right(n << 4 | 14, 10, 10, o, 0);
            }
        }
        for (int code : new int[] {0x86, 0x8e, 0x96, 0x9e, 0xe6, 0xee, 0xf6, 0xfe}) {
            wrong(code, 0, 0, 0, 0);
            wrong(code, 1, 0, 0, 0);
        }
    }

    private static void jumpByImmediate() {
        right(0x06, 0, 0, 0, 0);
        for (int i : IMMEDIATES_NOT_ZERO) {
            right(0x06, 0, 0, 0, i);
        }
        for (int v : NOT_ZERO) {
            wrong(0x06, v, 0, 0, 0);
            wrong(0x06, 0, v, 0, 0);
        }
        for (int o : OFFSETS_NOT_ZERO) {
            wrong(0x06, 0, 0, o, 0);
        }
        wrong(0x0e, 0, 0, 0, 0);
    }

    private static void modes() {
        for (int size = 0; size < 4; size++) {
            for (int mode = 0; mode < 8; mode++) {
                int code = mode << 5 | size << 3;
                looked(code | 1, 1, 2, 0, 0, mode == 3 || mode == 4 && size != 3);
                looked(code | 2, 1, 0, 0, 0, mode == 3);
                looked(code | 3, 1, 2, 0, 0, mode == 3 || mode == 6 && (size == 0 || size == 3));
            }
        }
    }

    private static void reads() {
        for (int code : new int[] {0x61, 0x69, 0x71, 0x79}) {
            right(code, 9, 10, -32768, 0);
            right(code, 0, 0, 32767, 0);
            for (int i : IMMEDIATES_NOT_ZERO) {
                wrong(code, 1, 2, 0, i);
            }
        }
    }

    private static void readsWithSign() {
        for (int code : new int[] {0x81, 0x89, 0x91}) {
            right(code, 9, 10, -32768, 0);
            for (int i : IMMEDIATES_NOT_ZERO) {
                wrong(code, 1, 2, 0, i);
            }
        }
        wrong(0x99, 1, 2, 0, 0);
    }

    private static void writesOfTheImmediate() {
        for (int code : new int[] {0x62, 0x6a, 0x72, 0x7a}) {
            for (int i : IMMEDIATES_NOT_ZERO) {
                right(code, 10, 0, -32768, i);
            }
            for (int s : new int[] {1, 10, 15}) {
                wrong(code, 1, s, 0, 5);
            }
        }
    }

    private static void writesOfARegister() {
        for (int code : new int[] {0x63, 0x6b, 0x73, 0x7b}) {
            right(code, 10, 10, 32767, 0);
            for (int i : IMMEDIATES_NOT_ZERO) {
                wrong(code, 1, 2, 0, i);
            }
        }
    }

    private static void exchanges() {
        for (int i : new int[] {0, 1, 64, 65, 80, 81, 160, 161, 225, 241}) {
            right(0xc3, 1, 2, -32768, i);
            right(0xdb, 1, 2, 32767, i);
            wrong(0xcb, 1, 2, 0, i);
            wrong(0xd3, 1, 2, 0, i);
            wrong(0xc3, 1, 2, 0, i | 256);
            wrong(0xc3, 1, 2, 0, i | Integer.MIN_VALUE);
        }
        for (int i : new int[] {-1, 2, 16, 63, 66, 79, 82, 96, 159, 162, 224, 226, 240, 242}) {
            wrong(0xc3, 1, 2, 0, i);
            wrong(0xdb, 1, 2, 0, i);
        }
    }

    private static void firstOfTwo() {
        for (int code = 0; code < 256; code += 8) {
            looked(code, 1, 0, 0, 0, code == 24);
        }
        for (int i : IMMEDIATES_NOT_ZERO) {
            right(24, 9, 0, 0, i);
        }
    }

    private static void map() {
        right(24, 1, 1, 0, 0);
        right(24, 1, 1, 0, Integer.MAX_VALUE);
        wrong(24, 1, 1, 0, -1);
        wrong(24, 1, 1, 0, Integer.MIN_VALUE);
        for (int s : new int[] {2, 3, 9, 10, 15}) {
            wrong(24, 1, s, 0, 0);
        }
    }
}
