import java.util.ArrayList;
import java.util.List;

/** Promise 4: which places load() finds wrong. */
public final class FormTest {
    private static final int NONE = CompiledProgram.NONE;
    private static final long WRONG = 0xff;
    private static final long ADD = Check.place(0x07, 1, 0, 0, 1);
    private static final long FIRST = Check.place(0x18, 1, 0, 0, 5);
    private static final long SECOND = Check.place(0, 0, 0, 0, 6);

    // Codes | d | s | o | i of every right place; a place that no row allows is wrong.
    private static final String[] ALLOWED = {
        "07 17 27 47 57 67 77 a7 b7 c7 04 14 24 44 54 64 74 a4 b4 c4 | 0..9 | 0 | 0 | any",
        "0f 1f 2f 4f 5f 6f 7f af bf cf 0c 1c 2c 4c 5c 6c 7c ac bc cc | 0..9 | 0..10 | 0 | 0",
        "37 97 34 94 | 0..9 | 0 | 0 1 | any",
        "3f 9f 3c 9c | 0..9 | 0..10 | 0 1 | 0",
        "87 84 | 0..9 | 0 | 0 | 0",
        "bf | 0..9 | 0..10 | 8 16 32 | 0",
        "bc | 0..9 | 0..10 | 8 16 | 0",
        "d7 d4 dc | 0..9 | 0 | 0 | 16 32 64",
        "05 | 0 | 0 | any | 0",
        "06 | 0 | 0 | 0 | any",
        "85 | 0 | 0 | 0 | any",
        "95 | 0 | 0 | 0 | 0",
        "15 25 35 45 55 65 75 a5 b5 c5 d5 16 26 36 46 56 66 76 a6 b6 c6 d6 | 0..10 | 0 | any | any",
        "1d 2d 3d 4d 5d 6d 7d ad bd cd dd 1e 2e 3e 4e 5e 6e 7e ae be ce de | 0..10 | 0..10 | any | 0",
        "61 69 71 79 81 89 91 | 0..9 | 0..10 | any | 0",
        "62 6a 72 7a | 0..10 | 0 | any | any",
        "63 6b 73 7b | 0..10 | 0..10 | any | 0",
        "c3 db | 0..10 | 0..10 | any | 0 64 80 160 241",
        "c3 db | 0..10 | 0..9 | any | 1 65 81 161 225",
        "18 | 0..9 | 0 | 0 | any",
        "18 | 0..9 | 1 | 0 | 0..2147483647",
    };
    private static final int[] DS = {0, 1, 5, 9, 10, 11, 15};
    private static final int[] SS = {0, 1, 2, 9, 10, 11, 15};
    private static final int[] OS = {0, 1, 2, -1, 8, 16, 24, 32, 64, 256, 32767, -32768};
    private static final int[] IS = {
        0, 1, 2, -1, 8, 15, 16, 17, 24, 32, 48, 63, 64, 65, 66, 79, 80, 81, 96, 160, 161, 162, 224, 225, 226, 240, 241,
        242, 256, 65536, 0x1000000, Integer.MAX_VALUE, Integer.MIN_VALUE
    };

    private CompiledProgram x = new CompiledProgram();
    private int loads = 0;

    public static void main(String[] args) {
        FormTest test = new FormTest();
        test.everyCode();
        test.secondPlaces();
        test.tornPlaces();
        test.goingOn();
        test.lastInstruction();
        test.whichIsFirst();
        Check.finish();
    }

    /** Few calls on one object: the document promises 512. */
    private int load(long... places) {
        if (++loads % 50 == 0) {
            x = new CompiledProgram();
        }
        return Check.load(x, places);
    }

    private void due(String what, int due, long... places) {
        Check.same("load() of " + what, load(places), due);
        Check.same("places() of " + what, x.places(), due == NONE ? places.length : 0);
    }

    /** A wrong place behind it hides where the looked at one goes on. */
    private void everyCode() {
        for (int code = 0; code < 256; code++) {
            List<String[]> rows = rowsOf(code);
            for (int d : DS) {
                for (int s : SS) {
                    for (int o : OS) {
                        for (int i : IS) {
                            long w = Check.place(code, d, s, o, i);
                            int got = code == 0x18 ? load(w, 0, WRONG) : load(w, WRONG);
                            int behind = code == 0x18 ? 2 : 1;
                            if (got != (isAllowed(rows, d, s, o, i) ? behind : 0)) {
                                Check.same("load() of code " + Integer.toHexString(code) + ", d " + d + ", s " + s
                                    + ", o " + o + ", i " + i, got, got == 0 ? behind : 0);
                            }
                        }
                    }
                }
            }
        }
    }

    private static List<String[]> rowsOf(int code) {
        List<String[]> rows = new ArrayList<>();
        for (String row : ALLOWED) {
            String[] parts = row.split(" \\| ");
            if ((" " + parts[0] + " ").contains(String.format(" %02x ", code))) {
                rows.add(parts);
            }
        }
        return rows;
    }

    private static boolean isAllowed(List<String[]> rows, int d, int s, int o, int i) {
        for (String[] row : rows) {
            if (isIn(row[1], d) && isIn(row[2], s) && isIn(row[3], o) && isIn(row[4], i)) {
                return true;
            }
        }
        return false;
    }

    private static boolean isIn(String numbers, int n) {
        if (numbers.equals("any")) {
            return true;
        }
        int dots = numbers.indexOf("..");
        if (dots >= 0) {
            return n >= Integer.parseInt(numbers.substring(0, dots)) && n <= Integer.parseInt(numbers.substring(dots + 2));
        }
        return (" " + numbers + " ").contains(" " + n + " ");
    }

    private void secondPlaces() {
        due("two places", NONE, FIRST, SECOND, Check.EXIT);
        due("two places, high bits below 0", NONE, FIRST, Check.place(0, 0, 0, 0, -1), Check.EXIT);
        due("a first one alone", 0, FIRST);
        due("a first one at the end", 2, ADD, ADD, FIRST);
        due("a first one before the EXIT", 0, FIRST, Check.EXIT);
        due("a first one before a first one", 0, FIRST, FIRST, SECOND, Check.EXIT);
        due("a second one with d", 0, FIRST, Check.place(0, 1, 0, 0, 6), Check.EXIT);
        due("a second one with s", 0, FIRST, Check.place(0, 0, 1, 0, 6), Check.EXIT);
        due("a second one with o", 0, FIRST, Check.place(0, 0, 0, 1, 6), Check.EXIT);
        due("a second one with o below 0", 0, FIRST, Check.place(0, 0, 0, -32768, 6), Check.EXIT);
        due("a second one alone", 1, ADD, SECOND, Check.EXIT);
        due("two second ones", 2, FIRST, SECOND, SECOND, Check.EXIT);
        long map = Check.place(0x18, 1, 1, 0, 5);
        due("a map", NONE, map, 0, Check.EXIT);
        due("a map with high bits", 0, map, SECOND, Check.EXIT);
        due("a map below 0", 1, ADD, Check.place(0x18, 1, 1, 0, -5), 0, Check.EXIT);
        due("a map 2", 0, Check.place(0x18, 1, 2, 0, 5), 0, Check.EXIT);
    }

    private void tornPlaces() {
        for (int n = 0; n < 8; n++) {
            torn("a torn first place", n, 0, Check.EXIT);
        }
        for (int n = 1; n < 8; n++) {
            torn("a torn second place", 8 + n, 1, Check.EXIT, Check.EXIT);
            torn("a torn place behind a jump to it", 8 + n, 1, Check.place(0x05, 0, 0, 7, 0), Check.EXIT);
            torn("a torn place behind a wrong one", 16 + n, 1, ADD, WRONG, Check.EXIT);
            torn("a torn place behind a first one of two", 16 + n, 1, ADD, FIRST, SECOND);
            torn("a torn place behind two", 24 + n, 3, ADD, FIRST, SECOND, Check.EXIT);
            torn("a torn place behind a wrong first one", n + 8, 0, Check.place(0x18, 10, 0, 0, 0), SECOND);
        }
    }

    private void torn(String what, int n, int due, long... places) {
        x = new CompiledProgram();
        Check.type(x, Check.bytesOf(places), n);
        Check.same("load() of " + what + ", " + n + " bytes", x.load(), due);
        Check.same("places() of " + what, x.places(), 0);
    }

    private void goingOn() {
        for (int code : new int[] {0x05, 0x06, 0x15, 0x1d, 0xd6, 0xde}) {
            String what = "a jump of code " + Integer.toHexString(code);
            due(what + " to itself", NONE, ADD, jump(code, -1), Check.EXIT);
            due(what + " to the first place", NONE, ADD, jump(code, -2), Check.EXIT);
            due(what + " to the last place", NONE, ADD, jump(code, 1), ADD, Check.EXIT);
            due(what + " to the next place", NONE, ADD, jump(code, 0), Check.EXIT);
            due(what + " before the first place", 1, ADD, jump(code, -3), Check.EXIT);
            due(what + " behind the last place", 1, ADD, jump(code, 1), Check.EXIT);
            due(what + " far before", 1, ADD, jump(code, -32768), Check.EXIT);
            due(what + " far behind", 1, ADD, jump(code, 32767), Check.EXIT);
            due(what + " to a first one of two", NONE, jump(code, 0), FIRST, SECOND, Check.EXIT);
            due(what + " to a second one of two", 0, jump(code, 1), FIRST, SECOND, Check.EXIT);
            due(what + " behind two places", NONE, jump(code, 2), FIRST, SECOND, Check.EXIT);
            due(what + " back to a second one of two", 2, FIRST, SECOND, jump(code, -2), Check.EXIT);
            due(what + " back to a first one of two", NONE, FIRST, SECOND, jump(code, -3), Check.EXIT);
        }
        due("a jump by the greatest immediate", 1, ADD, jump(0x06, Integer.MAX_VALUE), Check.EXIT);
        due("a jump by the least immediate", 1, ADD, jump(0x06, Integer.MIN_VALUE), Check.EXIT);
        due("a jump by 65536", 1, ADD, jump(0x06, 65536), Check.EXIT);
        due("a jump by 2^32 less 2 places", 1, ADD, jump(0x06, Integer.MIN_VALUE + 1), Check.EXIT);
    }

    private static long jump(int code, int by) {
        return code == 0x06 ? Check.place(code, 0, 0, 0, by) : Check.place(code, 0, 0, by, 0);
    }

    private void lastInstruction() {
        due("an EXIT as the last", NONE, ADD, Check.EXIT);
        due("a jump as the last", NONE, ADD, jump(0x05, -2));
        due("a jump by an immediate as the last", NONE, ADD, jump(0x06, -1));
        due("a jump to behind as the last", 1, ADD, jump(0x05, 0));
        due("an addition as the last", 1, Check.EXIT, ADD);
        due("a jump perhaps as the last", 1, ADD, jump(0x15, -2));
        due("a narrow jump perhaps as the last", 1, ADD, jump(0x16, -2));
        due("a CALL as the last", 1, ADD, Check.place(0x85, 0, 0, 0, 1));
        due("a write as the last", 1, ADD, Check.place(0x62, 1, 0, 0, 1));
        due("two places as the last", 1, ADD, FIRST, SECOND);
        due("two places alone", 0, FIRST, SECOND);
        due("one addition alone", 0, ADD);
    }

    private void whichIsFirst() {
        due("two wrong ones", 1, ADD, WRONG, WRONG, Check.EXIT);
        due("a wrong one behind a jump to nowhere", 2, jump(0x05, 99), ADD, WRONG, Check.EXIT);
        due("two jumps to nowhere", 1, ADD, jump(0x05, 99), jump(0x15, 99), Check.EXIT);
        due("a jump to nowhere before a wrong last one", 0, jump(0x15, 99), ADD);
        due("a jump to a missing second one", 1, jump(0x05, 1), FIRST);
    }
}
