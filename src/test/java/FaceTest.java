import java.lang.reflect.Constructor;
import java.lang.reflect.Field;
import java.lang.reflect.Method;
import java.lang.reflect.Modifier;
import java.util.Arrays;
import java.util.TreeSet;

/** Promise 1, the constants, and that the face has nothing but what the document names. */
public final class FaceTest {
    public static void main(String[] args) {
        constants();
        newObject();
        noOtherMember();
        objectsAreApart();
        Check.finish();
    }

    private static void constants() {
        Check.same("NONE", CompiledProgram.NONE, -1);
        Check.same("EXIT", CompiledProgram.EXIT, 0);
        Check.same("FUEL", CompiledProgram.FUEL, 1);
        Check.same("TRAP", CompiledProgram.TRAP, 2);
    }

    private static void newObject() {
        CompiledProgram x = new CompiledProgram();
        Check.same("places() of a new object", x.places(), 0);
        Check.same("place() of a new object", x.place(), CompiledProgram.NONE);
        Check.same("steps() of a new object", x.steps(), 0);
        for (int r = 0; r <= 10; r++) {
            Check.same("get(" + r + ") of a new object", x.get(r), 0);
        }
        CompiledProgram other = new CompiledProgram();
        for (int k = 0; k < Check.MEMORY_BYTES; k += 8) {
            Check.same("word of a new object", other.word(Check.MEMORY + k), 0);
        }
        Check.fails("run(1) of a new object", IllegalStateException.class, () -> x.run(1));
        Check.fails("end(1) of a new object", IllegalArgumentException.class, () -> x.end(1));
        Check.same("the first feed", x.feed(0, 0, 0, 0, 0), 20);
    }

    private static void noOtherMember() {
        TreeSet<String> found = new TreeSet<>();
        for (Method m : CompiledProgram.class.getDeclaredMethods()) {
            if (!Modifier.isPrivate(m.getModifiers())) {
                found.add(m.getReturnType() + " " + m.getName() + Arrays.toString(m.getParameterTypes()));
            }
        }
        for (Field f : CompiledProgram.class.getDeclaredFields()) {
            if (!Modifier.isPrivate(f.getModifiers())) {
                found.add(f.getType() + " " + f.getName());
            }
        }
        TreeSet<String> due = new TreeSet<>(Arrays.asList(
            "int NONE", "int EXIT", "int FUEL", "int TRAP", "int feed[int, int, int, int, int]", "void end[int]",
            "int load[]", "int places[]", "void set[int, long]", "long get[int]", "void put[long, long]",
            "long word[long]", "int run[int]", "int place[]", "int steps[]"));
        Check.same("the face " + found + " is as the document says", found.equals(due) ? 1 : 0, 1);
        Constructor<?>[] made = CompiledProgram.class.getDeclaredConstructors();
        Check.same("how many constructors", made.length, 1);
        Check.same("parameters of the constructor", made[0].getParameterCount(), 0);
        int flags = CompiledProgram.class.getModifiers();
        Check.same("public and final", Modifier.isPublic(flags) && Modifier.isFinal(flags) ? 1 : 0, 1);
    }

    private static void objectsAreApart() {
        CompiledProgram one = Check.with(Check.place(0xb7, 1, 0, 0, 5), Check.EXIT);
        CompiledProgram other = new CompiledProgram();
        one.run(2);
        one.put(Check.MEMORY, 9);
        Check.same("a register of another object", other.get(1), 0);
        Check.same("a word of another object", other.word(Check.MEMORY), 0);
        Check.same("places() of another object", other.places(), 0);
        Check.same("place() of another object", other.place(), CompiledProgram.NONE);
    }
}
