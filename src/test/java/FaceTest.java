import java.lang.reflect.Constructor;
import java.lang.reflect.Field;
import java.lang.reflect.Member;
import java.lang.reflect.Method;
import java.lang.reflect.Modifier;
import java.util.Arrays;
import java.util.TreeSet;

/** Promise 1, the constants, and that the face has nothing but what the document names. */
public final class FaceTest {
    private static final String[] HEADS = {
        "public static final int NONE",
        "public static final int EXIT",
        "public static final int FUEL",
        "public static final int TRAP",
        "public CompiledProgram()",
        "public int feed(int,int,int,int,int) throws IllegalStateException",
        "public void end(int) throws IllegalArgumentException",
        "public int load()",
        "public int places()",
        "public void set(int,long) throws IndexOutOfBoundsException",
        "public long get(int) throws IndexOutOfBoundsException",
        "public void put(long,long) throws IndexOutOfBoundsException",
        "public long word(long) throws IndexOutOfBoundsException",
        "public int run(int) throws IllegalArgumentException,IllegalStateException",
        "public int place()",
        "public int steps()"
    };

    public static void main(String[] args) {
        constants();
        newObject();
        heads();
        classesInside();
        objectsAreApart();
        Check.finish();
    }

    private static void constants() {
        Check.same("NONE", CompiledProgram.NONE, -1);
        Check.same("EXIT", CompiledProgram.EXIT, 0);
        Check.same("FUEL", CompiledProgram.FUEL, 1);
        Check.same("TRAP", CompiledProgram.TRAP, 2);
    }

    private static void newObject() {
        CompiledProgram x = new CompiledProgram();
        Check.same("places() of a new object", x.places(), 0);
        Check.same("place() of a new object", x.place(), CompiledProgram.NONE);
        Check.same("steps() of a new object", x.steps(), 0);
        for (int r = 0; r <= 10; r++) {
            Check.same("get(" + r + ") of a new object", x.get(r), 0);
        }
        CompiledProgram other = new CompiledProgram();
        for (int k = 0; k < Check.MEMORY_BYTES; k += 8) {
            Check.same("word of a new object", other.word(Check.MEMORY + k), 0);
        }
        Check.fails("run(1) of a new object", IllegalStateException.class, () -> x.run(1));
        Check.fails("end(1) of a new object", IllegalArgumentException.class, () -> x.end(1));
        Check.same("the first feed", x.feed(0, 0, 0, 0, 0), 20);
    }

    /** The heads as Java tells them: with public, static, final and throws, and in any order. */
    private static void heads() {
        TreeSet<String> found = new TreeSet<>();
        for (Method m : CompiledProgram.class.getDeclaredMethods()) {
            addUnlessPrivate(found, m);
        }
        for (Field f : CompiledProgram.class.getDeclaredFields()) {
            addUnlessPrivate(found, f);
        }
        for (Constructor<?> c : CompiledProgram.class.getDeclaredConstructors()) {
            addUnlessPrivate(found, c);
        }
        TreeSet<String> due = new TreeSet<>(Arrays.asList(HEADS));
        for (String head : due) {
            Check.holds("the face has " + head, found.contains(head));
        }
        for (String head : found) {
            Check.holds("the document has " + head, due.contains(head));
        }
        Check.same("how many constructors", CompiledProgram.class.getDeclaredConstructors().length, 1);
        int flags = CompiledProgram.class.getModifiers();
        Check.holds("the class is public and final", Modifier.isPublic(flags) && Modifier.isFinal(flags));
    }

    private static void addUnlessPrivate(TreeSet<String> heads, Member m) {
        if (!Modifier.isPrivate(m.getModifiers())) {
            heads.add(m.toString().replace("CompiledProgram.", "").replace("java.lang.", ""));
        }
    }

    /** LANGUAGE.md, rule 1. */
    private static void classesInside() {
        TreeSet<String> publicNames = new TreeSet<>();
        for (Method m : CompiledProgram.class.getMethods()) {
            if (m.getDeclaringClass() == CompiledProgram.class) {
                publicNames.add(m.getName());
            }
        }
        hidesNoName(CompiledProgram.class, publicNames);
        for (Class<?> inside : CompiledProgram.class.getDeclaredClasses()) {
            int flags = inside.getModifiers();
            boolean seen = Modifier.isPublic(flags) || Modifier.isProtected(flags);
            Check.holds(inside + " is static and not seen", Modifier.isStatic(flags) && !seen);
            hidesNoName(inside, publicNames);
        }
    }

    private static void hidesNoName(Class<?> c, TreeSet<String> publicNames) {
        for (Method m : c.getDeclaredMethods()) {
            boolean hides = Modifier.isPrivate(m.getModifiers()) && publicNames.contains(m.getName());
            Check.holds(m + " does not bear the name of a public one", !hides);
        }
    }

    private static void objectsAreApart() {
        CompiledProgram one = Check.with(Check.place(0xb7, 1, 0, 0, 5), Check.EXIT);
        CompiledProgram other = new CompiledProgram();
        one.run(2);
        one.put(Check.MEMORY, 9);
        Check.same("a register of another object", other.get(1), 0);
        Check.same("a word of another object", other.word(Check.MEMORY), 0);
        Check.same("places() of another object", other.places(), 0);
        Check.same("place() of another object", other.place(), CompiledProgram.NONE);
    }
}
