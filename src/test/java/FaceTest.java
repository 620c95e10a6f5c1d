import java.lang.reflect.Constructor;
import java.lang.reflect.Field;
import java.lang.reflect.Method;
import java.lang.reflect.Modifier;
import java.util.ArrayList;
import java.util.Collections;
import java.util.List;

/** The public face of the document, and nothing beside it that can be seen from outside. */
public final class FaceTest {
    private static final String[] METHODS = {
        "boolean rate(int,int)", "boolean rules(int,int,int,int)", "boolean shift(long)",
        "boolean twoPoint(int,int,int,int)", "boolean undo()", "int at(int)", "int breakLines(int)", "int clash()",
        "int cues()", "int merge(int)", "int put(long,int)", "int read(int)", "int repair()", "int shot(int)",
        "int split(int,int)", "int text(int,int)", "int wipe()", "int write(int)", "long cue(int,int)"
    };

    public static void main(String[] args) {
        int modifiers = CueBench.class.getModifiers();
        Due.is("public class", Modifier.isPublic(modifiers), true);
        Due.is("final class", Modifier.isFinal(modifiers), true);
        methods();
        fields();
        Constructor<?>[] made = CueBench.class.getDeclaredConstructors();
        Due.is("constructors", made.length, 1);
        Due.is("parameters of the constructor", made[0].getParameterCount(), 0);
        Due.is("public constructor", Modifier.isPublic(made[0].getModifiers()), true);
        for (Class<?> inside : CueBench.class.getDeclaredClasses()) {
            Due.is("static class " + inside.getName(), Modifier.isStatic(inside.getModifiers()), true);
            Due.is("public class " + inside.getName(), Modifier.isPublic(inside.getModifiers()), false);
        }
        Due.end();
    }

    private static void methods() {
        List<String> seen = new ArrayList<>();
        List<String> names = new ArrayList<>();
        for (Method m : CueBench.class.getDeclaredMethods()) {
            if (m.isSynthetic() || Modifier.isPrivate(m.getModifiers())) continue;
            Due.is("public " + m.getName(), Modifier.isPublic(m.getModifiers()), true);
            List<String> types = new ArrayList<>();
            for (Class<?> type : m.getParameterTypes()) types.add(type.getName());
            seen.add(m.getReturnType().getName() + " " + m.getName() + "(" + String.join(",", types) + ")");
            names.add(m.getName());
        }
        Collections.sort(seen);
        Due.is("methods", String.join("; ", seen), String.join("; ", METHODS));
        for (Method m : CueBench.class.getDeclaredMethods()) {
            boolean hidden = Modifier.isPrivate(m.getModifiers()) && names.contains(m.getName());
            Due.is("private method of a public one's name: " + m.getName(), hidden, false);
        }
    }

    private static void fields() {
        List<String> seen = new ArrayList<>();
        for (Field f : CueBench.class.getDeclaredFields()) {
            if (Modifier.isPrivate(f.getModifiers())) continue;
            seen.add(f.getName());
        }
        Due.is("fields", String.join(" ", seen), "NONE BAD FULL BLOCK FRAMES PACKED LAST");
        Due.is("NONE", CueBench.NONE, -1);
        Due.is("BAD", CueBench.BAD, -2);
        Due.is("FULL", CueBench.FULL, -3);
        Due.is("BLOCK", CueBench.BLOCK, 0);
        Due.is("FRAMES", CueBench.FRAMES, 1);
        Due.is("PACKED", CueBench.PACKED, 2);
        Due.is("LAST", CueBench.LAST, 3600L * 705600000L);
    }
}
