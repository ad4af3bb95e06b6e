import java.lang.reflect.Constructor;
import java.lang.reflect.Field;
import java.lang.reflect.Member;
import java.lang.reflect.Method;
import java.lang.reflect.Modifier;
import java.util.Arrays;
import java.util.Set;
import java.util.TreeSet;

/** The public face, and that nothing beside it can be seen (LANGUAGE.md, rule 1). */
public final class FaceTest {
    private static final Set<String> FACE = new TreeSet<>(Arrays.asList(
            "BAD", "FULL", "GuestRunner()",
            "word(int)", "set(int,int)", "input(int)", "data(int,int)", "begin()", "run(int)",
            "register(int)", "give(int,int)", "byteOf(int)", "output(int)", "code()"));
    private static final Check CHECK = new Check();
    private static final Set<String> SEEN = new TreeSet<>();

    public static void main(String[] args) {
        CHECK.isTrue("public final class", Modifier.isPublic(GuestRunner.class.getModifiers())
                && Modifier.isFinal(GuestRunner.class.getModifiers()));
        CHECK.due("BAD", GuestRunner.BAD, -1);
        CHECK.due("FULL", GuestRunner.FULL, -2);
        for (Constructor<?> c : GuestRunner.class.getDeclaredConstructors()) {
            look(c, "GuestRunner" + parameters(c.getParameterTypes()));
        }
        for (Method m : GuestRunner.class.getDeclaredMethods()) {
            look(m, m.getName() + parameters(m.getParameterTypes()));
            lookAtMethod(m);
        }
        for (Field f : GuestRunner.class.getDeclaredFields()) {
            look(f, f.getName());
            CHECK.isTrue(f.getName() + " is a constant if public", !Modifier.isPublic(f.getModifiers())
                    || Modifier.isStatic(f.getModifiers()) && f.getType() == int.class);
            CHECK.isTrue(f.getName() + " final if static",
                    !Modifier.isStatic(f.getModifiers()) || Modifier.isFinal(f.getModifiers()));
        }
        CHECK.isTrue("members " + SEEN + " are " + FACE, SEEN.equals(FACE));
        CHECK.end();
    }

    private static void look(Member m, String name) {
        if (!Modifier.isPrivate(m.getModifiers())) {
            SEEN.add(name);
            CHECK.isTrue(name + " is public", Modifier.isPublic(m.getModifiers()));
        }
    }

    private static void lookAtMethod(Method m) {
        if (Modifier.isPublic(m.getModifiers())) {
            CHECK.isTrue(m.getName() + " answers an int", m.getReturnType() == int.class);
            CHECK.isTrue(m.getName() + " is of an object", !Modifier.isStatic(m.getModifiers()));
            CHECK.due(m.getName() + " declares exceptions", m.getExceptionTypes().length, 0);
            return;
        }
        for (String name : FACE) {
            CHECK.isTrue("no private " + name, !name.startsWith(m.getName() + "("));
        }
    }

    private static String parameters(Class<?>[] types) {
        StringBuilder all = new StringBuilder("(");
        for (Class<?> type : types) {
            all.append(all.length() > 1 ? "," : "").append(type.getName());
        }
        return all.append(")").toString();
    }
}
