import java.io.IOException;
import java.lang.reflect.Constructor;
import java.lang.reflect.Executable;
import java.lang.reflect.Field;
import java.lang.reflect.Method;
import java.lang.reflect.Modifier;
import java.nio.file.Files;
import java.nio.file.Path;
import java.util.Set;
import java.util.TreeSet;
import java.util.regex.Matcher;
import java.util.regex.Pattern;

/** The public face of the class, and those rules of LANGUAGE.md that can be looked up; run from the project's folder. */
public final class FaceTest {
    private static final String[] FACE = {
        "feed(int)", "row()", "fault()", "told(int)", "singer(int,int)", "child(int,int)", "go(int,int)",
        "sing(int,int)", "carry(int,int)", "evening(int)", "drift(int)", "undo(int)", "steps(int,int)",
        "can(int,int)", "pays(int,int)", "plan(int)", "round(int,int)", "colic(int,int)", "owed(int,boolean)",
        "couldBe()", "ask()", "write(int,int)", "judge()", "tear()", "seed(int)", "keep(int)", "goBack(int)"};

    private static final String[] RULED_OUT = {
        "\\b(throw|throws|try|catch|finally|synchronized|assert|package|import|volatile|native)\\b", "->", "::",
        "\\b(hashCode|toString|getClass|System\\.(?!arraycopy)\\w+|Thread|Random|Math\\.\\w+Exact)\\b", "[^\\x00-\\x7f]"};

    public static void main(String[] args) throws IOException {
        face();
        constants();
        classesInside();
        source();
        Due.end("FaceTest");
    }

    private static void yes(String what, boolean is) {
        Due.due(what, is ? 1 : 0, 1);
    }

    private static String signed(Executable m) {
        StringBuilder text = new StringBuilder(m.getName()).append('(');
        for (int i = 0; i < m.getParameterCount(); i++) {
            text.append(i == 0 ? "" : ",").append(m.getParameterTypes()[i].getName());
        }
        return text.append(')').toString();
    }

    private static void face() {
        Class<?> c = LullabyDebts.class;
        yes("public and final", Modifier.isPublic(c.getModifiers()) && Modifier.isFinal(c.getModifiers()));
        yes("extends nothing", c.getSuperclass() == Object.class && c.getInterfaces().length == 0);
        Constructor<?>[] made = c.getDeclaredConstructors();
        yes("one constructor", made.length == 1 && made[0].getParameterCount() == 0 && Modifier.isPublic(made[0].getModifiers()));
        Set<String> open = new TreeSet<>();
        Set<String> names = new TreeSet<>();
        for (Method m : c.getDeclaredMethods()) {
            if (Modifier.isPublic(m.getModifiers())) {
                open.add(signed(m));
                names.add(m.getName());
                yes(m + " answers an int and is no static one", m.getReturnType() == int.class && !Modifier.isStatic(m.getModifiers()));
            } else {
                yes(m + " is private", Modifier.isPrivate(m.getModifiers()));
            }
        }
        yes("the document's methods: " + open, open.equals(new TreeSet<>(Set.of(FACE))));
        for (Class<?> k : c.getDeclaredClasses()) {
            for (Method m : k.getDeclaredMethods()) {
                yes(m + " has a name of its own", !names.contains(m.getName()));
            }
        }
        for (Method m : c.getDeclaredMethods()) {
            yes(m + " has a name of its own", Modifier.isPublic(m.getModifiers()) || !names.contains(m.getName()));
        }
    }

    private static void constants() {
        Due.due("NONE", LullabyDebts.NONE, -1);
        Due.due("UNKNOWN", LullabyDebts.UNKNOWN, -1000000001);
        Due.due("OUTSIDE", LullabyDebts.OUTSIDE, -1000000002);
        Due.due("NOT", LullabyDebts.NOT, -1000000003);
        Due.due("FULL", LullabyDebts.FULL, -1000000004);
        Set<String> open = new TreeSet<>();
        for (Field f : LullabyDebts.class.getDeclaredFields()) {
            if (Modifier.isPublic(f.getModifiers())) {
                open.add(f.getName());
                yes(f + " is constant", Modifier.isStatic(f.getModifiers()) && Modifier.isFinal(f.getModifiers()));
            } else {
                yes(f + " is private", Modifier.isPrivate(f.getModifiers()));
            }
        }
        yes("the document's constants: " + open, open.equals(new TreeSet<>(Set.of("NONE", "UNKNOWN", "OUTSIDE", "NOT", "FULL"))));
    }

    private static void classesInside() {
        Class<?>[] inside = LullabyDebts.class.getDeclaredClasses();
        yes("twelve classes at most", inside.length + 1 <= 12);
        for (Class<?> k : inside) {
            yes(k + " is static, and not public", Modifier.isStatic(k.getModifiers()) && !Modifier.isPublic(k.getModifiers())
                && !Modifier.isProtected(k.getModifiers()));
            int fields = 0;
            for (Field f : k.getDeclaredFields()) {
                fields += Modifier.isStatic(f.getModifiers()) ? 0 : 1;
                yes(f + " is final if static", !Modifier.isStatic(f.getModifiers()) || Modifier.isFinal(f.getModifiers()));
            }
            yes(k + " has some twenty fields", fields <= 20);
            for (Method m : k.getDeclaredMethods()) {
                yes(m + " takes seven at most", m.getParameterCount() <= 7);
            }
        }
    }

    private static void source() throws IOException {
        String source = Files.readString(Path.of("src/main/java/LullabyDebts.java"));
        String code = source.replaceAll("(?s)/\\*.*?\\*/", "").replaceAll("//[^\n]*", "");
        for (String out : RULED_OUT) {
            Matcher m = Pattern.compile(out).matcher(code);
            if (m.find()) {
                yes("the source is without " + m.group(), false);
            }
        }
    }
}
