import java.io.IOException;
import java.lang.reflect.Constructor;
import java.lang.reflect.Field;
import java.lang.reflect.Method;
import java.lang.reflect.Modifier;
import java.nio.file.Files;
import java.nio.file.Path;
import java.util.TreeSet;

/** All promises, 'The public face': its members and no others, and what LANGUAGE.md keeps out. Runs in the project's folder. */
public final class FaceTest {
    private static final String FACE = "BAD DOWN LOST NONE OUTSIDE ROOM STATE TwoSlots(int,int,long) UNKNOWN "
        + "alter(int,int) block() boot() confirm() count(int) cut(int,int) finish() make(int,int,int,int) octet(int,int) offer() "
        + "pack(int) record(int) revoke(int) rot(int,int,int) running() slot(int,int) start() tick(int) watchdog()";
    private static final String[] KEPT_OUT = {"throw", "try", "catch", "synchronized", "assert", "->", "::", "package ",
        "protected", "Exact(", "Random", "System.out", "System.nano", "System.current", "Thread", "hashCode", "toString"};

    public static void main(String[] args) throws IOException {
        face();
        constants();
        inside(TwoSlots.class);
        for (Class<?> nested : TwoSlots.class.getDeclaredClasses()) {
            inside(nested);
        }
        words();
        Due.end();
    }

    private static void face() {
        TreeSet<String> seen = new TreeSet<>();
        for (Method m : TwoSlots.class.getDeclaredMethods()) {
            if (!Modifier.isPrivate(m.getModifiers()) && !m.isSynthetic()) {
                seen.add(m.getName() + parameters(m.getParameterTypes()));
                Due.is(m.getName() + " answers", m.getReturnType().getName(), "int");
                Due.is(m.getName() + " is public and not static", m.getModifiers(), Modifier.PUBLIC);
            }
        }
        for (Constructor<?> c : TwoSlots.class.getDeclaredConstructors()) {
            seen.add("TwoSlots" + parameters(c.getParameterTypes()));
        }
        for (Field f : TwoSlots.class.getDeclaredFields()) {
            if (!Modifier.isPrivate(f.getModifiers())) {
                seen.add(f.getName());
                Due.is(f.getName() + " is public, static, final", f.getModifiers(),
                    Modifier.PUBLIC | Modifier.STATIC | Modifier.FINAL);
            }
        }
        Due.is("the face", String.join(" ", seen), FACE);
        Due.is("the class is public and final", TwoSlots.class.getModifiers(), Modifier.PUBLIC | Modifier.FINAL);
        for (Class<?> inside : TwoSlots.class.getDeclaredClasses()) {
            Due.is(inside.getName() + " is static", Modifier.isStatic(inside.getModifiers()) ? 1 : 0, 1);
        }
    }

    private static String parameters(Class<?>[] types) {
        StringBuilder told = new StringBuilder();
        for (Class<?> type : types) {
            told.append(told.length() == 0 ? "" : ",").append(type.getName());
        }
        return "(" + told + ")";
    }

    private static void constants() {
        int[] constants = {TwoSlots.NONE, TwoSlots.DOWN, TwoSlots.UNKNOWN, TwoSlots.OUTSIDE, TwoSlots.STATE,
            TwoSlots.ROOM, TwoSlots.BAD, TwoSlots.LOST};
        int[] want = {-1, -100, -101, -102, -103, -104, -105, -106};
        for (int i = 0; i < want.length; i++) {
            Due.is("constant " + i, constants[i], want[i]);
        }
    }

    /** LANGUAGE.md, rules 1, 5 and 11: names of private methods, static fields, parameters, fields. */
    private static void inside(Class<?> type) {
        for (Method m : type.getDeclaredMethods()) {
            boolean ofTheFace = type == TwoSlots.class && Modifier.isPublic(m.getModifiers());
            boolean named = FACE.contains(" " + m.getName() + "(");
            Due.is(type.getName() + "." + m.getName() + " bears the name of a public one", named && !ofTheFace ? 1 : 0, 0);
            Due.is(type.getName() + "." + m.getName() + " takes at most seven", Math.max(m.getParameterCount(), 7), 7);
        }
        int fields = 0;
        for (Field f : type.getDeclaredFields()) {
            boolean ofTheClass = Modifier.isStatic(f.getModifiers());
            fields += ofTheClass ? 0 : 1;
            Due.is(f.getName() + " is static and not final", ofTheClass && !Modifier.isFinal(f.getModifiers()) ? 1 : 0, 0);
        }
        Due.is(type.getName() + " has at most twenty fields", Math.max(fields, 20), 20);
    }

    private static void words() throws IOException {
        String source = Files.readString(Path.of("src/main/java/TwoSlots.java"));
        String code = source.replaceAll("(?s)/\\*.*?\\*/", "").replaceAll("//[^\\n]*", "");
        for (String word : KEPT_OUT) {
            boolean plain = Character.isLetter(word.charAt(0)) && Character.isLetter(word.charAt(word.length() - 1));
            String sought = plain ? "(?s).*\\b" + word + "\\b.*" : "(?s).*" + java.util.regex.Pattern.quote(word) + ".*";
            Due.is("the source has " + word, code.matches(sought) ? 1 : 0, 0);
        }
        Due.is("imports", code.split("\\bimport\\b", -1).length - 1, 1);
    }
}
