import java.lang.reflect.Constructor;
import java.lang.reflect.Field;
import java.lang.reflect.Method;
import java.lang.reflect.Modifier;
import java.nio.file.Files;
import java.nio.file.Path;
import java.util.Map;
import java.util.TreeMap;
import java.util.regex.Pattern;

/** The public face is the document's, and the source keeps off what LANGUAGE.md rules out by a word. */
public final class FaceTest {
    private static final String[] FACE = {
        "int hoop(int)", "int hoops(int,int,int)", "int mend(int,int,int)", "int of(int,int)", "int feed(int)",
        "int law()", "int go(int)", "int lift(int)", "int led(int)", "int then(int,int,int)", "int falls(int)",
        "int lasts()", "int beatFor(int)", "int leastPush(int)", "int mistake(int,int)", "int held(int)",
        "int rescue(int,int)", "int start(int)", "int music(int)", "int judge(int,int)", "int begun(int,int,int)",
        "int skill(int,int)", "int left(int,int,int)", "int knocked(int,int,int)", "int last(int,int)",
        "long alone(int,int,int)", "int learn(int,int)", "int till(int,int)", "int image()", "int back()",
        "int undo()", "int redo()", "int body(int)", "int act(int,int,int)", "int trace(int)", "int keep(int,int)",
        "int row(int,int,int)", "int put(int,int,long)", "long element(int,int)", "int shift(int,int,int,int,int)",
        "int taken(int,int)", "int count(int)"};

    public static void main(String[] args) throws Exception {
        methods();
        fields();
        inside();
        source();
        Due.end();
    }

    private static void methods() {
        Map<String, Boolean> seen = new TreeMap<>();
        Map<String, Boolean> names = new TreeMap<>();
        for (Method m : HoopWaist.class.getDeclaredMethods()) {
            if (Modifier.isPublic(m.getModifiers())) {
                seen.put(signature(m), true);
                names.put(m.getName(), true);
                Due.holds(m + " is no static one", !Modifier.isStatic(m.getModifiers()));
            }
        }
        for (String want : FACE) {
            Due.holds("there is " + want, seen.containsKey(want));
        }
        Due.same("how many public methods", seen.size(), FACE.length);
        for (Method m : HoopWaist.class.getDeclaredMethods()) {
            if (!Modifier.isPublic(m.getModifiers())) {
                Due.holds(m + " is private", Modifier.isPrivate(m.getModifiers()));
                Due.holds(m + " has a name of its own", !names.containsKey(m.getName()));
            }
        }
        for (Class<?> c : HoopWaist.class.getDeclaredClasses()) {
            for (Method m : c.getDeclaredMethods()) {
                Due.holds(m + " has a name of its own", !names.containsKey(m.getName()));
            }
        }
        Constructor<?>[] made = HoopWaist.class.getDeclaredConstructors();
        Due.same("how many constructors", made.length, 1);
        Due.holds("the constructor is public", Modifier.isPublic(made[0].getModifiers()));
        Due.same("the constructor's parameters", made[0].getParameterCount(), 0);
        Due.holds("the class is final", Modifier.isFinal(HoopWaist.class.getModifiers()));
    }

    private static String signature(Method m) {
        StringBuilder b = new StringBuilder(m.getReturnType().getName()).append(' ').append(m.getName()).append('(');
        for (int i = 0; i < m.getParameterCount(); i++) {
            b.append(i == 0 ? "" : ",").append(m.getParameterTypes()[i].getName());
        }
        return b.append(')').toString();
    }

    private static void fields() throws Exception {
        String[] names = {"BAD", "NOT", "FULL", "STATE", "VOID"};
        int[] values = {-1, -2, -3, -5, -2000000000};
        int open = 0;
        for (Field f : HoopWaist.class.getDeclaredFields()) {
            open += Modifier.isPrivate(f.getModifiers()) ? 0 : 1;
        }
        Due.same("fields that are not private", open, names.length);
        for (int i = 0; i < names.length; i++) {
            Field f = HoopWaist.class.getField(names[i]);
            Due.holds(names[i] + " is a constant", Modifier.isFinal(f.getModifiers()) && Modifier.isStatic(f.getModifiers()));
            Due.same(names[i], f.getInt(null), values[i]);
        }
    }

    private static void inside() {
        Class<?>[] inside = HoopWaist.class.getDeclaredClasses();
        Due.holds("at most twelve classes", inside.length + 1 <= 12);
        for (Class<?> c : inside) {
            Due.holds(c + " is static", Modifier.isStatic(c.getModifiers()));
            Due.holds(c + " is not public", !Modifier.isPublic(c.getModifiers()) && !Modifier.isProtected(c.getModifiers()));
            int fields = 0;
            for (Field f : c.getDeclaredFields()) {
                fields += Modifier.isStatic(f.getModifiers()) ? 0 : 1;
                Due.holds(f + " is final if static", !Modifier.isStatic(f.getModifiers()) || Modifier.isFinal(f.getModifiers()));
            }
            Due.holds(c + " has at most twenty fields", fields <= 20);
            for (Method m : c.getDeclaredMethods()) {
                Due.holds(m + " has at most seven parameters", m.getParameterCount() <= 7);
            }
        }
    }

    private static void source() throws Exception {
        String text = Files.readString(Path.of("src/main/java/HoopWaist.java"));
        String code = text.replaceAll("(?s)/\\*.*?\\*/", "").replaceAll("//[^\n]*", "");
        for (String word : new String[] {"throw", "throws", "try", "catch", "finally", "synchronized", "assert", "import",
            "package", "Object", "Random", "Thread", "protected", "var", "hashCode", "toString"}) {
            Due.holds("no " + word, !Pattern.compile("\\b" + word + "\\b").matcher(code).find());
        }
        Due.holds("no lambda", !code.contains("->"));
        Due.holds("no method reference", !code.contains("::"));
        Due.holds("plain signs alone", text.chars().allMatch(c -> c == '\n' || c >= 32 && c < 127));
    }
}
