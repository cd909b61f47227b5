import java.lang.reflect.Array;
import java.lang.reflect.Constructor;
import java.lang.reflect.Field;
import java.lang.reflect.Method;
import java.lang.reflect.Modifier;
import java.nio.file.Files;
import java.nio.file.Path;
import java.util.ArrayList;
import java.util.Arrays;
import java.util.HashSet;
import java.util.IdentityHashMap;
import java.util.List;
import java.util.Map;
import java.util.Set;
import java.util.TreeSet;
import java.util.regex.Matcher;
import java.util.regex.Pattern;

/** What of ../shared/LANGUAGE.md can be seen from outside: the face, words of the source, lengths, room. */
public final class LanguageTest {
    private static final String[] FACE = {"int type(int)", "int clear()", "int hall()", "int seat(int,int)",
        "int thing(int,int)", "int now(int)", "int goes(int)", "int takes(int)", "int leaves(int)", "int encores(int)",
        "int undo()", "int back(int)", "int left()", "int see()", "int seenBy(int)", "int odds(int,int,int)",
        "int knows(int)", "int felt(int)", "int whose(int)", "int tells(int,int,int)", "int fits()", "int forget()",
        "int rate(int,int)", "int keep(int)", "int again(int)", "int count(int)", "long trace()"};
    private static final String[] CONSTANTS = {"BAD", "STATE", "FULL", "NONE", "NO"};
    private static final String[] FORBIDDEN = {"throw", "throws", "try", "catch", "synchronized", "assert", "->", "::",
        "@Override", "System.out", "System.nano", "System.current", "Random", "Thread", "package", "toString", "hashCode",
        "var", "Exact", "Object", "protected", "finalize"};
    private static final Set<String> LIBRARY = Set.of("Math.min", "Math.max", "Math.abs", "Integer.bitCount",
        "Long.bitCount", "Arrays.fill", "System.arraycopy");
    private static final int MOST_ELEMENTS = 25000, MOST_OBJECTS = 200;

    private static final Checks c = new Checks();

    public static void main(String[] args) throws Exception {
        face();
        names();
        source();
        room();
        c.end();
    }

    private static void face() {
        c.about("rule 1");
        Class<?> type = MindsByTen.class;
        c.holds("public and final", Modifier.isPublic(type.getModifiers()) && Modifier.isFinal(type.getModifiers()));
        Set<String> methods = new TreeSet<>();
        for (Method m : type.getDeclaredMethods()) {
            if (!Modifier.isPrivate(m.getModifiers())) {
                List<String> types = new ArrayList<>();
                for (Class<?> p : m.getParameterTypes()) types.add(p.getName());
                methods.add(m.getReturnType().getName() + " " + m.getName() + "(" + String.join(",", types) + ")");
            }
        }
        c.holds("methods " + methods, methods.equals(new TreeSet<>(Arrays.asList(FACE))));
        Set<String> fields = new HashSet<>();
        for (Field f : type.getDeclaredFields()) {
            if (!Modifier.isPrivate(f.getModifiers())) fields.add(f.getName());
        }
        c.holds("fields " + fields, fields.equals(new HashSet<>(Arrays.asList(CONSTANTS))));
        Constructor<?>[] made = type.getDeclaredConstructors();
        c.holds("one constructor", made.length == 1 && made[0].getParameterCount() == 0);
        for (Class<?> inside : type.getDeclaredClasses()) {
            c.holds(inside + " is static", Modifier.isStatic(inside.getModifiers()));
        }
        c.holds("at most twelve classes", type.getDeclaredClasses().length < 12);
    }

    private static void names() {
        c.about("rules 1, 5, 11");
        Set<String> taken = new HashSet<>();
        for (Method m : MindsByTen.class.getDeclaredMethods()) {
            if (Modifier.isPublic(m.getModifiers())) taken.add(m.getName());
        }
        List<Class<?>> all = new ArrayList<>(Arrays.asList(MindsByTen.class.getDeclaredClasses()));
        all.add(MindsByTen.class);
        for (Class<?> type : all) {
            int own = 0;
            for (Method m : type.getDeclaredMethods()) {
                boolean face = type == MindsByTen.class && Modifier.isPublic(m.getModifiers());
                c.holds(type + " " + m.getName() + " has a name of its own", face || !taken.contains(m.getName()));
                c.holds(m + " has few parameters", m.getParameterCount() <= 7);
            }
            for (Field f : type.getDeclaredFields()) {
                boolean fixed = Modifier.isStatic(f.getModifiers());
                c.holds(f + " is final", !fixed || Modifier.isFinal(f.getModifiers()));
                if (!fixed) own++;
            }
            c.holds(type + " has few fields", own <= 20);
        }
    }

    private static void source() throws Exception {
        c.about("rules 2 to 11");
        String text = Files.readString(Path.of("src/main/java/MindsByTen.java"));
        String code = text.replaceAll("(?s)/\\*.*?\\*/", "").replaceAll("//[^\n]*", "");
        for (String word : FORBIDDEN) {
            String edge = Character.isLetter(word.charAt(0)) ? "\\b" : "";
            c.holds("no " + word, !Pattern.compile(edge + Pattern.quote(word) + edge).matcher(code).find());
        }
        c.holds("signs are 1 to 127", text.chars().allMatch(sign -> sign < 128));
        Matcher imports = Pattern.compile("import ([\\w.*]+);").matcher(code);
        while (imports.find()) {
            c.holds("import " + imports.group(1), imports.group(1).equals("java.util.Arrays"));
        }
        Matcher calls = Pattern.compile("\\b(Math|Integer|Long|Arrays|System|String|List)\\.(\\w+)").matcher(code);
        while (calls.find()) {
            String call = calls.group(1) + "." + calls.group(2);
            c.holds(call + " is of the library that stands in rule 4", LIBRARY.contains(call));
        }
        lengths(code.split("\n"));
    }

    private static void lengths(String[] lines) {
        Pattern head = Pattern.compile("(\\s+)[\\w\\[\\] ]+\\([\\w\\[\\], ]*\\) \\{");
        int methods = 0;
        for (int i = 0; i < lines.length; i++) {
            Matcher m = head.matcher(lines[i]);
            if (!m.matches() || m.group(1).length() > 8) continue;
            methods++;
            int end = i;
            while (!lines[end].equals(m.group(1) + "}")) end++;
            c.holds("short:" + lines[i], end - i <= 60);
        }
        c.holds("methods are found", methods > 60);
    }

    /** Counts what one object holds, and that calls make nothing that stays. */
    private static void room() throws Exception {
        c.about("the room");
        MindsByTen x = Checks.in("s2 0;s5 0;s5 4;s0 3;t0 3 0 1;t1 5 1 2;t2 24 3 4;t0 7 2 5;h2;e40;");
        x.see();
        x.back(1);
        Map<Object, Boolean> seen = new IdentityHashMap<>();
        int elements = measure(x, seen);
        c.holds(seen.size() + " objects", seen.size() <= MOST_OBJECTS);
        c.holds(elements + " fields and elements", elements <= MOST_ELEMENTS);
    }

    private static int measure(Object o, Map<Object, Boolean> seen) throws Exception {
        if (o == null || seen.put(o, true) != null) return 0;
        int elements = 0;
        if (o.getClass().isArray()) {
            int length = Array.getLength(o);
            elements += length;
            for (int i = 0; !o.getClass().getComponentType().isPrimitive() && i < length; i++) {
                elements += measure(Array.get(o, i), seen);
            }
            return elements;
        }
        for (Field f : o.getClass().getDeclaredFields()) {
            if (Modifier.isStatic(f.getModifiers())) continue;
            f.setAccessible(true);
            elements++;
            if (!f.getType().isPrimitive()) elements += measure(f.get(o), seen);
        }
        return elements;
    }
}
