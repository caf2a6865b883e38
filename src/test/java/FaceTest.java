import java.io.IOException;
import java.lang.reflect.Constructor;
import java.lang.reflect.Field;
import java.lang.reflect.Method;
import java.lang.reflect.Modifier;
import java.nio.file.Files;
import java.nio.file.Path;
import java.util.Arrays;
import java.util.HashSet;
import java.util.List;
import java.util.NoSuchElementException;
import java.util.Set;
import java.util.TreeSet;
import java.util.regex.Matcher;
import java.util.regex.Pattern;

/** The public face of the document, and those rules of LANGUAGE.md that can be seen from the class and its text. */
public final class FaceTest {
    private static final String[] FACE = {
        "int feed(int,int,int,int,int)", "int hill(int)", "int fault()", "int where()", "int level(int)",
        "int plan(int,int)", "boolean undo()", "int peg(int,int,int,int)", "int gone(int)", "int wave(int)",
        "int read(int,int,int,int)", "int forget()", "int fits()", "int fit(int)", "int weight(int)", "int clear()",
        "int lettings()", "int tap(int)", "int fooled(int)", "int nought(int,int,int)",
        "int span(int,int,int,int,boolean)", "int helps(int,int)", "int last(int)", "int safe(int)",
        "int found(int,int)", "int bore()", "int struck(int,int)", "int dead(int,int)", "int tell(int,int)",
        "int part(int,int,int)", "int knew(int)", "int led(int,int)", "int size(int)", "int trouble()"
    };

    private FaceTest() {
    }

    public static void main(String[] args) throws IOException, ReflectiveOperationException {
        face();
        members();
        text();
        Due.end();
    }

    private static void yes(String what, boolean so) {
        Due.is(what, so ? 1 : 0, 1);
    }

    private static String signature(Method m) {
        StringBuilder b = new StringBuilder(m.getReturnType().getName()).append(' ').append(m.getName()).append('(');
        for (int i = 0; i < m.getParameterCount(); i++) {
            b.append(i > 0 ? "," : "").append(m.getParameterTypes()[i].getName());
        }
        return b.append(')').toString();
    }

    private static void face() throws ReflectiveOperationException {
        Class<?> c = HillTap.class;
        yes("public final class", Modifier.isPublic(c.getModifiers()) && Modifier.isFinal(c.getModifiers()));
        Set<String> due = new TreeSet<>(Arrays.asList(FACE));
        for (Method m : c.getDeclaredMethods()) {
            if (Modifier.isPrivate(m.getModifiers())) continue;
            yes(signature(m) + " is of the face", due.remove(signature(m)));
            yes(signature(m) + " is public, of objects", m.getModifiers() == Modifier.PUBLIC);
        }
        yes("missing: " + due, due.isEmpty());
        Class<?>[] thrown = c.getDeclaredMethod("led", int.class, int.class).getExceptionTypes();
        yes("led throws", thrown.length == 1 && thrown[0] == NoSuchElementException.class);
        Constructor<?>[] made = c.getDeclaredConstructors();
        yes("one public constructor", made.length == 1 && Modifier.isPublic(made[0].getModifiers()) && made[0].getParameterCount() == 0);
    }

    private static void members() throws ReflectiveOperationException {
        Set<String> names = new HashSet<>();
        for (String f : FACE) names.add(f.substring(f.indexOf(' ') + 1, f.indexOf('(')));
        Class<?>[] inside = HillTap.class.getDeclaredClasses();
        yes("twelve classes at most", inside.length + 1 <= 12);
        for (Class<?> c : inside) {
            yes(c + " is static", Modifier.isStatic(c.getModifiers()));
            yes(c + " isn't public", !Modifier.isPublic(c.getModifiers()) && !Modifier.isProtected(c.getModifiers()));
            for (Method m : c.getDeclaredMethods()) yes(m + " bears no name of the face", !names.contains(m.getName()));
            fields(c);
        }
        for (Method m : HillTap.class.getDeclaredMethods()) {
            if (Modifier.isPrivate(m.getModifiers())) yes(m + " bears no name of the face", !names.contains(m.getName()));
            yes(m + " takes seven at most", m.getParameterCount() <= 7);
        }
        fields(HillTap.class);
        Field none = HillTap.class.getField("NONE");
        yes("NONE", none.getModifiers() == (Modifier.PUBLIC | Modifier.STATIC | Modifier.FINAL) && none.getInt(null) == -1);
        yes("one public field", HillTap.class.getFields().length == 1);
    }

    private static void fields(Class<?> c) {
        int own = 0;
        for (Field f : c.getDeclaredFields()) {
            if (!Modifier.isStatic(f.getModifiers())) own++;
            else yes(f + " is final", Modifier.isFinal(f.getModifiers()));
            if (c == HillTap.class) yes(f + " is private", Modifier.isPrivate(f.getModifiers()) || f.getName().equals("NONE"));
        }
        yes(c + " has twenty fields at most", own <= 20);
    }

    private static void text() throws IOException {
        String root = System.getenv("HILLTAP_ROOT");
        Path path = Path.of(root == null ? "." : root, "src", "main", "java", "HillTap.java");
        List<String> lines = Files.readAllLines(path);
        StringBuilder code = new StringBuilder();
        for (String line : lines) {
            String bare = line.replaceAll("//.*", "");
            if (!bare.trim().startsWith("/*") && !bare.trim().startsWith("*")) code.append(bare).append('\n');
        }
        String all = code.toString();
        for (String word : new String[] {
            "try", "catch", "finally", "synchronized", "assert", "->", "::", "double", "float", "System", "Random",
            "String.format", "getClass", "hashCode", "toString", "Exact", "package", "protected", "volatile", "Thread"
        }) {
            String pattern = Character.isLetter(word.charAt(0)) ? "\\b" + Pattern.quote(word) + "\\b" : Pattern.quote(word);
            yes("no " + word, !Pattern.compile(pattern).matcher(all).find());
        }
        Matcher imports = Pattern.compile("import ([^;]+);").matcher(all);
        while (imports.find()) {
            yes(imports.group(1) + " may be imported", Set.of("java.util.Arrays", "java.util.NoSuchElementException").contains(imports.group(1)));
        }
        int begun = 0;
        for (int i = 0; i < lines.size(); i++) {
            if (lines.get(i).matches("(    |        )[a-zA-Z].*\\) (throws \\w+ )?\\{")) begun = i;
            if (lines.get(i).matches("(    |        )\\}")) yes("sixty lines at most, up to line " + (i + 1), i - begun <= 60 || begun == 0);
            yes("signs 1 to 127 in line " + (i + 1), lines.get(i).chars().allMatch(c -> c < 128));
        }
    }
}
