import java.lang.reflect.Method;
import java.lang.reflect.Modifier;
import java.nio.file.Files;
import java.nio.file.Path;
import java.util.ArrayList;
import java.util.Arrays;
import java.util.List;
import java.util.TreeSet;
import java.util.regex.Matcher;
import java.util.regex.Pattern;

/** The face is the document's, no more and no less, and the file keeps to the rules that a text shows. */
public final class FaceTest {
    private FaceTest() {
    }

    public static void main(String[] args) throws Exception {
        String document = Files.readString(Path.of("../shared/DOC.md"));
        String source = Files.readString(Path.of("src/main/java/Strandbook.java"));
        checkMethods(document);
        checkWords(document, source);
        checkMembers();
        checkText(source);
        Checks.end("FaceTest");
    }

    private static void checkMethods(String document) {
        TreeSet<String> due = new TreeSet<>();
        String face = document.substring(document.indexOf("```java"), document.indexOf("## Terms"));
        Matcher method = Pattern.compile("public (\\w+) (\\w+)\\(([^)]*)\\)([^;]*);").matcher(face);
        while (method.find()) {
            String types = method.group(3).replaceAll(" \\w+(,|$)", "$1").replace(" ", "");
            String thrown = method.group(4).replace("throws", "").replace(" ", "");
            due.add(method.group(1) + " " + method.group(2) + "(" + types + ") " + thrown);
        }
        TreeSet<String> got = new TreeSet<>();
        for (Method m : Strandbook.class.getDeclaredMethods()) {
            if (!Modifier.isPrivate(m.getModifiers())) {
                Checks.same(m.getName() + " is public alone", m.getModifiers(), Modifier.PUBLIC);
                got.add(m.getReturnType() + " " + m.getName() + "(" + names(m.getParameterTypes()) + ") "
                        + names(m.getExceptionTypes()));
            }
        }
        Checks.same("the number of methods that the document has", due.size(), 43);
        Checks.same("the face", got, due);
    }

    /** Word for word, the names of the parameters among them, which reflection does not tell. */
    private static void checkWords(String document, String source) {
        String words = source.replaceAll("\\s+", " ");
        Matcher line = Pattern.compile("\n    (public [^;]*);").matcher(document);
        int lines = 0;
        while (line.find()) {
            lines++;
            Checks.same("the file says " + line.group(1), words.contains(" " + line.group(1) + " {"), true);
        }
        Checks.same("the number of lines in the document's face", lines, 44);
    }

    private static String names(Class<?>[] types) {
        List<String> names = new ArrayList<>();
        for (Class<?> type : types) {
            names.add(type.getSimpleName());
        }
        return String.join(",", names);
    }

    private static void checkMembers() throws Exception {
        Checks.same("the class", Strandbook.class.getModifiers(), Modifier.PUBLIC | Modifier.FINAL);
        Checks.same("constructors", Strandbook.class.getDeclaredConstructors().length, 1);
        Checks.same("the constructor", Strandbook.class.getDeclaredConstructor().getModifiers(), Modifier.PUBLIC);
        List<Class<?>> all = new ArrayList<>(Arrays.asList(Strandbook.class.getDeclaredClasses()));
        Checks.same("at most twelve classes", all.size() <= 11, true);
        for (Class<?> inside : all) {
            Checks.same(inside + " is private and static", Modifier.isPrivate(inside.getModifiers())
                    && Modifier.isStatic(inside.getModifiers()), true);
        }
        TreeSet<String> publics = new TreeSet<>();
        for (Method m : Strandbook.class.getMethods()) {
            if (m.getDeclaringClass() == Strandbook.class) {
                publics.add(m.getName());
            }
        }
        for (var field : Strandbook.class.getDeclaredFields()) {
            Checks.same(field + " is private and final", Modifier.isPrivate(field.getModifiers())
                    && Modifier.isFinal(field.getModifiers()), true);
        }
        all.add(Strandbook.class);
        for (Class<?> any : all) {
            for (Method m : any.getDeclaredMethods()) {
                boolean isFace = any == Strandbook.class && Modifier.isPublic(m.getModifiers());
                Checks.same(m + " has a name of its own", isFace || !publics.contains(m.getName()), true);
                Checks.same(m + " takes at most seven", m.getParameterCount() <= 7, true);
            }
            Checks.same(any + " has at most twenty fields", Arrays.stream(any.getDeclaredFields())
                    .filter(f -> !Modifier.isStatic(f.getModifiers())).count() <= 20, true);
        }
    }

    private static void checkText(String source) {
        String code = source.replaceAll("(?s)/\\*.*?\\*/", "").replaceAll("//[^\n]*", "");
        String bare = code.replaceAll("\"[^\"\n]*\"", "\"\"");
        String[] words = {"package", "import", "try", "catch", "finally", "synchronized", "assert", "instanceof",
            "equals", "hashCode", "toString", "System", "Exact", "null", "volatile", "native", "var"};
        for (String word : words) {
            Checks.same("the word " + word + " stands in it", Pattern.compile("\\b" + word + "\\b").matcher(bare).find(),
                    false);
        }
        for (String sign : new String[] {"->", "::", "@", "\" +", "+ \""}) {
            Checks.same("the sign " + sign + " stands in it", bare.contains(sign), false);
        }
        TreeSet<String> thrown = new TreeSet<>();
        Matcher all = Pattern.compile("throw (.*)").matcher(bare);
        while (all.find()) {
            thrown.add(all.group(1).replaceAll("\\(\"\"\\);", ""));
        }
        Checks.same("what is thrown", thrown, new TreeSet<>(List.of("new ArithmeticException",
                "new IllegalArgumentException", "new IllegalStateException", "new IndexOutOfBoundsException",
                "new UnsupportedOperationException")));
        for (int i = 0; i < source.length(); i++) {
            if (source.charAt(i) > 127) {
                Checks.same("a sign above 127 at " + i, true, false);
            }
        }
    }
}
