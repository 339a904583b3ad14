import java.io.IOException;
import java.lang.management.ManagementFactory;
import java.lang.reflect.Constructor;
import java.lang.reflect.Field;
import java.lang.reflect.Method;
import java.lang.reflect.Modifier;
import java.nio.charset.StandardCharsets;
import java.nio.file.Files;
import java.nio.file.Path;
import java.util.ArrayList;
import java.util.HashSet;
import java.util.List;
import java.util.Set;
import java.util.regex.Matcher;
import java.util.regex.Pattern;

/** What of LANGUAGE.md can be seen by a look at the text and at the classes, and how little room a run of 512 calls takes. */
public final class RulesTest {
    private static final String[] FORBIDDEN = {
        "throw", "throws", "try", "catch", "finally", "synchronized", "assert", "volatile", "native", "protected",
        "package", "Object", "Random", "Thread", "var", "record", "Exact", "hashCode", "equals",
    };

    private static int wrong = 0;

    private static void hold(boolean so, String what) {
        if (so) return;
        wrong++;
        System.out.println("not so: " + what);
    }

    private static String codeOf(String source) {
        return source.replaceAll("(?s)/\\*.*?\\*/", "").replaceAll("//[^\n]*", "").replaceAll("'.'", "' '");
    }

    private static void text() throws IOException {
        String source = new String(Files.readAllBytes(Path.of("src/main/java/CorpseTales.java")), StandardCharsets.ISO_8859_1);
        String code = codeOf(source);
        for (String word : FORBIDDEN) {
            hold(!Pattern.compile("\\b" + word + "\\b").matcher(code).find(), "no " + word);
        }
        hold(!code.contains("->") && !code.contains("::"), "no lambda, no method reference");
        List<String> imports = new ArrayList<>();
        for (String line : code.split("\n")) if (line.startsWith("import")) imports.add(line);
        hold(imports.equals(List.of("import java.util.Arrays;")), "imports " + imports);
        int classes = 0;
        Matcher match = Pattern.compile("\\bclass \\w+").matcher(code);
        while (match.find()) classes++;
        hold(classes <= 12, "at most twelve classes: " + classes);
        hold(source.chars().allMatch(c -> c == '\n' || c >= 32 && c < 127), "plain signs alone");
    }

    /** Rules 1, 2, 5, 11, as far as the compiled classes show them. */
    private static void forms() {
        Set<String> face = new HashSet<>();
        for (Method method : CorpseTales.class.getDeclaredMethods()) {
            if (Modifier.isPublic(method.getModifiers())) face.add(method.getName());
        }
        formOf(CorpseTales.class);
        for (Method method : CorpseTales.class.getDeclaredMethods()) {
            if (Modifier.isPrivate(method.getModifiers())) hold(!face.contains(method.getName()), "no second " + method);
        }
        for (Class<?> inside : CorpseTales.class.getDeclaredClasses()) {
            int modifiers = inside.getModifiers();
            hold(Modifier.isStatic(modifiers), inside + " is static");
            hold(!Modifier.isPublic(modifiers) && !Modifier.isProtected(modifiers), inside + " is not seen outside");
            formOf(inside);
        }
    }

    private static void formOf(Class<?> type) {
        int fields = 0;
        for (Field field : type.getDeclaredFields()) {
            boolean isStatic = Modifier.isStatic(field.getModifiers());
            hold(!isStatic || Modifier.isFinal(field.getModifiers()), "no static field changes: " + field);
            if (!isStatic) fields++;
        }
        hold(fields <= 20, type + " has at most some twenty fields: " + fields);
        for (Method method : type.getDeclaredMethods()) {
            hold(method.getParameterCount() <= 7, "at most seven parameters: " + method);
        }
        for (Constructor<?> made : type.getDeclaredConstructors()) {
            hold(made.getParameterCount() <= 7, "at most seven parameters: " + made);
        }
    }

    private static long bytesOf(Runnable run) {
        com.sun.management.ThreadMXBean threads = (com.sun.management.ThreadMXBean) ManagementFactory.getThreadMXBean();
        run.run();
        long ahead = threads.getCurrentThreadAllocatedBytes();
        run.run();
        return threads.getCurrentThreadAllocatedBytes() - ahead;
    }

    private static void searches(CorpseTales x) {
        for (int call = 0; call < 50; call++) {
            x.never(5, 0);
            x.game(4);
            x.study(0, 0, 49, 1);
            x.fits(0);
            x.night(0, 0, 50, 10, 0);
            x.copy(0, 0, 0, 1, 59);
        }
    }

    /** One run lives in one room, from which nothing is taken away. */
    private static void room() {
        CorpseTales x = new CorpseTales();
        String text = "r9" + ";o7770".repeat(8);
        long made = bytesOf(() -> new CorpseTales());
        hold(made < 8000, "a new object takes little room: " + made);
        x.sheet(0, 0, 60);
        for (int i = 0; i < text.length(); i++) x.put(0, i, text.charAt(i));
        long forests = bytesOf(() -> {
            for (int call = 0; call < 512; call++) x.forest(0, 0, 0, text.length());
        });
        hold(forests < 512 * 8 * 64, "forests take little room: " + forests);
        long sheets = bytesOf(() -> {
            for (int call = 0; call < 512; call++) x.sheet(1, 2, 60);
        });
        hold(sheets < 1000, "sheets take none: " + sheets);
        long others = bytesOf(() -> searches(x));
        hold(others < 1000, "searches take none: " + others);
    }

    public static void main(String[] args) throws IOException {
        text();
        forms();
        room();
        System.out.println(wrong == 0 ? "the rules are kept" : wrong + " rules are broken");
        if (wrong != 0) System.exit(1);
    }
}
