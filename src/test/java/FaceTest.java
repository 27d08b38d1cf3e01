import java.io.IOException;
import java.lang.reflect.Constructor;
import java.lang.reflect.Field;
import java.lang.reflect.Method;
import java.lang.reflect.Modifier;
import java.nio.file.Files;
import java.nio.file.Path;
import java.util.Arrays;
import java.util.List;
import java.util.Set;
import java.util.TreeSet;
import java.util.regex.Matcher;
import java.util.regex.Pattern;

/** The public face of the document, and those rules of LANGUAGE.md that a look at the class or its text can tell. */
public final class FaceTest {
    private static final Check check = new Check();
    private static final Path SOURCE = Path.of("src/main/java/TramFaith.java");
    private static final Path DOCUMENT = Path.of("../shared/DOC.md");
    private static final String FACE = "all/0 as/2 ask/2 bounds/3 call/2 copy/5 count/1 drawn/3 drop/1 fault/0 feed/1 "
        + "fits/5 go/2 holding/0 image/1 kind/1 line/0 minutes/1 never/0 person/2 preach/2 rain/3 restore/1 row/3 "
        + "set/3 status/0 stop/2 there/1 trace/1 tram/1 undo/0 walk/2 walkers/2 when/1 where/2 wish/2";

    public static void main(String[] args) throws IOException {
        hasItsConstants();
        hasItsFace();
        keepsInside();
        standsAsTheDocumentSays(Files.readString(SOURCE), Files.readString(DOCUMENT));
        String code = bare(Files.readString(SOURCE));
        usesOnlyWhatIsListed(code);
        keepsItsMeasures(Files.readAllLines(SOURCE), code);
        check.end("FaceTest");
    }

    private static void yes(String what, boolean holds) {
        check.due(what, holds ? 1 : 0, 1);
    }

    private static void hasItsConstants() {
        check.due("NONE", TramFaith.NONE, -1000000);
        check.due("BAD", TramFaith.BAD, -1000001);
        check.due("STATE", TramFaith.STATE, -1000002);
        check.due("FULL", TramFaith.FULL, -1000003);
    }

    private static void hasItsFace() {
        Set<String> methods = new TreeSet<>();
        Set<String> hidden = new TreeSet<>();
        for (Method m : TramFaith.class.getDeclaredMethods()) {
            if (Modifier.isPrivate(m.getModifiers())) {
                hidden.add(m.getName());
            } else {
                methods.add(m.getName() + "/" + m.getParameterCount());
                yes(m + " is public, of an object, and of ints", Modifier.isPublic(m.getModifiers())
                    && !Modifier.isStatic(m.getModifiers()) && m.getReturnType() == int.class
                    && Arrays.stream(m.getParameterTypes()).allMatch(t -> t == int.class));
                check.due("the machine's exceptions that " + m + " tells", m.getExceptionTypes().length, 0);
            }
        }
        yes("the methods are those of the document: " + methods, String.join(" ", methods).equals(FACE));
        for (String told : methods) {
            yes("no private method bears the name of " + told, !hidden.contains(told.substring(0, told.indexOf('/'))));
        }
        Constructor<?>[] made = TramFaith.class.getDeclaredConstructors();
        yes("one public constructor without arguments", made.length == 1 && made[0].getParameterCount() == 0
            && Modifier.isPublic(made[0].getModifiers()));
        yes("the class is public and final", Modifier.isPublic(TramFaith.class.getModifiers())
            && Modifier.isFinal(TramFaith.class.getModifiers()));
    }

    /** The constants and the calls are written as in the document, in its order, under what the interface says. */
    private static void standsAsTheDocumentSays(String source, String document) {
        Matcher face = Pattern.compile("(?s)```java\n(.*?)```").matcher(document);
        yes("the document shows a face", face.find());
        List<String> told = found("(?m)^    (public int \\w+\\([^)]*\\));$", face.group(1));
        List<String> written = found("(?m)^    (public int \\w+\\([^)]*\\)) \\{$", source);
        check.due("calls of the document", told.size(), 36);
        yes("the calls are written as in the document: " + written, written.equals(told));
        for (String constants : found("(?m)^    (public static .*;)$", face.group(1))) {
            yes("the constants are written as in the document: " + constants, source.contains("    " + constants + "\n"));
        }
        Matcher part = Pattern.compile("Ahead of the calls (.*) the interface says: (---- .*)\\.").matcher(document);
        int parts = 0;
        while (part.find()) {
            parts++;
            List<String> under = found("(?s)    // " + part.group(2) + "\n(.*?)    // ----", source);
            yes("the class says " + part.group(2), under.size() == 1);
            String names = String.join(", ", found("(?m)^    public int (\\w+)\\(", String.join("", under)));
            yes("under it are " + names, names.equals(part.group(1).replace("`", "")));
        }
        check.due("what the interface says", parts, 4);
    }

    private static List<String> found(String pattern, String text) {
        return Pattern.compile(pattern).matcher(text).results().map(result -> result.group(1)).toList();
    }

    private static void keepsInside() {
        Set<String> open = new TreeSet<>();
        for (Field f : TramFaith.class.getDeclaredFields()) {
            if (!Modifier.isPrivate(f.getModifiers())) {
                open.add(f.getName());
            }
        }
        yes("no other field is open: " + open, open.equals(new TreeSet<>(List.of("NONE", "BAD", "STATE", "FULL"))));
        Class<?>[] inside = TramFaith.class.getDeclaredClasses();
        yes("some twelve classes", inside.length < 12);
        for (Class<?> c : inside) {
            yes(c + " is static and not public", Modifier.isStatic(c.getModifiers()) && !Modifier.isPublic(c.getModifiers()));
            checkFields(c);
        }
        checkFields(TramFaith.class);
    }

    private static void checkFields(Class<?> c) {
        int ofObjects = 0;
        for (Field f : c.getDeclaredFields()) {
            if (Modifier.isStatic(f.getModifiers())) {
                yes(f + " is final", Modifier.isFinal(f.getModifiers()));
            } else {
                ofObjects++;
            }
        }
        yes("some twenty fields of " + c, ofObjects <= 20);
        for (Method m : c.getDeclaredMethods()) {
            yes("at most seven parameters of " + m, m.getParameterCount() <= 7);
        }
    }

    /** The text without comments and constants of text and signs. */
    private static String bare(String text) {
        return text.replaceAll("(?s)/\\*.*?\\*/", "").replaceAll("//[^\n]*", "")
            .replaceAll("\"[^\"\n]*\"", "\"\"").replaceAll("'[^'\n]*'", "' '");
    }

    private static void usesOnlyWhatIsListed(String code) {
        for (String word : List.of("throw", "throws", "try", "catch", "finally", "synchronized", "assert", "package",
                "protected", "volatile", "native", "Object", "System\\.out", "Exception", "equals", "hashCode",
                "toString", "var", "double", "float")) {
            yes("no " + word, !Pattern.compile("\\b" + word + "\\b").matcher(code).find());
        }
        for (String sign : List.of("->", "::", "@", "Exact")) {
            yes("no " + sign, !code.contains(sign));
        }
        Set<String> imports = new TreeSet<>();
        Matcher m = Pattern.compile("(?m)^import ([^;]+);").matcher(code);
        while (m.find()) {
            imports.add(m.group(1));
        }
        yes("imports of the list alone: " + imports, Set.of("java.util.Arrays", "java.util.ArrayList", "java.util.List")
            .containsAll(imports));
        Set<String> calls = new TreeSet<>();
        Matcher library = Pattern.compile("\\b(Arrays|Math|Integer|Long|System|String|StringBuilder)\\.(\\w+)").matcher(code);
        while (library.find()) {
            calls.add(library.group());
        }
        yes("calls of the list alone: " + calls, Set.of("Arrays.fill", "Math.max", "Math.min", "Integer.bitCount",
            "System.arraycopy").containsAll(calls));
    }

    private static void keepsItsMeasures(List<String> lines, String code) {
        yes("only signs 1 to 127", code.chars().allMatch(sign -> sign >= 1 && sign <= 127));
        int begun = -1;
        String indent = "";
        for (int i = 0; i < lines.size(); i++) {
            String text = lines.get(i);
            Matcher head = Pattern.compile("^(    |        )[a-zA-Z][^=;]*\\([^;]*\\) \\{$").matcher(text);
            if (begun < 0 && head.find() && !text.contains(" class ")) {
                begun = i;
                indent = head.group(1);
            } else if (begun >= 0 && text.equals(indent + "}")) {
                yes("the method at line " + (begun + 1) + " is short", i - begun < 60);
                begun = -1;
            }
        }
        yes("every method's end was found", begun < 0);
    }
}
