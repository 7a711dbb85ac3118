import java.io.IOException;
import java.lang.reflect.Field;
import java.lang.reflect.Method;
import java.lang.reflect.Modifier;
import java.nio.charset.StandardCharsets;
import java.nio.file.Files;
import java.nio.file.Path;
import java.util.List;
import java.util.Set;
import java.util.TreeSet;
import java.util.regex.Matcher;
import java.util.regex.Pattern;

/**
 * The face as the document writes it, and those rules of shared/LANGUAGE.md that can be seen from the
 * text or from the class. Arguments: the document, the program's source.
 */
public final class FaceTests {
    private static final Checks C = new Checks();
    private static final List<String> FORBIDDEN = List.of(
        "->", "::", "\\bsynchronized\\b", "\\bassert\\b", "\\bfinally\\b", "\\bcatch\\b", "\\btry\\b", "\\bprotected\\b",
        "\\bstatic\\s*\\{", "\\bSystem\\b", "\\bequals\\b", "\\bhashCode\\b", "\\btoString\\b", "Exact\\b", "\\bvolatile\\b",
        "\\bObject\\b", "\\bextends\\b", "\\bsuper\\b", "[^\\x00-\\x7f]", "\\bis\\w* *[&|^]=");

    public static void main(String[] args) throws IOException {
        List<String> doc = Files.readAllLines(Path.of(args[0]), StandardCharsets.UTF_8);
        String source = Files.readString(Path.of(args[1]), StandardCharsets.UTF_8);
        everyLineOfTheFace(doc, source);
        nothingElseIsSeen(doc);
        String code = withoutTexts(source);
        textRules(code);
        methodRules(code);
        for (Class<?> one : Nomdeplume.class.getDeclaredClasses()) {
            int kind = one.getModifiers();
            C.is(one + " is static and not public", true, Modifier.isStatic(kind) && !Modifier.isPublic(kind) && !Modifier.isProtected(kind));
            classRules(one);
        }
        classRules(Nomdeplume.class);
        C.is("rule 11: at most 12 classes", true, Nomdeplume.class.getDeclaredClasses().length <= 11);
        C.close("FaceTests");
    }

    private static List<String> faceLines(List<String> doc) {
        return doc.stream().filter(line -> line.startsWith("    public ")).map(String::strip).toList();
    }

    private static void everyLineOfTheFace(List<String> doc, String source) {
        C.is("lines of the face", 48, faceLines(doc).size());
        for (String line : faceLines(doc)) {
            String head = line.substring(0, line.length() - 1);
            C.is(head, true, source.contains("    " + head + " {"));
        }
        C.is("public and final", Modifier.PUBLIC | Modifier.FINAL, Nomdeplume.class.getModifiers());
    }

    private static Set<String> faceNames(List<String> doc) {
        Set<String> names = new TreeSet<>();
        for (String line : faceLines(doc)) {
            String head = line.substring(0, line.indexOf('('));
            names.add(head.substring(head.lastIndexOf(' ') + 1));
        }
        return names;
    }

    private static void nothingElseIsSeen(List<String> doc) {
        Set<String> face = faceNames(doc);
        Set<String> seen = new TreeSet<>(Set.of("Nomdeplume"));
        for (Method method : Nomdeplume.class.getDeclaredMethods()) {
            if (Modifier.isPrivate(method.getModifiers())) {
                C.is("rule 1: private " + method.getName(), false, face.contains(method.getName()));
            } else {
                seen.add(method.getName());
            }
        }
        C.is("rule 1: no other member", face, seen);
        C.is("one constructor", 1, Nomdeplume.class.getDeclaredConstructors().length);
        for (Field field : Nomdeplume.class.getDeclaredFields()) {
            C.is("rule 1: field " + field.getName(), true, Modifier.isPrivate(field.getModifiers()));
        }
        for (Class<?> one : Nomdeplume.class.getDeclaredClasses()) {
            for (Method method : one.getDeclaredMethods()) {
                C.is("rule 1: " + method.getName(), false, face.contains(method.getName()));
            }
        }
    }

    private static void classRules(Class<?> one) {
        int own = 0;
        for (Field field : one.getDeclaredFields()) {
            if (Modifier.isStatic(field.getModifiers())) {
                boolean isPlain = Set.of("int", "long", "boolean", "char", "String").contains(field.getType().getSimpleName());
                C.is("rule 5: " + field.getName(), true, Modifier.isFinal(field.getModifiers()) && isPlain);
            } else {
                own++;
            }
        }
        C.is("rule 11: fields of " + one.getName(), true, own <= 20);
        for (Method method : one.getDeclaredMethods()) {
            C.is("rule 11: parameters of " + method.getName(), true, method.getParameterCount() <= 7);
        }
    }

    /** Comments are dropped, and texts emptied, so that their words are not taken for code. */
    private static String withoutTexts(String source) {
        String bare = source.replaceAll("(?s)/\\*.*?\\*/", "").replaceAll("//[^\n]*", "");
        return bare.replaceAll("\"[^\"\n]*\"", "\"\"");
    }

    private static void textRules(String code) {
        for (String forbidden : FORBIDDEN) {
            C.is("not in the source: " + forbidden, false, Pattern.compile(forbidden).matcher(code).find());
        }
        Matcher imports = Pattern.compile("import [^;]*;").matcher(code);
        while (imports.find()) {
            C.is("rule 4: import", "import java.util.NoSuchElementException;", imports.group());
        }
        Matcher calls = Pattern.compile("\\bMath\\.(\\w+)").matcher(code);
        while (calls.find()) {
            C.is("rule 4: " + calls.group(), true, Set.of("max", "min", "abs").contains(calls.group(1)));
        }
        C.is("rule 10: no text is joined by +", false, Pattern.compile("\"\" *\\+|\\+ *\"\"").matcher(code).find());
        C.is("no package line", false, code.contains("package "));
    }

    private static void methodRules(String code) {
        int start = 0;
        int number = 0;
        for (String line : code.split("\n")) {
            number++;
            if (line.matches(" {4,8}\\S.*\\) (throws .*)?\\{") && !line.matches("\\s*(if|for|while|switch|else).*")) {
                start = number;
            }
            if (line.matches(" {4}( {4})?\\}") && start > 0) {
                C.is("rule 11: lines of the method at " + start, true, number - start <= 60);
            }
        }
        C.is("methods were found", true, start > 0);
    }
}
