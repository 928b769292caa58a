import java.io.IOException;
import java.lang.reflect.Constructor;
import java.lang.reflect.Field;
import java.lang.reflect.Method;
import java.lang.reflect.Modifier;
import java.nio.file.Files;
import java.nio.file.Path;
import java.util.ArrayList;
import java.util.HashSet;
import java.util.List;
import java.util.Set;
import java.util.TreeSet;
import java.util.regex.Matcher;
import java.util.regex.Pattern;

/** The document's face, and those rules of LANGUAGE.md that can be looked up in the source and the class. */
public final class LanguageTest {
    private static final Path SOURCE = Path.of("src/main/java/InkNights.java");
    private static final String[] FACE = {"jar II", "dark II", "now I", "scribe II", "of II", "set III", "turn II",
        "as II", "looks I", "over I", "nights I", "ink I", "on III", "all I", "white I", "comes I", "when II",
        "shade I", "enough II", "kind II", "lamp II", "longest I", "sunny II", "feed II", "wipe ", "text ",
        "sheet III", "write IIJ", "copy IIIII", "lays I", "book II", "read II", "image ", "undo ", "tear ",
        "count I", "status I"};
    private static final String[] NEVER = {"throw", "throws", "try", "catch", "finally", "synchronized", "assert",
        "->", "::", "System.out", "System.exit", "Exact", "Random", "Thread", "package", "var ", "hashCode",
        "toString"};

    public static void main(String[] args) throws IOException {
        face();
        nestedClasses();
        String source = Files.readString(SOURCE);
        String code = withoutTexts(source);
        neverUsed(code);
        imports(code);
        objectsMadeInConstructorsAlone(code);
        methodLengths(code);
        Due.end("LanguageTest");
    }

    private static void face() {
        Set<String> due = new TreeSet<>(List.of(FACE));
        Set<String> got = new TreeSet<>();
        for (Method m : InkNights.class.getDeclaredMethods()) {
            boolean isPublic = Modifier.isPublic(m.getModifiers());
            Due.holds("public or private: " + m, isPublic || Modifier.isPrivate(m.getModifiers()));
            if (isPublic) {
                got.add(m.getName() + " " + letters(m.getParameterTypes()));
                Class<?> answer = m.getName().equals("write") ? long.class : int.class;
                Due.holds("what it answers: " + m, m.getReturnType() == answer && !Modifier.isStatic(m.getModifiers()));
            }
        }
        Due.holds("the face is the document's: " + got, got.equals(due));
        Constructor<?>[] constructors = InkNights.class.getDeclaredConstructors();
        Due.is("constructors", constructors.length, 1);
        Due.holds("public", Modifier.isPublic(constructors[0].getModifiers()) && constructors[0].getParameterCount() == 0);
        int modifiers = InkNights.class.getModifiers();
        Due.holds("public and final", Modifier.isPublic(modifiers) && Modifier.isFinal(modifiers));
        for (Field f : InkNights.class.getDeclaredFields()) {
            Due.holds("private: " + f, Modifier.isPrivate(f.getModifiers()));
        }
    }

    private static String letters(Class<?>[] types) {
        StringBuilder letters = new StringBuilder();
        for (Class<?> type : types) {
            letters.append(type == int.class ? 'I' : type == long.class ? 'J' : '?');
        }
        return letters.toString();
    }

    private static void nestedClasses() {
        Set<String> names = new HashSet<>();
        for (String row : FACE) {
            names.add(row.split(" ")[0]);
        }
        List<Class<?>> all = new ArrayList<>(List.of(InkNights.class.getDeclaredClasses()));
        Due.holds("some twelve classes", all.size() <= 11);
        all.add(InkNights.class);
        for (Class<?> c : all) {
            Due.holds("static: " + c, c == InkNights.class || Modifier.isStatic(c.getModifiers()));
            int fields = 0;
            for (Field f : c.getDeclaredFields()) {
                boolean isStatic = Modifier.isStatic(f.getModifiers());
                Due.holds("a static field is final: " + f, !isStatic || Modifier.isFinal(f.getModifiers()));
                fields += isStatic ? 0 : 1;
            }
            Due.holds("some twenty fields: " + c, fields <= 20);
            for (Method m : c.getDeclaredMethods()) {
                boolean isFace = Modifier.isPublic(m.getModifiers());
                Due.holds("a name of the face: " + m, isFace || !names.contains(m.getName()));
                Due.holds("seven parameters: " + m, m.getParameterCount() <= 7);
            }
        }
    }

    /** The source without its comments and with every text and sign emptied. */
    private static String withoutTexts(String source) {
        String bare = source.replaceAll("(?s)/\\*.*?\\*/", "").replaceAll("//[^\n]*", "");
        return bare.replaceAll("\"[^\"\n]*\"", "\"\"").replaceAll("'[^'\n]'", "' '");
    }

    private static void neverUsed(String code) {
        for (String word : NEVER) {
            boolean isName = Character.isLetter(word.charAt(0)) && Character.isLetter(word.charAt(word.length() - 1));
            Pattern p = Pattern.compile(isName ? "\\b" + Pattern.quote(word) + "\\b" : Pattern.quote(word));
            Due.holds("never used: " + word, !p.matcher(code).find());
        }
    }

    private static void imports(String code) {
        Matcher m = Pattern.compile("import ([^;]+);").matcher(code);
        while (m.find()) {
            Due.holds("import " + m.group(1), m.group(1).equals("java.util.Arrays"));
        }
    }

    // All calls of a run live in one room, so no call makes an object.
    private static void objectsMadeInConstructorsAlone(String code) {
        for (String line : code.split("\n")) {
            if (line.matches(".*\\bnew\\b.*")) {
                boolean isField = line.matches("    (    )?(private )?final .* = new .*;");
                boolean isOfConstructor = line.matches(" +(sheets\\[s\\]|pages\\[p\\]) = new (Sheet|Page)\\(\\);");
                Due.holds("made in a constructor:" + line, isField || isOfConstructor);
            }
        }
    }

    private static void methodLengths(String code) {
        String[] lines = code.split("\n");
        for (int i = 0; i < lines.length; i++) {
            Matcher m = Pattern.compile("( +)[a-z][^=]*\\) \\{").matcher(lines[i]);
            if (!m.matches()) {
                continue;
            }
            int end = i;
            while (end < lines.length && !lines[end].equals(m.group(1) + "}")) {
                end++;
            }
            Due.holds("short: " + lines[i].trim(), end - i < 60);
        }
    }
}
