import java.lang.reflect.Field;
import java.lang.reflect.Member;
import java.lang.reflect.Method;
import java.lang.reflect.Modifier;
import java.nio.file.Files;
import java.nio.file.Path;
import java.util.ArrayList;
import java.util.List;
import java.util.Set;
import java.util.TreeSet;
import java.util.regex.Matcher;
import java.util.regex.Pattern;

/** The face as the document writes it, and what of ../shared/LANGUAGE.md a machine can look at. Wants the two files. */
public final class LanguageTest {
    private static final Path SOURCE = Path.of("src/main/java/PointShares.java");

    public static void main(String[] args) throws Exception {
        List<String> face = faceOf(Path.of(args[0]));
        Check.about("the face");
        Check.due("lines of the face in the document", face.size(), 41);
        face();
        members(face);
        nested();
        words();
        library();
        methods();
        interfaceHeadings();
        Check.end("LanguageTest");
    }

    private static void must(String what, boolean holds) {
        Check.due(what, holds ? 1 : 0, 1);
    }

    /** The declarations between the class line of the document and its end. */
    private static List<String> faceOf(Path document) throws Exception {
        List<String> face = new ArrayList<>();
        boolean isIn = false;
        for (String line : Files.readAllLines(document)) {
            if (line.startsWith("public final class PointShares")) {
                isIn = true;
            } else if (line.equals("}")) {
                isIn = false;
            } else if (isIn) {
                face.add(line.trim().replace(";", ""));
            }
        }
        return face;
    }

    private static void face() {
        must("PointShares is public and final",
            Modifier.isPublic(PointShares.class.getModifiers()) && Modifier.isFinal(PointShares.class.getModifiers()));
        must("one constructor", PointShares.class.getDeclaredConstructors().length == 1);
    }

    private static void members(List<String> face) throws Exception {
        Set<String> want = new TreeSet<>();
        for (String line : face) {
            Matcher m = Pattern.compile("public (int|long) (\\w+)\\((.*)\\)").matcher(line);
            if (m.matches()) {
                want.add(m.group(1) + " " + m.group(2) + "(" + m.group(3).replaceAll(" \\w+(,|$)", "$1") + ")");
            }
        }
        Set<String> got = new TreeSet<>();
        Set<String> hidden = new TreeSet<>();
        for (Method m : PointShares.class.getDeclaredMethods()) {
            if (!Modifier.isPrivate(m.getModifiers())) {
                must(m.getName() + " is public", Modifier.isPublic(m.getModifiers()));
                StringBuilder types = new StringBuilder();
                for (Class<?> type : m.getParameterTypes()) {
                    types.append(types.length() > 0 ? ", " : "").append(type.getName());
                }
                got.add(m.getReturnType().getName() + " " + m.getName() + "(" + types + ")");
            } else {
                hidden.add(m.getName());
            }
        }
        Check.due("methods of the document", want.size(), 38);
        must("the methods are those of the document: " + got + " against " + want, got.equals(want));
        for (String line : want) {
            String name = line.replaceAll("^\\w+ |\\(.*", "");
            must("no private method is named " + name, !hidden.contains(name));
        }
        int constants = 0;
        for (Field f : PointShares.class.getDeclaredFields()) {
            constants += Modifier.isPrivate(f.getModifiers()) ? 0 : 1;
            must(f.getName() + " is private, or public and constant", isHiddenOrConstant(f));
            must(f.getName() + " is final if static", !Modifier.isStatic(f.getModifiers()) || isFinal(f));
        }
        Check.due("constants", constants, 5);
    }

    private static boolean isFinal(Member m) {
        return Modifier.isFinal(m.getModifiers());
    }

    private static boolean isHiddenOrConstant(Field f) {
        int m = f.getModifiers();
        return Modifier.isPrivate(m) || Modifier.isPublic(m) && Modifier.isStatic(m) && Modifier.isFinal(m);
    }

    private static void nested() {
        Check.about("classes inside");
        Class<?>[] inside = PointShares.class.getDeclaredClasses();
        must("twelve at most", inside.length <= 12);
        for (Class<?> c : inside) {
            must(c.getName() + " is static", Modifier.isStatic(c.getModifiers()));
            must(c.getName() + " isn't public", !Modifier.isPublic(c.getModifiers()));
            int fields = 0;
            for (Field f : c.getDeclaredFields()) {
                fields += Modifier.isStatic(f.getModifiers()) ? 0 : 1;
                must("a static " + f + " is final", !Modifier.isStatic(f.getModifiers()) || isFinal(f));
            }
            must(c.getName() + " has twenty fields at most", fields <= 20);
        }
    }

    /** The source without what stands in comments and texts. */
    private static String code() throws Exception {
        String all = Files.readString(SOURCE);
        return all.replaceAll("(?s)/\\*.*?\\*/", "").replaceAll("//[^\n]*", "").replaceAll("\"[^\"\n]*\"", "\"\"");
    }

    private static void words() throws Exception {
        Check.about("words that LANGUAGE.md leaves out");
        String code = code();
        String[] out = {"throw", "throws", "try", "catch", "finally", "synchronized", "assert", "import (?!java\\.util\\.)", "package",
            "protected", "Object", "System\\.(?!arraycopy)", "Thread", "volatile", "transient", "native", "strictfp",
            "hashCode", "toString", "Exact", "var", "yield", "this\\(", "static \\{", "->", "::",
            "Double", "Float"};
        for (String word : out) {
            String pattern = Character.isLetter(word.charAt(0)) ? "\\b" + word : word;
            pattern += Character.isLetter(word.charAt(word.length() - 1)) ? "\\b" : "";
            must("'" + word + "' stands nowhere", !Pattern.compile(pattern).matcher(code).find());
        }
        must("all signs are 1 to 127", Files.readString(SOURCE).chars().allMatch(c -> c > 0 && c < 128));
        must("no line has a tab or is longer than 120",
            Files.readAllLines(SOURCE).stream().allMatch(l -> l.length() <= 120 && l.indexOf('\t') < 0));
        must("'new' stands only where fields begin and in constructors", newOutsideOfFields(code) == 0);
    }

    /** Rule 4: of the library only the static functions that it lists. */
    private static void library() throws Exception {
        Check.about("the library");
        Pattern listed = Pattern.compile("System\\.arraycopy|Arrays\\.(copyOf|copyOfRange|fill)|List\\.of"
            + "|(Integer|Long|Math)\\.(?!\\w*Exact|random|parse|valueOf|toString|decode)\\w+");
        Set<String> own = new TreeSet<>(List.of("PointShares"));
        for (Class<?> c : PointShares.class.getDeclaredClasses()) {
            own.add(c.getSimpleName());
        }
        int seen = 0;
        Matcher m = Pattern.compile("\\b([A-Z]\\w*)\\.(\\w+)\\(").matcher(code());
        while (m.find()) {
            seen++;
            String call = m.group(1) + "." + m.group(2);
            must(call + " is listed", own.contains(m.group(1)) || listed.matcher(call).matches());
        }
        must("calls of the library were seen", seen > 0);
    }

    /** Calls make no objects: 'new' stands behind '=' of a field, or in a constructor. */
    private static int newOutsideOfFields(String code) {
        int many = 0;
        String within = "";
        for (String line : code.split("\n")) {
            Matcher head = Pattern.compile(" {4,8}((?:\\w+(?:\\[\\])* )*)(\\w+)\\(.*\\) \\{").matcher(line);
            if (head.matches()) {
                within = head.group(1).replace("public ", "").isEmpty() ? "" : head.group(2);
            }
            boolean isField = Pattern.compile("^ {4,8}(private |static |final )+.* = new ").matcher(line).find();
            if (line.contains("new ") && !isField && !within.isEmpty()) {
                System.out.println("in " + within + ": " + line.trim());
                many++;
            }
        }
        return many;
    }

    private static void methods() throws Exception {
        Check.about("methods");
        String[] lines = code().split("\n");
        int from = -1;
        int seen = 0;
        for (int k = 0; k < lines.length; k++) {
            Matcher head = Pattern.compile(" {4,8}(?:\\w+(?:\\[\\])* )+\\w+\\((.*)\\) \\{").matcher(lines[k]);
            if (head.matches()) {
                from = k;
                seen++;
                must("seven parameters at most: " + lines[k].trim(), head.group(1).split(",").length <= 7);
            } else if (from >= 0 && lines[k].matches(" {4}(?: {4})?\\}")) {
                must("sixty lines at most: " + lines[from].trim(), k - from < 60);
                from = -1;
            }
        }
        must("methods were seen", seen > 60);
    }

    private static void interfaceHeadings() throws Exception {
        Check.about("the headings of the face");
        String[][] groups = {
            {"parties, things, points", "parties thing point of hold split settle feed read"},
            {"the division", "holder held share claim better told all"},
            {"adjusted, fairest", "adjusted alike parted ratio fair fairest"},
            {"seen, odds", "see fits odds mean"},
            {"events, books", "event after book looked"},
            {"judging, the image, tapes", "judge image undo count tape item peek shift"}};
        String all = Files.readString(SOURCE);
        int at = 0;
        for (String[] group : groups) {
            at = all.indexOf("// ---- " + group[0] + ".", at);
            must("the heading " + group[0] + " stands where it should", at >= 0);
            for (String name : group[1].split(" ")) {
                Matcher m = Pattern.compile("    public (int|long) " + name + "\\(").matcher(all);
                must(name + " stands behind its heading, in order", at >= 0 && m.find(at));
                at = at >= 0 && m.find(at) ? m.start() : -1;
            }
        }
    }
}
