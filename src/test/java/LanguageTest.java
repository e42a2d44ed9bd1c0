import java.lang.reflect.Field;
import java.lang.reflect.Method;
import java.lang.reflect.Modifier;
import java.nio.file.Files;
import java.nio.file.Path;
import java.util.Set;
import java.util.TreeSet;
import java.util.regex.Matcher;
import java.util.regex.Pattern;

/** The public face as DOC.md tells it, and what can be seen of LANGUAGE.md's rules; run from the project's folder. */
public final class LanguageTest {
    private static final Path SOURCE = Path.of("src/main/java/DoorSchool.java");
    private static final Path DOCUMENT = Path.of("../shared/DOC.md");

    public static void main(String[] args) throws Exception {
        face();
        members();
        words();
        methods();
        Check.finish("LanguageTest");
    }

    private static void same(String of, Set<String> got, Set<String> want) {
        if (!got.equals(want)) {
            System.out.println("  " + of + ": " + got + "\n  due: " + want);
        }
        Check.due(of, got.equals(want) ? 1 : 0, 1);
    }

    private static void face() throws Exception {
        Set<String> want = new TreeSet<>();
        Matcher told = Pattern.compile("public (\\w+) (\\w+)\\((.*)\\);").matcher(Files.readString(DOCUMENT));
        while (told.find()) {
            want.add(told.group(1) + " " + told.group(2) + "(" + told.group(3).replaceAll(" \\w+(?=,|$)", "") + ")");
        }
        Set<String> got = new TreeSet<>();
        for (Method method : DoorSchool.class.getDeclaredMethods()) {
            if (!Modifier.isPrivate(method.getModifiers())) {
                StringBuilder types = new StringBuilder();
                for (Class<?> type : method.getParameterTypes()) {
                    types.append(types.length() == 0 ? "" : ", ").append(type.getName());
                }
                got.add(method.getReturnType().getName() + " " + method.getName() + "(" + types + ")");
                Check.due(method.getName() + " is public alone", method.getModifiers(), Modifier.PUBLIC);
            }
        }
        same("methods", got, want);
        Check.due("how many methods", got.size(), 64);
        Check.due("constructors", DoorSchool.class.getDeclaredConstructors().length, 1);
        Check.due("the constructor is public", DoorSchool.class.getConstructor().getModifiers(), Modifier.PUBLIC);
        Check.due("the class", DoorSchool.class.getModifiers(), Modifier.PUBLIC | Modifier.FINAL);
    }

    private static void members() {
        Set<String> open = new TreeSet<>();
        for (Field field : DoorSchool.class.getDeclaredFields()) {
            if (!Modifier.isPrivate(field.getModifiers())) {
                open.add(field.getName());
            }
        }
        same("constants", open, Set.of("NONE"));
        Set<String> names = new TreeSet<>();
        for (Method method : DoorSchool.class.getDeclaredMethods()) {
            if (Modifier.isPublic(method.getModifiers())) {
                names.add(method.getName());
            }
        }
        Check.due("names of public methods", names.size(), 64);
        for (Method method : DoorSchool.class.getDeclaredMethods()) {
            boolean taken = Modifier.isPrivate(method.getModifiers()) && names.contains(method.getName());
            Check.due(method + " has a name of its own", taken ? 1 : 0, 0);
        }
        for (Class<?> inside : DoorSchool.class.getDeclaredClasses()) {
            Check.due(inside + " is static", inside.getModifiers() & Modifier.STATIC, Modifier.STATIC);
            for (Method method : inside.getDeclaredMethods()) {
                Check.due(method + " has a name of its own", names.contains(method.getName()) ? 1 : 0, 0);
            }
            fieldsOf(inside);
        }
        fieldsOf(DoorSchool.class);
        Check.due("classes at most twelve", DoorSchool.class.getDeclaredClasses().length + 1 <= 12 ? 1 : 0, 1);
    }

    private static void fieldsOf(Class<?> of) {
        int own = 0;
        for (Field field : of.getDeclaredFields()) {
            if (Modifier.isStatic(field.getModifiers())) {
                Check.due(field + " is final", field.getModifiers() & Modifier.FINAL, Modifier.FINAL);
            } else {
                own++;
            }
        }
        Check.due("fields of " + of + " at most twenty", own <= 20 ? 1 : 0, 1);
    }

    private static void words() throws Exception {
        String text = Files.readString(SOURCE).replaceAll("(?s)/\\*.*?\\*/", "").replaceAll("//[^\n]*", "");
        String[] none = {"throw", "throws", "try", "catch", "synchronized", "assert", "package", "equals", "hashCode",
            "toString", "double", "float", "volatile", "native", "protected", "Exact", "Random", "nanoTime"};
        for (String word : none) {
            Check.due("'" + word + "' in the file", Pattern.compile("\\b" + word + "\\b").matcher(text).find() ? 1 : 0, 0);
        }
        Check.due("lambdas and references in the file", text.contains("->") || text.contains("::") ? 1 : 0, 0);
        Matcher imports = Pattern.compile("import ([\\w.]+);").matcher(text);
        while (imports.find()) {
            Check.due("import " + imports.group(1), imports.group(1).equals("java.util.Arrays") ? 1 : 0, 1);
        }
        // All rows are made in constructors: no call makes an object.
        Matcher made = Pattern.compile("(?m)^.*\\bnew\\b.*$").matcher(text);
        Pattern inConstructors = Pattern.compile("^ +(private final .*|(tape|reader|rules|learner|hanging|timetable|plan|spare"
                + "|images|imaged|slots|images\\[k\\]|slots\\[slot\\]|doors\\[door\\]) = new .*)$");
        while (made.find()) {
            Check.due(made.group(), inConstructors.matcher(made.group()).find() ? 1 : 0, 1);
        }
    }

    /** Rules 8 and 11: few parameters, short methods, and one that calls itself is private and static, its depth an argument. */
    private static void methods() throws Exception {
        Pattern head = Pattern.compile("( +)((?:private |public |static )*)[\\w<>\\[\\]]+ (\\w+)\\(([^)]*)\\) \\{");
        String[] lines = Files.readString(SOURCE).split("\n");
        int found = 0;
        for (int i = 0; i < lines.length; i++) {
            Matcher method = head.matcher(lines[i]);
            if (!method.matches() || method.group(2).isEmpty()) {
                continue;
            }
            StringBuilder body = new StringBuilder();
            int end = i + 1;
            while (!lines[end].equals(method.group(1) + "}")) {
                body.append(lines[end]).append('\n');
                end++;
            }
            found++;
            String name = method.group(3);
            Check.due(name + "() has at most 60 lines", end - i + 1 <= 60 ? 1 : 0, 1);
            Check.due(name + "() has at most seven parameters", method.group(4).split(",").length <= 7 ? 1 : 0, 1);
            boolean again = Pattern.compile("(?<![.\\w])" + name + "\\(").matcher(body).find();
            if (again) {
                Check.due(name + "() calls itself and is private and static", method.group(2).equals("private static ") ? 1 : 0, 1);
                boolean guarded = body.toString().contains(" >= MOST_") && body.toString().contains(" + 1, ");
                Check.due(name + "() carries its depth", guarded ? 1 : 0, 1);
            }
        }
        Check.due("methods seen", found >= 150 ? 1 : 0, 1);
    }
}
