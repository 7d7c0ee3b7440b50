import java.io.IOException;
import java.lang.reflect.Constructor;
import java.lang.reflect.Field;
import java.lang.reflect.Method;
import java.lang.reflect.Modifier;
import java.nio.file.Files;
import java.nio.file.Path;
import java.util.ArrayList;
import java.util.HashMap;
import java.util.List;
import java.util.Map;
import java.util.TreeSet;
import java.util.regex.Matcher;
import java.util.regex.Pattern;

/** The rules of LANGUAGE.md that can be seen by reading the source or by looking at the compiled class. */
public final class LanguageTest {
    private static final Path SOURCE = Path.of("src/main/java/SealCasts.java");
    private static final Path DOCUMENT = Path.of("../shared/DOC.md");
    private static final String[] FORBIDDEN = {"\\bthrows?\\b", "\\btry\\b", "\\bcatch\\b", "\\bsynchronized\\b",
        "\\bassert\\b", "\\bimport\\b", "\\bpackage\\b", "->", "::", "\\bvar\\b", "Exact\\b", "\\bwhile\\s*\\(true",
        "for\\s*\\(\\s*;\\s*;", "\\bnew\\s+\\w+\\s*\\([^)]*\\)\\s*\\{", "\\bstatic\\s*\\{", "\\bhashCode\\b",
        "\\btoString\\b", "[^\\x09-\\x7e]"};
    private static int wrong = 0;

    public static void main(String[] args) throws IOException {
        String source = Files.readString(SOURCE);
        String code = source.replaceAll("(?s)/\\*.*?\\*/", "").replaceAll("//.*", "");
        for (String pattern : FORBIDDEN) {
            Matcher matcher = Pattern.compile(pattern).matcher(code);
            must(!matcher.find(), "the source has " + pattern);
        }
        face();
        names();
        sizes();
        methodLengths(source);
        System.out.println("LanguageTest: " + (wrong == 0 ? "as due" : wrong + " rules are not kept"));
        if (wrong != 0) {
            System.exit(1);
        }
    }

    private static void must(boolean is, String otherwise) {
        if (!is) {
            wrong++;
            System.out.println(otherwise);
        }
    }

    /** The public members are those of the document, all others are private. */
    private static void face() throws IOException {
        String document = Files.readString(DOCUMENT);
        String block = document.substring(document.indexOf("```java"), document.indexOf("```", document.indexOf("```java") + 5));
        TreeSet<String> due = new TreeSet<>();
        Matcher matcher = Pattern.compile("public (\\w+) (\\w+)\\(([^)]*)\\);").matcher(block);
        while (matcher.find()) {
            due.add(matcher.group(1) + " " + matcher.group(2) + "(" + matcher.group(3).replaceAll(" \\w+(,|$)", "$1").replace(" ", "") + ")");
        }
        TreeSet<String> found = new TreeSet<>();
        for (Method method : SealCasts.class.getDeclaredMethods()) {
            if (!Modifier.isPrivate(method.getModifiers())) {
                must(Modifier.isPublic(method.getModifiers()), method + " is neither public nor private");
                List<String> types = new ArrayList<>();
                for (Class<?> type : method.getParameterTypes()) {
                    types.add(type.getSimpleName());
                }
                found.add(method.getReturnType().getSimpleName() + " " + method.getName() + "(" + String.join(",", types) + ")");
            }
        }
        must(due.size() == 51, "the document's face was not read: " + due.size());
        must(found.equals(due), "the face is " + found + ", due is " + due);
        for (Field field : SealCasts.class.getDeclaredFields()) {
            must(Modifier.isPrivate(field.getModifiers()) || field.getName().equals("NONE"), field + " is not private");
        }
        Constructor<?>[] constructors = SealCasts.class.getDeclaredConstructors();
        must(constructors.length == 1 && Modifier.isPublic(constructors[0].getModifiers()), "the constructor");
        must(Modifier.isFinal(SealCasts.class.getModifiers()), "the class is not final");
    }

    private static List<Class<?>> classes() {
        List<Class<?>> all = new ArrayList<>();
        all.add(SealCasts.class);
        all.addAll(List.of(SealCasts.class.getDeclaredClasses()));
        return all;
    }

    private static void names() {
        TreeSet<String> open = new TreeSet<>();
        for (Method method : SealCasts.class.getDeclaredMethods()) {
            if (Modifier.isPublic(method.getModifiers())) {
                open.add(method.getName());
            }
        }
        for (Class<?> each : classes()) {
            for (Method method : each.getDeclaredMethods()) {
                boolean isFace = each == SealCasts.class && Modifier.isPublic(method.getModifiers());
                must(isFace || !open.contains(method.getName()), method + " bears the name of a public one");
                must(method.getParameterCount() <= 7, method + " takes too much");
            }
        }
    }

    private static void sizes() {
        must(classes().size() <= 12, classes().size() + " classes");
        for (Class<?> each : classes()) {
            int fields = 0;
            for (Field field : each.getDeclaredFields()) {
                if (Modifier.isStatic(field.getModifiers())) {
                    must(Modifier.isFinal(field.getModifiers()), field + " is not final");
                } else {
                    fields++;
                }
            }
            must(fields <= 20, each + " has " + fields + " fields");
            must(each == SealCasts.class || Modifier.isStatic(each.getModifiers()), each + " is not static");
        }
    }

    private static void methodLengths(String source) {
        String[] lines = source.split("\n");
        Map<Integer, Integer> starts = new HashMap<>();
        for (int i = 0; i < lines.length; i++) {
            int indent = lines[i].length() - lines[i].stripLeading().length();
            must(lines[i].length() <= 120, "line " + (i + 1) + " is too long");
            if (lines[i].endsWith(") {") && (indent == 4 || indent == 8) && lines[i].matches("\\s+(\\w+ )*[\\w\\[\\]]+\\(.*")) {
                starts.put(indent, i);
            } else if (lines[i].strip().equals("}") && starts.containsKey(indent)) {
                must(i - starts.get(indent) <= 60, "the method at line " + (starts.get(indent) + 1) + " is too long");
                starts.remove(indent);
            }
        }
    }
}
