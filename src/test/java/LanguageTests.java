import java.io.IOException;
import java.lang.reflect.Constructor;
import java.lang.reflect.Field;
import java.lang.reflect.Method;
import java.lang.reflect.Modifier;
import java.nio.file.Files;
import java.nio.file.Path;
import java.util.ArrayList;
import java.util.List;
import java.util.Set;
import java.util.TreeSet;
import java.util.regex.Matcher;
import java.util.regex.Pattern;

/** Looks for what LANGUAGE.md rules out, and whether the class has the document's face and nothing else. */
public final class LanguageTests {
    private static final Checks CHECKS = new Checks();
    private static final Path SOURCE = Path.of("src/main/java/CalculatedSheet.java");
    private static final Path DOCUMENT = Path.of("../shared/DOC.md");
    private static final String[] BANNED = {"\\bpackage\\b", "\\bimport\\b", "->", "::", "@", "\\bsynchronized\\b",
        "\\bassert\\b", "\\bfinally\\b", "\\btry\\b", "\\bcatch\\b", "\\bSystem\\.(?!arraycopy)", "\\bThread\\b",
        "\\bvar\\b", "\\bprotected\\b", "\\bhashCode\\b", "\\btoString\\b", "\\w+Exact\\b", "\\b(Integer|Long)\\.M",
        "\\bObject\\b", "\"\\s*\\+", "\\+\\s*\"", "\\+=\\s*\"", "\\b(float|Float|Double|Random|Scanner|Map|Set)\\b"};

    private LanguageTests() {
    }

    public static void main(String[] args) throws IOException {
        String source = Files.readString(SOURCE);
        String code = source.replaceAll("(?s)/\\*.*?\\*/", "").replaceAll("//.*", "");
        CHECKS.about("the source");
        for (String banned : BANNED) {
            Matcher found = Pattern.compile(banned).matcher(code);
            CHECKS.no(found.find(), "has " + banned);
        }
        CHECKS.yes(source.chars().allMatch(sign -> sign == '\n' || sign >= 32 && sign < 127), "plain signs only");
        methodsAreShort(code);
        face(Files.readString(DOCUMENT));
        classes();
        CHECKS.end();
    }

    private static void methodsAreShort(String code) {
        String[] lines = code.split("\n");
        int start = -1;
        String end = "";
        for (int line = 0; line < lines.length; line++) {
            Matcher head = Pattern.compile("^( +)[\\w\\[\\] ]+\\([^;]*\\{$").matcher(lines[line]);
            if (head.find() && (head.group(1).length() == 4 || head.group(1).length() == 8) && start < 0
                && !lines[line].matches(" +(if|for|while|switch|else).*")) {
                start = line;
                end = head.group(1) + "}";
            } else if (start >= 0 && lines[line].equals(end)) {
                CHECKS.yes(line - start < 60, "short enough: " + lines[start].trim());
                start = -1;
            }
        }
    }

    /** The lines of the document's face, compared with what the class has. */
    private static void face(String document) {
        CHECKS.about("the face");
        String part = document.substring(document.indexOf("## The public face"), document.indexOf("## Terms"));
        Set<String> due = new TreeSet<>();
        Matcher line = Pattern.compile("public (?!final)(.*);").matcher(part);
        while (line.find()) {
            due.add(line.group(1).replaceAll("(int|long|boolean|double) \\w+(?=[,)])", "$1"));
        }
        Set<String> got = new TreeSet<>();
        for (Constructor<?> one : CalculatedSheet.class.getConstructors()) {
            got.add("CalculatedSheet(" + types(one.getParameterTypes()) + ")" + thrown(one.getExceptionTypes()));
        }
        for (Method one : CalculatedSheet.class.getDeclaredMethods()) {
            if (Modifier.isPublic(one.getModifiers())) {
                got.add(one.getReturnType() + " " + one.getName() + "(" + types(one.getParameterTypes()) + ")"
                    + thrown(one.getExceptionTypes()));
            } else {
                CHECKS.yes(Modifier.isPrivate(one.getModifiers()), one.getName() + " is private");
            }
        }
        CHECKS.yes(due.size() > 50, "the document has a face");
        CHECKS.due(due, got, "the face");
        CHECKS.yes(Modifier.isFinal(CalculatedSheet.class.getModifiers()), "the class is final");
    }

    private static String types(Class<?>[] types) {
        List<String> names = new ArrayList<>();
        for (Class<?> type : types) {
            names.add(type.getName());
        }
        return String.join(", ", names);
    }

    private static String thrown(Class<?>[] types) {
        List<String> names = new ArrayList<>();
        for (Class<?> type : types) {
            names.add(type.getSimpleName());
        }
        return names.isEmpty() ? "" : " throws " + String.join(", ", names);
    }

    private static void classes() {
        CHECKS.about("the classes");
        Set<String> faceNames = new TreeSet<>();
        for (Method one : CalculatedSheet.class.getMethods()) {
            faceNames.add(one.getName());
        }
        List<Class<?>> all = new ArrayList<>(List.of(CalculatedSheet.class.getDeclaredClasses()));
        CHECKS.yes(all.size() < 12, "few classes: " + all.size());
        for (Class<?> type : all) {
            CHECKS.yes(Modifier.isStatic(type.getModifiers()), type + " is static");
            CHECKS.no(Modifier.isPublic(type.getModifiers()), type + " is not public");
            for (Method one : type.getDeclaredMethods()) {
                CHECKS.no(faceNames.contains(one.getName()), type + "." + one.getName() + " bears a name of the face");
            }
        }
        all.add(CalculatedSheet.class);
        for (Class<?> type : all) {
            int fields = 0;
            for (Field one : type.getDeclaredFields()) {
                boolean isStatic = Modifier.isStatic(one.getModifiers());
                fields += isStatic ? 0 : 1;
                CHECKS.yes(!isStatic || Modifier.isFinal(one.getModifiers()), one + " is final");
                CHECKS.no(type == CalculatedSheet.class && !Modifier.isPrivate(one.getModifiers()), one + " is private");
            }
            CHECKS.yes(fields <= 20, "few fields: " + type);
            for (Method one : type.getDeclaredMethods()) {
                CHECKS.yes(one.getParameterCount() <= 7, "few parameters: " + one);
            }
        }
    }
}
