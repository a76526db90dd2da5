import java.io.IOException;
import java.lang.reflect.Constructor;
import java.lang.reflect.Field;
import java.lang.reflect.Method;
import java.lang.reflect.Modifier;
import java.nio.file.Files;
import java.nio.file.Path;
import java.util.ArrayList;
import java.util.Arrays;
import java.util.List;
import java.util.Set;
import java.util.TreeSet;
import java.util.regex.Matcher;
import java.util.regex.Pattern;

/** The public face, and those rules of LANGUAGE.md that can be seen in the class or its text. */
public final class LanguageTest {
    private static final String FACE = "feed(IIIII) end(I) system() policy() fault(I) rule(I) sign(II) term(I) about(II)"
            + " alike(I) candidate(I) choose(I) chosen() saves(I) adopt(I) joins(IIZ) beside(III) clear() say(I)"
            + " phrased() phrase(I) dictate(II) taken(I) note(II) reads(II) readBack() back(I) wrong() lessons(I)"
            + " lesson(I) mark(IIIII) right(IIII) grade(III) count(I)";
    private static final Set<String> IMPORTS = Set.of("java.util.Arrays", "java.util.ArrayList", "java.util.List",
            "java.util.Iterator");

    private LanguageTest() {
    }

    public static void main(String[] args) throws IOException {
        face();
        classes();
        text(Files.readString(Path.of(args.length > 0 ? args[0] : "src/main/java/PenSchool.java")));
        Check.finish("LanguageTest");
    }

    private static void face() {
        Check.holds("the class is public and final", Modifier.isPublic(PenSchool.class.getModifiers())
                && Modifier.isFinal(PenSchool.class.getModifiers()));
        Set<String> found = new TreeSet<>();
        for (Method m : PenSchool.class.getDeclaredMethods()) {
            if (!Modifier.isPrivate(m.getModifiers())) {
                StringBuilder parameters = new StringBuilder();
                for (Class<?> p : m.getParameterTypes()) {
                    parameters.append(p.descriptorString());
                }
                found.add(m.getName() + "(" + parameters + ")");
                Check.holds(m + " is public, not static, and answers an int", Modifier.isPublic(m.getModifiers())
                        && !Modifier.isStatic(m.getModifiers()) && m.getReturnType() == int.class);
            }
        }
        Check.holds("the methods are those of the document: " + found, found.equals(new TreeSet<>(
                Arrays.asList(FACE.split(" ")))));
        Constructor<?>[] constructors = PenSchool.class.getDeclaredConstructors();
        Check.holds("one public constructor without parameters", constructors.length == 1
                && Modifier.isPublic(constructors[0].getModifiers()) && constructors[0].getParameterCount() == 0);
        List<String> constants = new ArrayList<>();
        for (Field f : PenSchool.class.getDeclaredFields()) {
            if (!Modifier.isPrivate(f.getModifiers())) {
                constants.add(f.getName());
            }
        }
        Check.holds("the constants: " + constants, constants.equals(List.of("NONE", "RANGE", "FULL", "STATE")));
        Check.due("NONE", PenSchool.NONE, -1);
        Check.due("RANGE", PenSchool.RANGE, -2);
        Check.due("FULL", PenSchool.FULL, -3);
        Check.due("STATE", PenSchool.STATE, -4);
    }

    private static void classes() {
        List<Class<?>> all = new ArrayList<>(Arrays.asList(PenSchool.class.getDeclaredClasses()));
        all.add(PenSchool.class);
        Check.holds("at most twelve classes: " + all.size(), all.size() <= 12);
        for (Class<?> c : all) {
            if (c != PenSchool.class) {
                Check.holds(c + " is static", Modifier.isStatic(c.getModifiers()));
                Check.holds(c + " is not public", !Modifier.isPublic(c.getModifiers()));
                Check.due(c + " has classes inside", c.getDeclaredClasses().length, 0);
            }
            fields(c);
            for (Method m : c.getDeclaredMethods()) {
                Check.holds(m + " has at most seven parameters", m.getParameterCount() <= 7);
                boolean isFace = c == PenSchool.class && Modifier.isPublic(m.getModifiers());
                Check.holds(m + " has no name of the face", isFace || !(" " + FACE).contains(" " + m.getName() + "("));
            }
        }
    }

    private static void fields(Class<?> c) {
        int own = 0;
        for (Field f : c.getDeclaredFields()) {
            if (Modifier.isStatic(f.getModifiers())) {
                Check.holds(f + " is final", Modifier.isFinal(f.getModifiers()));
            } else {
                own++;
            }
        }
        Check.holds(c + " has at most twenty fields: " + own, own <= 20);
    }

    private static void text(String source) {
        String code = source.replaceAll("(?s)/\\*.*?\\*/", "").replaceAll("//[^\n]*", "")
                .replaceAll("\"[^\"\n]*\"", "\"\"").replaceAll("'[^'\n]+'", "' '");
        Matcher banned = Pattern.compile("\\b(throw|throws|try|catch|synchronized|assert|package|var|yield|record"
                + "|hashCode|toString|System\\.(?!arraycopy)\\w+|Math\\.\\w*Exact|Thread|Object)\\b|->|::|\\bstatic\\s*\\{")
                .matcher(code);
        while (banned.find()) {
            Check.holds("no '" + banned.group() + "' in the text", false);
        }
        Matcher imports = Pattern.compile("import\\s+([\\w.*]+)\\s*;").matcher(code);
        while (imports.find()) {
            Check.holds("import " + imports.group(1), IMPORTS.contains(imports.group(1)));
        }
        for (char c : source.toCharArray()) {
            if (c > 126 || c < 32 && c != '\n') {
                Check.holds("no sign " + (int) c + " in the text", false);
            }
        }
        methodLengths(source.split("\n"));
    }

    /** By the indents: a method begins behind four or eight blanks and ends with a brace there. */
    private static void methodLengths(String[] lines) {
        for (int i = 0; i < lines.length; i++) {
            Matcher head = Pattern.compile("( {4}| {8})[\\w].*\\).*\\{").matcher(lines[i]);
            if (head.matches()) {
                int end = i;
                while (end < lines.length && !lines[end].equals(head.group(1) + "}")) {
                    end++;
                }
                Check.holds("at most sixty lines: " + lines[i].trim(), end - i < 60);
            }
        }
    }
}
