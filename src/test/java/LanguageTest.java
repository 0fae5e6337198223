import java.io.IOException;
import java.lang.reflect.Constructor;
import java.lang.reflect.Executable;
import java.lang.reflect.Field;
import java.lang.reflect.Method;
import java.lang.reflect.Modifier;
import java.nio.file.Files;
import java.nio.file.Path;
import java.util.Arrays;
import java.util.Set;
import java.util.TreeSet;
import java.util.regex.Matcher;
import java.util.regex.Pattern;

/** The public face, and those rules of ../shared/LANGUAGE.md that can be seen from outside or in the text. */
public final class LanguageTest {
    private static final String[] FACE = {
        "turn int int int", "sea int int", "wave int int int", "waved int int int", "set int int int",
        "pool int int int int int int int int", "dirt boolean int int int", "crack int int int int", "mend int int",
        "sluice boolean int boolean", "pump int int int", "clean int int", "pass int int", "about int int int",
        "hour int int int int", "feed int int int int int int", "end int int", "rules int", "test int int int int",
        "closed int int int int", "open int int int int", "free boolean int int boolean", "low int int int",
        "plan int int int int int int", "planned int int", "race int int int int int int int int",
        "night int int int int int", "suspect int int int int", "cause int int", "causes int int int", "look int",
        "lease int int int int int", "due int int int", "pay int int", "count int int"};
    private static final Check CHECK = new Check();

    public static void main(String[] args) throws IOException {
        face();
        classesInside();
        text(Files.readString(Path.of("src/main/java/PoolCoast.java")));
        CHECK.finish();
    }

    private static void due(String what, long got, long want) {
        CHECK.due(what, got, want);
    }

    private static void face() {
        Class<?> c = PoolCoast.class;
        due("public and final", c.getModifiers(), Modifier.PUBLIC | Modifier.FINAL);
        Set<String> methods = new TreeSet<>();
        Set<String> names = new TreeSet<>();
        for (Method m : c.getDeclaredMethods()) {
            if (!Modifier.isPrivate(m.getModifiers()) && !m.isSynthetic()) {
                due(m.getName() + " is public alone", m.getModifiers(), Modifier.PUBLIC);
                StringBuilder b = new StringBuilder(m.getName()).append(' ').append(m.getReturnType());
                for (Class<?> type : m.getParameterTypes()) {
                    b.append(' ').append(type);
                }
                methods.add(b.toString());
                names.add(m.getName());
            }
        }
        due("the methods of the document", methods.equals(new TreeSet<>(Arrays.asList(FACE))) ? 1 : 0, 1);
        due("one constructor", c.getDeclaredConstructors().length, 1);
        due("fields that are not private", Arrays.stream(c.getDeclaredFields())
            .filter(f -> !Modifier.isPrivate(f.getModifiers()) && !f.isSynthetic()).count(), 1);
        privateNames(c, names);
        for (Class<?> inner : c.getDeclaredClasses()) {
            privateNames(inner, names);
        }
    }

    private static void privateNames(Class<?> c, Set<String> names) {
        for (Method m : c.getDeclaredMethods()) {
            boolean publicOne = Modifier.isPublic(m.getModifiers());
            due(m + " bears a public one's name", !publicOne && names.contains(m.getName()) ? 1 : 0, 0);
            few(m);
        }
        for (Constructor<?> k : c.getDeclaredConstructors()) {
            few(k);
        }
        int fields = 0;
        for (Field f : c.getDeclaredFields()) {
            boolean isStatic = Modifier.isStatic(f.getModifiers());
            due(f + " is static and not final", isStatic && !Modifier.isFinal(f.getModifiers()) ? 1 : 0, 0);
            fields += isStatic ? 0 : 1;
        }
        due("too many fields in " + c, fields > 20 ? fields : 0, 0);
    }

    private static void few(Executable e) {
        due("too many parameters of " + e, e.getParameterCount() > 7 ? e.getParameterCount() : 0, 0);
    }

    private static void classesInside() {
        Class<?>[] inside = PoolCoast.class.getDeclaredClasses();
        due("more than twelve classes", inside.length > 11 ? inside.length : 0, 0);
        for (Class<?> c : inside) {
            due(c + " is static", Modifier.isStatic(c.getModifiers()) ? 1 : 0, 1);
            due(c + " is hidden", c.getModifiers() & (Modifier.PUBLIC | Modifier.PROTECTED), 0);
            due(c + " has classes inside", c.getDeclaredClasses().length, 0);
        }
    }

    private static void text(String source) {
        String bare = source.replaceAll("(?s)/\\*.*?\\*/", "").replaceAll("//[^\n]*", "").replaceAll("\"[^\"\n]*\"", "\"\"");
        for (String word : new String[] {"throw", "throws", "try", "catch", "finally", "synchronized", "assert",
            "instanceof", "package", "enum", "interface", "double", "float", "Object", "System.out", "Thread", "var",
            "NaN", "hashCode", "toString", "random", "nanoTime", "currentTimeMillis", "volatile", "native"}) {
            boolean there = Pattern.compile("(?<![A-Za-z])" + Pattern.quote(word) + "(?![A-Za-z])").matcher(bare).find();
            due("the word " + word, there ? 1 : 0, 0);
        }
        due("lambdas and method references", bare.contains("->") || bare.contains("::") ? 1 : 0, 0);
        due("names that end in Exact", bare.contains("Exact") ? 1 : 0, 0);
        due("static blocks", Pattern.compile("static\\s*\\{").matcher(bare).find() ? 1 : 0, 0);
        due("other signs than ASCII", source.chars().filter(c -> c > 126 || c < 32 && c != '\n').count(), 0);
        Matcher imports = Pattern.compile("(?m)^import (.*);").matcher(source);
        while (imports.find()) {
            due("import " + imports.group(1), imports.group(1).equals("java.util.Arrays") ? 1 : 0, 1);
        }
        methodLengths(source);
        arrayPlaces(bare);
    }

    private static void methodLengths(String source) {
        String start = null;
        int lines = 0;
        int longest = 0;
        for (String line : source.split("\n")) {
            int indent = line.length() - line.stripLeading().length();
            if (start == null && (indent == 4 || indent == 8) && line.endsWith(") {") && !line.contains(" class ")) {
                start = " ".repeat(indent) + "}";
                lines = 0;
            }
            lines++;
            if (start != null && line.equals(start)) {
                longest = Math.max(longest, lines);
                start = null;
            }
        }
        due("methods of more than 60 lines", longest > 60 ? longest : 0, 0);
        due("methods were found", longest > 10 ? 1 : 0, 1);
    }

    /** Rows of numbers are read and written by at() and put() alone, but where the place is tested in the same lines. */
    private static void arrayPlaces(String bare) {
        Set<String> seen = new TreeSet<>();
        Matcher m = Pattern.compile("[A-Za-z]+\\[[a-zA-Z][^\\]]*\\]").matcher(bare);
        while (m.find()) {
            seen.add(m.group());
        }
        seen.removeIf(each -> each.startsWith("int["));
        Set<String> tested = new TreeSet<>(Arrays.asList("row[place]", "pools[poolCount]", "pools[p]", "pools[number]",
            "leases[leaseCount]", "leases[number]", "rulings[rulingCount]", "rulings[i]", "bytes[place]", "code[i]",
            "Pool[POOLS_MOST]", "Ruling[RULES_MOST]", "Lease[LEASES_MOST]"));
        seen.removeAll(tested);
        due("places that no one has looked at: " + seen, seen.size(), 0);
    }
}
