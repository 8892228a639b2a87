import java.lang.reflect.Constructor;
import java.lang.reflect.Field;
import java.lang.reflect.Member;
import java.lang.reflect.Method;
import java.lang.reflect.Modifier;
import java.nio.file.Files;
import java.nio.file.Path;
import java.util.ArrayList;
import java.util.Arrays;
import java.util.List;
import java.util.TreeSet;
import java.util.regex.Matcher;
import java.util.regex.Pattern;

/** The public face of the document, and rules of LANGUAGE.md that the source shows. */
public final class RulesTest {
    private static final String[] METHODS = {"reset 1", "addMove 5", "addHold 2", "addTurn 3",
        "addRelease 3", "removeSign 1", "copyPhrase 5", "setLeap 1", "lay 0", "undo 0", "count 1",
        "sign 2", "signAt 2", "bears 1", "toldTwice 1", "isFaulty 1", "nextFault 1", "beats 1",
        "leastLeap 0", "covered 2", "floor 2", "home 0", "farthest 0", "alike 4", "type 1",
        "clearText 0", "fault 0"};
    private static final String[] CONSTANTS = {"INVALID_ARGUMENT", "NOT_POSSIBLE",
        "LIMIT_REACHED", "NOT_FOUND"};
    private static final String[] FORBIDDEN = {"\\bthrow\\b", "\\bthrows\\b", "\\btry\\b",
        "\\bcatch\\b", "\\bsynchronized\\b", "\\bassert\\b", "->", "::", "\\bnull\\b",
        "\\bpackage\\b", "\\bpublic (?!(static final int|final class|int|LimbScore\\())",
        "\\bprotected\\b", "\\bSystem\\.(?!arraycopy)", "\\bnative\\b", "Exact\\b", "\\bwhile \\(true",
        "\\bimport (?!java\\.util\\.Arrays;)"};

    public static void main(String[] args) throws Exception {
        face();
        sizes();
        source(Files.readString(Path.of("src/main/java/LimbScore.java")));
        Due.end();
    }

    private static void face() {
        Class<LimbScore> face = LimbScore.class;
        Due.is("public and final", face.getModifiers() & (Modifier.PUBLIC | Modifier.FINAL),
                Modifier.PUBLIC | Modifier.FINAL);
        List<String> open = new ArrayList<>();
        for (Method method : face.getDeclaredMethods()) {
            if (isOpen(method)) {
                open.add(method.getName() + " " + method.getParameterCount());
                Due.is(method + " answers an int", method.getReturnType() == int.class ? 1 : 0, 1);
                Due.is(method + " is public", method.getModifiers(), Modifier.PUBLIC);
            }
        }
        for (Field field : face.getDeclaredFields()) {
            if (isOpen(field)) {
                open.add(field.getName());
            }
        }
        for (Constructor<?> constructor : face.getDeclaredConstructors()) {
            Due.is("the constructor is public", constructor.getModifiers(), Modifier.PUBLIC);
            Due.is("the constructor takes nothing", constructor.getParameterCount(), 0);
        }
        List<String> due = new ArrayList<>(Arrays.asList(METHODS));
        due.addAll(Arrays.asList(CONSTANTS));
        Due.is("the face is " + new TreeSet<>(open),
                new TreeSet<>(open).equals(new TreeSet<>(due)) ? open.size() : 0, 31);
        for (Class<?> inside : face.getDeclaredClasses()) {
            Due.is(inside + " is static", Modifier.isStatic(inside.getModifiers()) ? 1 : 0, 1);
            privateNames(inside);
        }
    }

    private static boolean isOpen(Member member) {
        return !Modifier.isPrivate(member.getModifiers()) && !member.isSynthetic();
    }

    private static void privateNames(Class<?> inside) {
        for (Method method : inside.getDeclaredMethods()) {
            for (String name : METHODS) {
                Due.is(inside + " names " + method.getName(),
                        name.startsWith(method.getName() + " ") ? 1 : 0, 0);
            }
        }
    }

    /** Rules 3, 5 and 11: kinds of fields, and how many classes, fields and parameters. */
    private static void sizes() {
        List<Class<?>> classes =
                new ArrayList<>(Arrays.asList(LimbScore.class.getDeclaredClasses()));
        classes.add(LimbScore.class);
        Due.is("at most twelve classes: " + classes, classes.size() <= 12 ? 1 : 0, 1);
        for (Class<?> one : classes) {
            int fields = 0;
            for (Field field : one.getDeclaredFields()) {
                boolean isStatic = Modifier.isStatic(field.getModifiers());
                fields += isStatic ? 0 : 1;
                Due.is(field + " is final, if static",
                        !isStatic || Modifier.isFinal(field.getModifiers()) ? 1 : 0, 1);
                Due.is(field + " is of a kind that may be", isKind(field.getType(), classes), 1);
            }
            Due.is(one + " has at most twenty fields", fields <= 20 ? 1 : 0, 1);
            for (Method method : one.getDeclaredMethods()) {
                Due.is(method + " takes at most seven", method.getParameterCount() <= 7 ? 1 : 0, 1);
            }
        }
    }

    private static int isKind(Class<?> type, List<Class<?>> own) {
        return type == int.class || type == int[].class || own.contains(type) ? 1 : 0;
    }

    /** Rule 4: of the library only what stands there, as far as this class needs it. */
    private static void library(String code) {
        List<String> allowed = Arrays.asList("Math.max", "Math.min", "Math.abs", "Math.floorMod",
                "Arrays.fill", "System.arraycopy");
        List<String> own = Arrays.asList("Sign");
        Matcher matcher = Pattern.compile("\\b([A-Z]\\w*)\\.([a-z]\\w*)\\(").matcher(code);
        while (matcher.find()) {
            String call = matcher.group(1) + "." + matcher.group(2);
            Due.is(call + " may be called",
                    own.contains(matcher.group(1)) || allowed.contains(call) ? 1 : 0, 1);
        }
        Due.is("no text is used", code.contains("\"") || code.contains("String") ? 1 : 0, 0);
    }

    /** Rule 11: a method has at most some sixty lines. */
    private static void methodLengths(String[] lines) {
        int methods = 0;
        for (int from = 0; from < lines.length; from++) {
            String indent = lines[from].startsWith("        ") ? "        " : "    ";
            boolean isHead = lines[from].matches("(    |        )[a-zA-Z].*\\(.*[^;]")
                    && !lines[from].matches(" *(if|for|while|switch|return|case|default)\\b.*");
            int to = from;
            while (isHead && to < lines.length && !lines[to].equals(indent + "}")) {
                to++;
            }
            methods += isHead ? 1 : 0;
            Due.is(lines[from].trim() + ": lines up to its end", to - from < 60 ? 1 : 0, 1);
        }
        Due.is("methods are found", methods > 80 ? 1 : 0, 1);
    }

    private static void source(String text) {
        String code = text.replaceAll("(?s)/\\*.*?\\*/", "").replaceAll("//[^\n]*", "");
        library(code);
        methodLengths(text.split("\n"));
        for (String forbidden : FORBIDDEN) {
            Matcher matcher = Pattern.compile(forbidden).matcher(code);
            Due.is("the source has " + forbidden, matcher.find() ? 1 : 0, 0);
        }
        for (int i = 0; i < text.length(); i++) {
            if (text.charAt(i) > 126) {
                Due.is("a sign of the source", text.charAt(i), 0);
            }
        }
        for (String line : text.split("\n")) {
            Due.is("long line: " + line, line.length() > 100 ? 1 : 0, 0);
        }
    }
}
