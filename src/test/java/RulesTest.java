import java.lang.reflect.Constructor;
import java.lang.reflect.Field;
import java.lang.reflect.Member;
import java.lang.reflect.Method;
import java.lang.reflect.Modifier;
import java.nio.file.Files;
import java.nio.file.Path;
import java.util.ArrayList;
import java.util.Arrays;
import java.util.List;
import java.util.TreeSet;

/** The public face of the document, and rules of LANGUAGE.md that the compiled class shows. */
public final class RulesTest {
    private static final String[] METHODS = {"reset 1", "addMove 5", "addHold 2", "addTurn 3",
        "addRelease 3", "removeSign 1", "copyPhrase 5", "setLeap 1", "lay 0", "undo 0", "count 1",
        "sign 2", "signAt 2", "bears 1", "toldTwice 1", "isFaulty 1", "nextFault 1", "beats 1",
        "leastLeap 0", "covered 2", "floor 2", "home 0", "farthest 0", "alike 4", "type 1",
        "clearText 0", "fault 0"};
    private static final String[] CONSTANTS = {"INVALID_ARGUMENT", "NOT_POSSIBLE",
        "LIMIT_REACHED", "NOT_FOUND"};

    public static void main(String[] args) throws Exception {
        face();
        sizes();
        source(Files.readString(Path.of("src/main/java/LimbScore.java")));
        Due.end();
    }

    private static void face() {
        Class<LimbScore> face = LimbScore.class;
        Due.is("public and final", face.getModifiers() & (Modifier.PUBLIC | Modifier.FINAL),
                Modifier.PUBLIC | Modifier.FINAL);
        List<String> open = new ArrayList<>();
        for (Method method : face.getDeclaredMethods()) {
            if (isOpen(method)) {
                open.add(method.getName() + " " + method.getParameterCount());
                Due.is(method + " answers an int", method.getReturnType() == int.class ? 1 : 0, 1);
                Due.is(method + " is public", method.getModifiers(), Modifier.PUBLIC);
            } else {
                isNoPublicName(face, method);
            }
        }
        for (Field field : face.getDeclaredFields()) {
            if (isOpen(field)) {
                open.add(field.getName());
            }
        }
        for (Constructor<?> constructor : face.getDeclaredConstructors()) {
            Due.is("the constructor is public", constructor.getModifiers(), Modifier.PUBLIC);
            Due.is("the constructor takes nothing", constructor.getParameterCount(), 0);
        }
        List<String> due = new ArrayList<>(Arrays.asList(METHODS));
        due.addAll(Arrays.asList(CONSTANTS));
        Due.is("the face is " + new TreeSet<>(open),
                new TreeSet<>(open).equals(new TreeSet<>(due)) ? open.size() : 0, 31);
        for (Class<?> inside : face.getDeclaredClasses()) {
            Due.is(inside + " is static", Modifier.isStatic(inside.getModifiers()) ? 1 : 0, 1);
            for (Method method : inside.getDeclaredMethods()) {
                isNoPublicName(inside, method);
            }
        }
    }

    private static boolean isOpen(Member member) {
        return !Modifier.isPrivate(member.getModifiers()) && !member.isSynthetic();
    }

    private static void isNoPublicName(Class<?> where, Method method) {
        for (String name : METHODS) {
            Due.is(where + " names " + method.getName(),
                    name.startsWith(method.getName() + " ") ? 1 : 0, 0);
        }
    }

    /** Rules 3, 5 and 11: kinds of fields, and how many classes, fields and parameters. */
    private static void sizes() {
        List<Class<?>> classes =
                new ArrayList<>(Arrays.asList(LimbScore.class.getDeclaredClasses()));
        classes.add(LimbScore.class);
        Due.is("at most twelve classes: " + classes, classes.size() <= 12 ? 1 : 0, 1);
        for (Class<?> one : classes) {
            int fields = 0;
            for (Field field : one.getDeclaredFields()) {
                boolean isStatic = Modifier.isStatic(field.getModifiers());
                fields += isStatic ? 0 : 1;
                Due.is(field + " is final, if static",
                        !isStatic || Modifier.isFinal(field.getModifiers()) ? 1 : 0, 1);
                Due.is(field + " is of a kind that may be", isKind(field.getType(), classes), 1);
            }
            Due.is(one + " has at most twenty fields", fields <= 20 ? 1 : 0, 1);
            for (Method method : one.getDeclaredMethods()) {
                Due.is(method + " takes at most seven", method.getParameterCount() <= 7 ? 1 : 0, 1);
            }
        }
    }

    private static int isKind(Class<?> type, List<Class<?>> own) {
        return type == int.class || type == int[].class || own.contains(type) ? 1 : 0;
    }

    /** Rule 3: constants' signs are 1 to 127; and lines that fit on a page. */
    private static void source(String text) {
        for (int i = 0; i < text.length(); i++) {
            if (text.charAt(i) > 126) {
                Due.is("a sign of the source", text.charAt(i), 0);
            }
        }
        for (String line : text.split("\n")) {
            Due.is("long line: " + line, line.length() > 100 ? 1 : 0, 0);
        }
    }
}
