import java.lang.reflect.Constructor;
import java.lang.reflect.Field;
import java.lang.reflect.Method;
import java.lang.reflect.Modifier;
import java.nio.file.Files;
import java.nio.file.Path;
import java.util.Set;
import java.util.TreeSet;
import java.util.regex.Matcher;
import java.util.regex.Pattern;

/** The face is the document's, to the letter, and nothing else of the class can be seen (rule 1 of LANGUAGE.md). */
public final class FaceTest {
    private static int wrong = 0;

    public static void main(String[] args) throws Exception {
        Path root = Path.of(System.getProperty("project.root", "."));
        Path shared = Path.of(System.getProperty("shared.root", "../shared"));
        faceIsTheDocuments(Files.readString(shared.resolve("DOC.md")));
        membersAreHidden();
        linesAreShort(Files.readString(root.resolve("src/main/java/CareRules.java")));
        System.out.println(wrong == 0 ? "the face is as due" : wrong + " faults of the face");
        if (wrong != 0) {
            System.exit(1);
        }
    }

    private static void fault(String what) {
        wrong++;
        System.out.println(what);
    }

    private static void faceIsTheDocuments(String document) {
        Set<String> due = new TreeSet<>();
        Matcher m = Pattern.compile("public (int|long) (\\w+)\\(([^)]*)\\);").matcher(document);
        while (m.find()) {
            due.add(m.group(1) + " " + m.group(2) + "(" + m.group(3).replaceAll(" \\w+(?=,|$)", "").replace(" ", "") + ")");
        }
        Set<String> is = new TreeSet<>();
        for (Method method : CareRules.class.getDeclaredMethods()) {
            if (Modifier.isPublic(method.getModifiers())) {
                StringBuilder types = new StringBuilder();
                for (Class<?> type : method.getParameterTypes()) {
                    types.append(types.length() == 0 ? "" : ",").append(type.getName());
                }
                is.add(method.getReturnType() + " " + method.getName() + "(" + types + ")");
            }
        }
        if (due.size() != 42 || !due.equals(is)) {
            fault("the document has " + due + ", the class has " + is);
        }
    }

    private static void membersAreHidden() {
        int face = CareRules.class.getModifiers();
        if (!Modifier.isPublic(face) || !Modifier.isFinal(face) || CareRules.class.getConstructors().length != 1) {
            fault("the class is not public and final with one constructor");
        }
        Set<String> named = new TreeSet<>();
        for (Method method : CareRules.class.getMethods()) {
            named.add(method.getName());
        }
        for (Method method : CareRules.class.getDeclaredMethods()) {
            if (!Modifier.isPublic(method.getModifiers())) {
                checkHidden(method.getName(), method.getModifiers());
                if (named.contains(method.getName())) {
                    fault("a private method is named as a public one: " + method.getName());
                }
            }
        }
        for (Field field : CareRules.class.getDeclaredFields()) {
            checkHidden(field.getName(), field.getModifiers());
            checkField(field);
        }
        for (Constructor<?> constructor : CareRules.class.getDeclaredConstructors()) {
            if (constructor.getParameterCount() != 0) {
                fault("a constructor with parameters");
            }
        }
        for (Class<?> inside : CareRules.class.getDeclaredClasses()) {
            if (!Modifier.isStatic(inside.getModifiers()) || Modifier.isPublic(inside.getModifiers())) {
                fault("a class inside is not static, or public: " + inside.getName());
            }
            for (Field field : inside.getDeclaredFields()) {
                checkField(field);
            }
            for (Method method : inside.getDeclaredMethods()) {
                if (named.contains(method.getName())) {
                    fault("a method inside is named as a public one: " + inside.getName() + "." + method.getName());
                }
                if (method.getParameterCount() > 7) {
                    fault("more than seven parameters: " + method.getName());
                }
            }
        }
        if (CareRules.class.getDeclaredClasses().length > 12) {
            fault("more than twelve classes");
        }
    }

    private static void checkHidden(String name, int modifiers) {
        if (!Modifier.isPrivate(modifiers)) {
            fault("not private: " + name);
        }
    }

    private static void checkField(Field field) {
        if (Modifier.isStatic(field.getModifiers()) && !Modifier.isFinal(field.getModifiers())) {
            fault("static state: " + field.getName());
        }
    }

    private static void linesAreShort(String source) {
        for (String line : source.split("\n")) {
            if (line.length() > 120) {
                fault("a line is too long: " + line);
            }
        }
    }
}
