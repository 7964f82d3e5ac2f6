import java.io.IOException;
import java.lang.reflect.Constructor;
import java.lang.reflect.Executable;
import java.lang.reflect.Field;
import java.lang.reflect.Method;
import java.lang.reflect.Modifier;
import java.lang.reflect.Parameter;
import java.nio.charset.StandardCharsets;
import java.nio.file.Files;
import java.nio.file.Path;
import java.util.TreeSet;

/**
 * The public face, and LANGUAGE.md rule 1: what is declared is compared with the document's code block, the names
 * of the parameters and the throws clauses too. The class must be compiled with -parameters.
 */
public final class FaceTest {
    private static final Path DOCUMENT = Path.of("../shared/DOC.md");
    private static final String CLASS_HEAD = "public final class Exportcover {";

    private final Check check = new Check();
    private final TreeSet<String> due = new TreeSet<>();
    private final TreeSet<String> declared = new TreeSet<>();
    private final TreeSet<String> publicNames = new TreeSet<>();

    public static void main(String[] args) throws IOException {
        FaceTest test = new FaceTest();
        test.readDocument(Files.readString(DOCUMENT, StandardCharsets.UTF_8));
        test.readClass();
        test.compareHeads();
        test.comparePrivate();
        test.check.end();
    }

    private void readDocument(String document) {
        int face = document.indexOf("## The public face");
        int begin = document.indexOf("```java\n", face);
        int end = document.indexOf("```", begin + 3);
        for (String line : document.substring(begin, end).split("\n")) {
            String head = line.trim();
            if (head.startsWith("public ") && head.endsWith(";")) {
                due.add(head.substring(0, head.length() - 1));
            }
        }
        check.due("the code block has the class", document.substring(begin, end).contains(CLASS_HEAD), true);
        check.due("constructor and methods in the code block", due.size(), 46);
    }

    private void readClass() {
        for (Constructor<?> each : Exportcover.class.getDeclaredConstructors()) {
            declared.add(headOf(each, Exportcover.class.getSimpleName()));
        }
        for (Method each : Exportcover.class.getDeclaredMethods()) {
            if (!Modifier.isPrivate(each.getModifiers())) {
                declared.add(headOf(each, each.getReturnType().getSimpleName() + " " + each.getName()));
                publicNames.add(each.getName());
            }
        }
    }

    private void compareHeads() {
        for (String each : due) {
            check.due("the class declares " + each, declared.contains(each), true);
        }
        for (String each : declared) {
            check.due("the document declares " + each, due.contains(each), true);
        }
        check.due("the class", Modifier.toString(Exportcover.class.getModifiers()), "public final");
        check.due("what it extends", Exportcover.class.getSuperclass().getSimpleName(), "Object");
        check.due("what it implements", Exportcover.class.getInterfaces().length, 0);
    }

    private void comparePrivate() {
        for (Method each : Exportcover.class.getDeclaredMethods()) {
            if (Modifier.isPrivate(each.getModifiers())) {
                check.due(each + " bears a public name", publicNames.contains(each.getName()), false);
            }
        }
        for (Field each : Exportcover.class.getDeclaredFields()) {
            check.due(each + " is private", Modifier.isPrivate(each.getModifiers()), true);
            boolean isStatic = Modifier.isStatic(each.getModifiers());
            check.due(each + " is final, if static", isStatic && !Modifier.isFinal(each.getModifiers()), false);
        }
        for (Class<?> each : Exportcover.class.getDeclaredClasses()) {
            check.due(each + " is static", Modifier.isStatic(each.getModifiers()), true);
            check.due(each + " is public", Modifier.isPublic(each.getModifiers()), false);
            check.due(each + " is protected", Modifier.isProtected(each.getModifiers()), false);
        }
    }

    /** The head as the code block has it: "public boolean broke(int buyer) throws IndexOutOfBoundsException". */
    private static String headOf(Executable declared, String typeAndName) {
        StringBuilder head = new StringBuilder(Modifier.toString(declared.getModifiers()));
        head.append(' ').append(typeAndName).append('(');
        String between = "";
        for (Parameter each : declared.getParameters()) {
            head.append(between).append(each.getType().getSimpleName()).append(' ').append(each.getName());
            between = ", ";
        }
        head.append(')');
        between = " throws ";
        for (Class<?> each : declared.getExceptionTypes()) {
            head.append(between).append(each.getSimpleName());
            between = ", ";
        }
        return head.toString();
    }
}
