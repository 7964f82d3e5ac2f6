import java.lang.reflect.Field;
import java.lang.reflect.Method;
import java.lang.reflect.Modifier;
import java.util.TreeSet;

/** The public face, and LANGUAGE.md rule 1. */
public final class FaceTest {
    private static final String[] FACE = {
        "int market(int)", "int land(int,int)", "int vote(int,int,int,int)", "int ceiling(int,int)",
        "boolean close(int,boolean)", "int stop(int,boolean)", "int war(int,boolean)", "int buyer(int,int)",
        "int earn(int,int)", "boolean broke(int)", "int exporter()", "int link(int,int,boolean)",
        "int notice(int,int)", "int policy(int,int,int,int)", "int limit(int,int,int)", "int cut(int,int,int)",
        "int ship(int,int,int,int,boolean)", "int pay(int,int)", "int report(int)", "int dispute(int)",
        "int judge(int,boolean)", "int claim(int)", "int salvage(int,int)", "int club(int,int,int)",
        "boolean inspect(int)", "int bribe(int)", "int pass(int)", "int knock()", "int ofLand(int,int)",
        "int ofBuyer(int,int)", "int ofExporter(int,int)", "int ofPolicy(int,int)",
        "int granted(int,int,boolean)", "int ofShipment(int,int)", "int part(int,int,boolean)",
        "int books(int)", "String slip(int)", "int rate(int,int,int)",
        "int wouldInsure(int,int,int,int,boolean)", "int when(int)", "int circles()", "double expected()",
        "double probable(int)", "boolean isSound()", "long digest()",
    };

    public static void main(String[] args) {
        Check check = new Check();
        TreeSet<String> due = new TreeSet<>();
        TreeSet<String> names = new TreeSet<>();
        for (String each : FACE) {
            due.add(each);
            names.add(each.substring(each.indexOf(' ') + 1, each.indexOf('(')));
        }
        TreeSet<String> got = new TreeSet<>();
        for (Method each : Exportcover.class.getDeclaredMethods()) {
            if (!Modifier.isPrivate(each.getModifiers())) {
                got.add(faceOf(each));
                check.due(each + " is public alone", each.getModifiers(), Modifier.PUBLIC);
            } else {
                check.due(each + " bears a public name", names.contains(each.getName()), false);
            }
        }
        check.due("the methods", got.toString(), due.toString());
        check.due("the class", Exportcover.class.getModifiers(), Modifier.PUBLIC | Modifier.FINAL);
        check.due("constructors", Exportcover.class.getDeclaredConstructors().length, 1);
        check.due("public constructors", Exportcover.class.getConstructors().length, 1);
        for (Field each : Exportcover.class.getDeclaredFields()) {
            check.due(each + " is private", Modifier.isPrivate(each.getModifiers()), true);
            boolean isStatic = Modifier.isStatic(each.getModifiers());
            check.due(each + " is final, if static", isStatic && !Modifier.isFinal(each.getModifiers()), false);
        }
        for (Class<?> each : Exportcover.class.getDeclaredClasses()) {
            check.due(each + " is static", Modifier.isStatic(each.getModifiers()), true);
            check.due(each + " is public", Modifier.isPublic(each.getModifiers()), false);
        }
        check.end();
    }

    private static String faceOf(Method method) {
        StringBuilder face = new StringBuilder(method.getReturnType().getSimpleName());
        face.append(' ').append(method.getName()).append('(');
        for (int i = 0; i < method.getParameterCount(); i++) {
            face.append(i == 0 ? "" : ",").append(method.getParameterTypes()[i].getSimpleName());
        }
        return face.append(')').toString();
    }
}
