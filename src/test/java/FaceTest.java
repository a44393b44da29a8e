import java.lang.reflect.Field;
import java.lang.reflect.Method;
import java.lang.reflect.Modifier;
import java.util.Arrays;
import java.util.Set;
import java.util.TreeSet;
import java.util.stream.Collectors;

/** The public face is the document's, and nothing beside it can be seen. */
public final class FaceTest {
    private static final String FACE = "feed(int,int,int,int,int)int text(int)int fault(int)int named(int,int)int "
            + "look(int,int)int law(int,int)long blow(int,int)int waits(int,boolean)int pump(int)int patch(int)int "
            + "leak()int ever(int)int best(int,int)int lasts(int,int)int firm(int,int)int up(int,int,int)int "
            + "upAt(int,int,int,int)int cheapest(int,int,int)int lend(int,int)int seek(int,int)int mean(int)int "
            + "rule(int)int fairest()int cheek(int,int,int,boolean)int strike(int)int known(int)boolean fits()int "
            + "chance(int,int,int)int tried(int,int,int)int undo()int keep()int back()int count(int)int";

    public static void main(String[] args) {
        Set<String> shown = new TreeSet<>();
        Set<String> names = new TreeSet<>();
        for (Method method : AirBed.class.getDeclaredMethods()) {
            if (!Modifier.isPrivate(method.getModifiers())) {
                shown.add(told(method));
                names.add(method.getName());
                Checks.due("public " + method, Modifier.isPublic(method.getModifiers()), true);
            }
        }
        Set<String> due = new TreeSet<>(Arrays.asList(FACE.split(" ")));
        Checks.due("methods " + shown, shown.equals(due), true);
        Checks.due("constructors", AirBed.class.getDeclaredConstructors().length, 1);
        Checks.due("final", Modifier.isFinal(AirBed.class.getModifiers()), true);
        Checks.due("NONE", AirBed.NONE, -1);
        fields(AirBed.class);
        fewFields(AirBed.class);
        hiddenMethods(AirBed.class, names);
        Checks.due("twelve classes at most", AirBed.class.getDeclaredClasses().length < 12, true);
        for (Class<?> inside : AirBed.class.getDeclaredClasses()) {
            fewFields(inside);
            Checks.due("private " + inside, Modifier.isPrivate(inside.getModifiers()), true);
            Checks.due("static " + inside, Modifier.isStatic(inside.getModifiers()), true);
            hiddenMethods(inside, names);
        }
        Checks.finish();
    }

    private static String told(Method method) {
        String arguments = Arrays.stream(method.getParameterTypes()).map(Class::getName)
                .collect(Collectors.joining(","));
        return method.getName() + "(" + arguments + ")" + method.getReturnType().getName();
    }

    private static void fields(Class<?> of) {
        for (Field field : of.getDeclaredFields()) {
            int how = field.getModifiers();
            Checks.due("field " + field, Modifier.isPrivate(how) || field.getName().equals("NONE"), true);
            Checks.due("static is final: " + field, !Modifier.isStatic(how) || Modifier.isFinal(how), true);
        }
    }

    private static void fewFields(Class<?> of) {
        long fields = Arrays.stream(of.getDeclaredFields()).filter(field -> !Modifier.isStatic(field.getModifiers()))
                .count();
        Checks.due("twenty fields at most: " + of + " has " + fields, fields <= 20, true);
    }

    private static void hiddenMethods(Class<?> of, Set<String> names) {
        for (Method method : of.getDeclaredMethods()) {
            boolean shown = of == AirBed.class && Modifier.isPublic(method.getModifiers());
            Checks.due("a name of its own: " + method, shown || !names.contains(method.getName()), true);
            Checks.due("seven parameters at most: " + method, method.getParameterCount() <= 7, true);
        }
    }
}
