import java.lang.reflect.Constructor;
import java.lang.reflect.Field;
import java.lang.reflect.Member;
import java.lang.reflect.Method;
import java.lang.reflect.Modifier;
import java.util.ArrayList;
import java.util.Arrays;
import java.util.List;
import java.util.NoSuchElementException;
import java.util.TreeSet;

/** The public face: every member the document prints, and no other that could be seen. */
public final class FaceTest {
    private static final String[] FACE = {
        "int feed(long,long,long)", "int yard()", "int week()", "int shed(int,int)", "int stage(int,int)",
        "int night()", "int heat(int,int)", "boolean light(int)", "int pull(int,int)", "boolean undo()",
        "int judged(int)", "int later(int,int)", "int creak(int,int)", "int pops(int)", "int first()",
        "int riot(int)", "int calm(int)", "int roofed()", "int had(int)", "int waits(int)", "int plays(int)",
        "int blend(int)", "int aim(int,int,int)", "int reach(int)", "int far(int,int)", "int parts()",
        "int heard(int)", "int news()", "int loud()", "int tall()", "int yields(int)",
        "boolean see(int,int,boolean)", "int who()", "int ask()", "int stick()", "int chance(int,int,int)",
        "int rests(int,int,int,int)", "int weeks(int,int,int)", "boolean mark(int,boolean)", "int count(int)",
    };

    public static void main(String[] args) throws NoSuchMethodException {
        Check check = new Check();
        Class<MurmurSheds> type = MurmurSheds.class;
        check.due("final", Modifier.isFinal(type.getModifiers()), true);
        check.due("the methods", shown(type).equals(new TreeSet<>(Arrays.asList(FACE))), true);
        check.due("constructors", type.getDeclaredConstructors().length, 1);
        Constructor<MurmurSheds> made = type.getConstructor();
        check.due("constructor's exceptions", made.getExceptionTypes().length, 0);
        Method rests = type.getMethod("rests", int.class, int.class, int.class, int.class);
        check.due("rests throws", rests.getExceptionTypes()[0] == NoSuchElementException.class, true);
        for (Field field : type.getDeclaredFields()) {
            check.due(field.getName() + " is private", isHidden(field), !field.getName().equals("NONE"));
        }
        for (Class<?> inner : type.getDeclaredClasses()) {
            check.due(inner + " is static", Modifier.isStatic(inner.getModifiers()), true);
            check.due(inner + " is hidden", inner.getModifiers() & (Modifier.PUBLIC | Modifier.PROTECTED), 0);
        }
        checkNames(check, type);
        check.end();
    }

    private static TreeSet<String> shown(Class<?> type) {
        TreeSet<String> texts = new TreeSet<>();
        for (Method method : type.getDeclaredMethods()) {
            if (!isHidden(method)) {
                List<String> takes = new ArrayList<>();
                for (Class<?> parameter : method.getParameterTypes()) {
                    takes.add(parameter.getName());
                }
                texts.add(method.getReturnType() + " " + method.getName() + "(" + String.join(",", takes) + ")");
            }
        }
        return texts;
    }

    private static boolean isHidden(Member member) {
        return Modifier.isPrivate(member.getModifiers());
    }

    /** LANGUAGE.md, rule 1: no private method bears the name of a public one; rule 5: static fields are final. */
    private static void checkNames(Check check, Class<?> type) {
        TreeSet<String> open = new TreeSet<>();
        List<Class<?>> all = new ArrayList<>(Arrays.asList(type.getDeclaredClasses()));
        all.add(type);
        for (Method method : type.getDeclaredMethods()) {
            if (!isHidden(method)) {
                open.add(method.getName());
            }
        }
        for (Class<?> one : all) {
            for (Method method : one.getDeclaredMethods()) {
                boolean taken = one != type || isHidden(method);
                check.due(one + " " + method.getName(), taken && open.contains(method.getName()), false);
            }
            for (Field field : one.getDeclaredFields()) {
                int how = field.getModifiers();
                check.due(one + " " + field.getName(), Modifier.isStatic(how) && !Modifier.isFinal(how), false);
            }
        }
    }
}
