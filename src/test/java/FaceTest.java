import java.lang.reflect.Constructor;
import java.lang.reflect.Executable;
import java.lang.reflect.Field;
import java.lang.reflect.Member;
import java.lang.reflect.Method;
import java.lang.reflect.Modifier;
import java.util.Arrays;
import java.util.List;
import java.util.stream.Collectors;

/** "The public face": these methods and no others. */
public final class FaceTest {
    private static final List<String> METHODS = List.of(
        "int letter(int c)", "int race()", "int section(int section, int what)", "int athlete(int athlete, int what)",
        "int tries(int athlete, int section)", "int turn(int section, int kind, int figure)",
        "int swap(int one, int other)", "int skill(int athlete, int what, int v)",
        "int tryHard(int athlete, int section, int v)", "int by(int athlete, int section, int what)",
        "int finish(int athlete, int what)", "int at(int athlete, int t)",
        "int overtakes(int one, int other, int what)", "int bestPlan(int athlete, int section)",
        "int hardest(int athlete)", "int leastTries(int athlete, int t)", "int drink(int athlete, int what)",
        "int train(int athlete, int what)", "int weakest(int athlete)", "int meadow(int athlete, int what)",
        "int leave(int athlete, int what)", "int order(int athlete)",
        "long puncture(int athlete, int t, int u, int v, int part)", "long mean(int athlete, int t, int u, int part)",
        "int tube(int athlete, int t, int u)", "int draw(int athlete, int what)", "int two(int a, int b, int section)",
        "int whatWas(int section, int what)", "int row(int v)", "int judge(int athlete)", "int clear()",
        "int lots(int n, int z, int what)", "int image()", "int on()", "int count(int what)");

    private static int wrong = 0;

    private static void due(String what, Object got, Object want) {
        if (!got.equals(want)) {
            wrong++;
            System.out.println(what + ": " + got + ", due is " + want);
        }
    }

    private static boolean isSeen(Member member) {
        return !Modifier.isPrivate(member.getModifiers()) && !member.isSynthetic();
    }

    private static String withTypes(Executable one) {
        return Arrays.stream(one.getParameterTypes()).map(Class::getName).collect(Collectors.joining(", ", "(", ")"));
    }

    /** As it is told, without the names of its numbers. */
    private static String plain(String told) {
        return told.replaceAll("(int) \\w+(?=[,)])", "$1");
    }

    private static void checkMethods() {
        List<String> seen = Arrays.stream(WetSuitPedalsShoes.class.getDeclaredMethods()).filter(FaceTest::isSeen)
            .map(one -> one.getReturnType().getName() + " " + one.getName() + withTypes(one)).sorted().toList();
        due("methods", seen, METHODS.stream().map(FaceTest::plain).sorted().toList());
        for (Method one : WetSuitPedalsShoes.class.getDeclaredMethods()) {
            if (isSeen(one)) {
                due("modifiers of " + one.getName(), one.getModifiers(), Modifier.PUBLIC);
                due("exceptions of " + one.getName(), one.getExceptionTypes().length, 0);
            }
        }
    }

    private static void checkTheRest() {
        Class<?> face = WetSuitPedalsShoes.class;
        due("the class", face.getModifiers(), Modifier.PUBLIC | Modifier.FINAL);
        due("its package", face.getPackageName(), "");
        due("above it", face.getSuperclass(), Object.class);
        due("interfaces", face.getInterfaces().length, 0);
        Constructor<?>[] constructors = face.getDeclaredConstructors();
        due("constructors", constructors.length, 1);
        due("the constructor", constructors[0].getModifiers(), Modifier.PUBLIC);
        due("its numbers", constructors[0].getParameterCount(), 0);
        for (Field one : face.getDeclaredFields()) {
            due("is " + one.getName() + " seen", isSeen(one), false);
            due("is " + one.getName() + " shared and changed",
                Modifier.isStatic(one.getModifiers()) && !Modifier.isFinal(one.getModifiers()), false);
        }
        for (Class<?> inside : face.getDeclaredClasses()) {
            due("is " + inside.getSimpleName() + " static", Modifier.isStatic(inside.getModifiers()), true);
            due("is " + inside.getSimpleName() + " seen",
                (inside.getModifiers() & (Modifier.PUBLIC | Modifier.PROTECTED)) != 0, false);
        }
    }

    public static void main(String[] args) {
        checkMethods();
        checkTheRest();
        System.out.println(wrong == 0 ? "the face is as told" : wrong + " of the face is not as told");
        if (wrong != 0) {
            System.exit(1);
        }
    }
}
