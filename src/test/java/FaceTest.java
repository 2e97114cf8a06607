import java.lang.reflect.Constructor;
import java.lang.reflect.Field;
import java.lang.reflect.Member;
import java.lang.reflect.Method;
import java.lang.reflect.Modifier;
import java.util.ArrayList;
import java.util.Arrays;
import java.util.List;
import java.util.TreeSet;

/** The public face, and the rules of LANGUAGE.md that can be read from the compiled class. */
public final class FaceTest {
    private static final String[] FACE = {
        "int addClouds(int, int) IllegalArgumentException IllegalStateException",
        "int addTarget(int, int, int, int, int) IllegalArgumentException IllegalStateException",
        "int count(int) IndexOutOfBoundsException",
        "long digest()",
        "int height(int, int) IndexOutOfBoundsException IllegalArgumentException",
        "boolean isOpen(int) IndexOutOfBoundsException",
        "int light()",
        "int moonHeight(int) IllegalArgumentException",
        "int moonNearness(int) IndexOutOfBoundsException",
        "int nearness(int, int) IndexOutOfBoundsException",
        "int night()",
        "int observe() IllegalStateException",
        "int pass(int) IllegalArgumentException",
        "int reason(int, int) IndexOutOfBoundsException IllegalArgumentException",
        "int setLength(int) IllegalArgumentException",
        "int setMoon(int, int, int) IllegalArgumentException",
        "int setSite(int, int) IllegalArgumentException",
        "int sine(int) IllegalArgumentException",
        "int target(int, int) IndexOutOfBoundsException",
        "double use()",
        "int visit(int, int) IndexOutOfBoundsException",
        "int visits()",
        "int want(int, int, int, int) IndexOutOfBoundsException IllegalArgumentException",
        "int window(int, int) IndexOutOfBoundsException",
    };
    private static final Checks CHECKS = new Checks();

    public static void main(String[] args) {
        publicFace();
        privateMembers();
        fields();
        namesOfNestedClasses();
        CHECKS.end();
    }

    private static String describe(Method method) {
        StringBuilder text = new StringBuilder();
        text.append(method.getReturnType().getSimpleName()).append(' ').append(method.getName()).append('(');
        List<String> parameters = new ArrayList<>();
        for (Class<?> type : method.getParameterTypes()) {
            parameters.add(type.getSimpleName());
        }
        text.append(String.join(", ", parameters)).append(')');
        for (Class<?> type : method.getExceptionTypes()) {
            text.append(' ').append(type.getSimpleName());
        }
        return text.toString();
    }

    private static void publicFace() {
        TreeSet<String> got = new TreeSet<>();
        for (Method method : SkyPlan.class.getDeclaredMethods()) {
            if (Modifier.isPublic(method.getModifiers())) {
                got.add(describe(method));
                CHECKS.judge(!Modifier.isStatic(method.getModifiers()), method + " is static");
            }
        }
        TreeSet<String> due = new TreeSet<>(Arrays.asList(FACE));
        CHECKS.judge(got.equals(due), "the face is " + got + ", due is " + due);
        int modifiers = SkyPlan.class.getModifiers();
        CHECKS.judge(Modifier.isPublic(modifiers) && Modifier.isFinal(modifiers), "the class is public and final");
        Constructor<?>[] constructors = SkyPlan.class.getDeclaredConstructors();
        CHECKS.judge(constructors.length == 1 && Modifier.isPublic(constructors[0].getModifiers())
                && constructors[0].getParameterCount() == 0, "there is one constructor, public, without parameters");
    }

    private static TreeSet<String> publicNames() {
        TreeSet<String> names = new TreeSet<>();
        for (String line : FACE) {
            names.add(line.substring(line.indexOf(' ') + 1, line.indexOf('(')));
        }
        return names;
    }

    private static void privateMembers() {
        List<Member> members = new ArrayList<>(Arrays.asList(SkyPlan.class.getDeclaredMethods()));
        members.addAll(Arrays.asList(SkyPlan.class.getDeclaredFields()));
        for (Member member : members) {
            boolean isPublic = Modifier.isPublic(member.getModifiers()) && member instanceof Method;
            CHECKS.judge(isPublic || Modifier.isPrivate(member.getModifiers()) || member.isSynthetic(),
                    member + " is no part of the face and not private");
        }
    }

    private static List<Class<?>> allClasses() {
        List<Class<?>> classes = new ArrayList<>(Arrays.asList(SkyPlan.class.getDeclaredClasses()));
        classes.add(SkyPlan.class);
        return classes;
    }

    private static void fields() {
        CHECKS.judge(allClasses().size() <= 12, "there are " + allClasses().size() + " classes");
        for (Class<?> type : allClasses()) {
            int ownFields = 0;
            for (Field field : type.getDeclaredFields()) {
                boolean isStatic = Modifier.isStatic(field.getModifiers());
                ownFields += isStatic ? 0 : 1;
                CHECKS.judge(!isStatic || Modifier.isFinal(field.getModifiers()), field + " is static, but not final");
            }
            CHECKS.judge(ownFields <= 20, type + " has " + ownFields + " fields");
        }
    }

    private static void namesOfNestedClasses() {
        TreeSet<String> face = publicNames();
        for (Class<?> type : allClasses()) {
            boolean isNested = type != SkyPlan.class;
            CHECKS.judge(!isNested || Modifier.isStatic(type.getModifiers()), type + " is not static");
            for (Method method : type.getDeclaredMethods()) {
                boolean isOfTheFace = !isNested && Modifier.isPublic(method.getModifiers());
                CHECKS.judge(isOfTheFace || !face.contains(method.getName()), method + " bears a public one's name");
                CHECKS.judge(method.getParameterCount() <= 7, method + " takes too many parameters");
            }
        }
    }
}
