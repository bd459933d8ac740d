import java.lang.reflect.Constructor;
import java.lang.reflect.Field;
import java.lang.reflect.Method;
import java.lang.reflect.Modifier;
import java.util.ArrayList;
import java.util.Arrays;
import java.util.List;
import java.util.Set;
import java.util.TreeSet;

/** "The public face": all that the document shows, and nothing that is seen from outside beside it (the language's rule 1). */
public final class FaceTest {
    private static final List<String> METHODS = List.of(
        "public boolean power(int, boolean)",
        "public boolean sense(int, int)",
        "public boolean gains(int, int, int)",
        "public int request(int, int, int, int)",
        "public boolean spoil(int, int, int)",
        "public int step()",
        "public int holder()",
        "public int phase()",
        "public int node(int, int)",
        "public int value(int, int)",
        "public int level(int, int)",
        "public boolean set(int, int)",
        "public int state(int)",
        "public int answer(int)",
        "public int noted(int, int)",
        "public int frame(int, int)",
        "public int total(int)");

    public static void main(String[] args) {
        theClass();
        theConstants();
        theConstantsAreKnownToTheCompiler();
        theConstructor();
        theMethods();
        theClassesInside();
        noPrivateMethodBearsAPublicName();
        Due.end();
    }

    private static void theClass() {
        Class<?> face = TokenBus.class;
        Due.is("the class is public and final", Modifier.toString(face.getModifiers()).equals("public final"), true);
        Due.is("it has no package", face.getPackageName().isEmpty(), true);
        Due.is("it extends nothing", face.getSuperclass() == Object.class, true);
        Due.is("it implements nothing", face.getInterfaces().length, 0);
    }

    private static void theConstants() {
        Set<String> seen = new TreeSet<>();
        for (Field f : TokenBus.class.getDeclaredFields()) {
            if (!Modifier.isPrivate(f.getModifiers())) {
                seen.add(f.toString());
            }
        }
        same("the constants", seen, new TreeSet<>(List.of(
            "public static final int TokenBus.REFUSED", "public static final int TokenBus.FULL")));
        Due.is("REFUSED", TokenBus.REFUSED, -1);
        Due.is("FULL", TokenBus.FULL, -2);
    }

    /** The document writes them with their values, so they may stand where Java asks for a constant. */
    private static void theConstantsAreKnownToTheCompiler() {
        int[] answers = {-1, -2, 0};
        int[] due = {1, 2, 3};
        for (int k = 0; k < answers.length; k++) {
            Due.is("the case of " + answers[k], caseOf(answers[k]), due[k]);
        }
    }

    private static int caseOf(int answer) {
        switch (answer) {
            case TokenBus.REFUSED: return 1;
            case TokenBus.FULL: return 2;
            default: return 3;
        }
    }

    private static void theConstructor() {
        Constructor<?>[] all = TokenBus.class.getDeclaredConstructors();
        Due.is("how many constructors", all.length, 1);
        Due.is("the constructor " + all[0], all[0].toString().equals("public TokenBus()"), true);
    }

    private static void theMethods() {
        List<String> seen = new ArrayList<>();
        for (Method m : TokenBus.class.getDeclaredMethods()) {
            if (!Modifier.isPrivate(m.getModifiers())) {
                seen.add(signature(m));
            }
        }
        Due.is("how many methods", seen.size(), 17);
        same("the methods", new TreeSet<>(seen), new TreeSet<>(METHODS));
    }

    private static String signature(Method m) {
        List<String> takes = new ArrayList<>();
        for (Class<?> type : m.getParameterTypes()) {
            takes.add(type.getName());
        }
        String throwing = m.getExceptionTypes().length == 0 ? "" : " throws";
        return Modifier.toString(m.getModifiers()) + " " + m.getReturnType().getName() + " " + m.getName()
            + "(" + String.join(", ", takes) + ")" + throwing;
    }

    private static void theClassesInside() {
        for (Class<?> inside : TokenBus.class.getDeclaredClasses()) {
            int how = inside.getModifiers();
            Due.is(inside.getName() + " is seen from outside", Modifier.isPublic(how) || Modifier.isProtected(how), false);
            Due.is(inside.getName() + " is static", Modifier.isStatic(how), true);
        }
    }

    private static void noPrivateMethodBearsAPublicName() {
        Set<String> taken = new TreeSet<>();
        for (Method m : TokenBus.class.getMethods()) {
            taken.add(m.getName());
        }
        List<Class<?>> own = new ArrayList<>(Arrays.asList(TokenBus.class.getDeclaredClasses()));
        own.add(TokenBus.class);
        for (Class<?> one : own) {
            for (Method m : one.getDeclaredMethods()) {
                boolean fromOutside = one == TokenBus.class && Modifier.isPublic(m.getModifiers());
                Due.is("the name of " + m + " is taken", !fromOutside && taken.contains(m.getName()), false);
            }
        }
    }

    private static void same(String name, Set<String> got, Set<String> due) {
        Due.is(name + " " + got, got.equals(due), true);
    }
}
