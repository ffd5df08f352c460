import java.io.IOException;
import java.lang.reflect.Constructor;
import java.lang.reflect.Field;
import java.lang.reflect.Member;
import java.lang.reflect.Method;
import java.lang.reflect.Modifier;
import java.nio.charset.StandardCharsets;
import java.nio.file.Files;
import java.nio.file.Path;
import java.util.ArrayList;
import java.util.Collections;
import java.util.HashSet;
import java.util.List;
import java.util.Set;

/** The public face as the document has it, and those rules of LANGUAGE.md that are easily looked up. */
public final class FaceTest {
    private static final String OUT = "IndexOutOfBoundsException";
    private static final String ARG = "IllegalArgumentException";
    private static final String STATE = "IllegalStateException";

    private static final String[] FACE = {
        "int drain(int int) " + OUT + " " + STATE,
        "int dig(int int) " + OUT + " " + STATE,
        "int build(int int int) " + OUT + " " + ARG + " " + STATE,
        "int bridge(int int) " + OUT + " " + STATE,
        "int raze(int int) " + OUT + " " + STATE,
        "int lot(int int int) " + OUT,
        "int count(int) " + OUT,
        "int walk(int int) " + OUT + " " + STATE,
        "int sail(int) " + OUT + " " + STATE,
        "int pass(int) " + ARG,
        "int foresee(int int) " + ARG + " " + OUT,
        "int would(int int int) " + OUT + " " + ARG + " " + STATE,
        "int best(int) " + ARG,
        "double mean()",
        "long digest()",
    };

    private static final String[] NOT_IN_THE_SOURCE = {
        "package ", "import ", "java.util", "->", "::", "synchronized", "assert ", "finally", "catch",
        "instanceof", "Exact", "Object", "hashCode", "toString", "System", "Thread", "Random", "protected",
    };

    public static void main(String[] args) throws IOException {
        hasTheFace();
        hasNoMore();
        keepsNoStaticState();
        keepsToTheLanguage();
        Check.end("FaceTest");
    }

    private static void hasTheFace() {
        int modifiers = CanalCity.class.getModifiers();
        Check.due("public and final", Modifier.isPublic(modifiers) && Modifier.isFinal(modifiers) ? 1 : 0, 1);
        Constructor<?>[] made = CanalCity.class.getDeclaredConstructors();
        Check.due("constructors", made.length, 1);
        Check.due("its parameters", made[0].getParameterCount(), 0);
        Check.due("its exceptions", made[0].getExceptionTypes().length, 0);
        Check.due("it is public", Modifier.isPublic(made[0].getModifiers()) ? 1 : 0, 1);
        List<String> due = new ArrayList<>(List.of(FACE));
        List<String> got = new ArrayList<>();
        for (Method method : CanalCity.class.getDeclaredMethods()) {
            if (Modifier.isPublic(method.getModifiers())) {
                got.add(signature(method));
            }
        }
        Collections.sort(due);
        Collections.sort(got);
        Check.due("face", got.toString(), due.toString());
    }

    private static String signature(Method method) {
        StringBuilder text = new StringBuilder(method.getReturnType().getSimpleName() + " " + method.getName());
        List<String> parameters = new ArrayList<>();
        for (Class<?> type : method.getParameterTypes()) {
            parameters.add(type.getSimpleName());
        }
        text.append("(").append(String.join(" ", parameters)).append(")");
        for (Class<?> type : method.getExceptionTypes()) {
            text.append(" ").append(type.getSimpleName());
        }
        return text.toString();
    }

    private static void hasNoMore() {
        Set<String> open = new HashSet<>();
        List<Member> members = new ArrayList<>(List.of(CanalCity.class.getDeclaredFields()));
        for (Method method : CanalCity.class.getDeclaredMethods()) {
            members.add(method);
            if (Modifier.isPublic(method.getModifiers())) {
                open.add(method.getName());
            }
        }
        for (Member member : members) {
            if (Modifier.isPrivate(member.getModifiers())) {
                Check.due(member.getName() + " is no name of the face", open.contains(member.getName()) ? 1 : 0, 0);
            } else {
                Check.due(member.getName() + " is public", Modifier.isPublic(member.getModifiers()) ? 1 : 0, 1);
                Check.due(member.getName() + " is a method", member instanceof Method ? 1 : 0, 1);
            }
        }
        for (Class<?> inside : CanalCity.class.getDeclaredClasses()) {
            int modifiers = inside.getModifiers();
            boolean hidden = !Modifier.isPublic(modifiers) && !Modifier.isProtected(modifiers);
            Check.due(inside.getName() + " is hidden and static", hidden && Modifier.isStatic(modifiers) ? 1 : 0, 1);
        }
    }

    private static void keepsNoStaticState() {
        List<Class<?>> all = new ArrayList<>(List.of(CanalCity.class.getDeclaredClasses()));
        all.add(CanalCity.class);
        for (Class<?> one : all) {
            int own = 0;
            for (Field field : one.getDeclaredFields()) {
                if (Modifier.isStatic(field.getModifiers())) {
                    Check.due(field.getName() + " is final", Modifier.isFinal(field.getModifiers()) ? 1 : 0, 1);
                } else {
                    own++;
                }
            }
            Check.due(one.getName() + " has at most twenty fields", own <= 20 ? 1 : 0, 1);
        }
    }

    private static void keepsToTheLanguage() throws IOException {
        String source = Files.readString(Path.of("src/main/java/CanalCity.java"), StandardCharsets.US_ASCII);
        for (String word : NOT_IN_THE_SOURCE) {
            Check.due("'" + word + "' in the source at", source.indexOf(word), -1);
        }
    }
}
