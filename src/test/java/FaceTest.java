import java.io.IOException;
import java.lang.reflect.Constructor;
import java.lang.reflect.Member;
import java.lang.reflect.Method;
import java.lang.reflect.Modifier;
import java.nio.file.Files;
import java.nio.file.Path;
import java.util.ArrayList;
import java.util.List;
import java.util.TreeSet;

/** The class has exactly the face of the document, and nothing else that a stranger can see. */
public final class FaceTest {
    public static void main(String[] args) throws IOException {
        Check.equal(facesOfDocument(), facesOfClass(), "the public face");
        Check.equal(true, Modifier.isFinal(RailTimeline.class.getModifiers()), "the class is final");
        Check.equal(0, RailTimeline.class.getFields().length, "the number of public fields");
        for (Member member : members()) {
            boolean isHidden = Modifier.isPrivate(member.getModifiers()) || member.isSynthetic();
            Check.equal(true, Modifier.isPublic(member.getModifiers()) || isHidden, "hidden or of the face: " + member);
        }
        checkHelperNames();
        Check.end();
    }

    private static TreeSet<String> facesOfDocument() throws IOException {
        TreeSet<String> faces = new TreeSet<>();
        boolean isInside = false;
        for (String line : Files.readAllLines(Path.of("../shared/DOC.md"))) {
            if (line.startsWith("public final class")) {
                isInside = true;
            } else if (line.startsWith("}")) {
                isInside = false;
            } else if (isInside && line.contains("(")) {
                faces.add(plain(line));
            }
        }
        return faces;
    }

    /** Turns "public int copy(int from, int to) throws E;" into "int copy(int,int) throws E". */
    private static String plain(String line) {
        String face = line.trim().replaceAll("^public |;$", "");
        face = face.replaceAll("(int|char) [a-zA-Z]+(?=[,)])", "$1");
        return face.replace(", ", ",");
    }

    private static TreeSet<String> facesOfClass() {
        TreeSet<String> faces = new TreeSet<>();
        for (Constructor<?> constructor : RailTimeline.class.getConstructors()) {
            faces.add(constructor.getName() + parameters(constructor.getParameterTypes()));
        }
        for (Method method : RailTimeline.class.getDeclaredMethods()) {
            if (Modifier.isPublic(method.getModifiers())) {
                faces.add(method.getReturnType() + " " + method.getName() + parameters(method.getParameterTypes())
                        + exceptions(method.getExceptionTypes()));
            }
        }
        return faces;
    }

    private static String parameters(Class<?>[] types) {
        return "(" + names(types) + ")";
    }

    private static String exceptions(Class<?>[] types) {
        return types.length == 0 ? "" : " throws " + names(types);
    }

    private static String names(Class<?>[] types) {
        List<String> names = new ArrayList<>();
        for (Class<?> type : types) {
            names.add(type.getSimpleName());
        }
        return String.join(",", names);
    }

    private static List<Member> members() {
        List<Member> members = new ArrayList<>();
        members.addAll(List.of(RailTimeline.class.getDeclaredMethods()));
        members.addAll(List.of(RailTimeline.class.getDeclaredConstructors()));
        members.addAll(List.of(RailTimeline.class.getDeclaredFields()));
        return members;
    }

    /** Rule 1 of LANGUAGE.md: no private method bears the name of a public one. */
    private static void checkHelperNames() {
        TreeSet<String> publicNames = new TreeSet<>();
        for (Method method : RailTimeline.class.getDeclaredMethods()) {
            if (Modifier.isPublic(method.getModifiers())) {
                publicNames.add(method.getName());
            }
        }
        List<Class<?>> classes = new ArrayList<>(List.of(RailTimeline.class.getDeclaredClasses()));
        classes.add(RailTimeline.class);
        for (Class<?> owner : classes) {
            for (Method method : owner.getDeclaredMethods()) {
                boolean isFace = owner == RailTimeline.class && Modifier.isPublic(method.getModifiers());
                Check.equal(false, !isFace && publicNames.contains(method.getName()), "a helper named as the face: " + method);
            }
        }
    }
}
