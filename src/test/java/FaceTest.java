import java.io.IOException;
import java.lang.reflect.Constructor;
import java.lang.reflect.Field;
import java.lang.reflect.Method;
import java.lang.reflect.Modifier;
import java.nio.file.Files;
import java.nio.file.Path;
import java.util.TreeSet;
import java.util.regex.Matcher;
import java.util.regex.Pattern;

/** The public face is the document's, and nothing else can be seen from outside (LANGUAGE, 1 and 2). */
public final class FaceTest {
    private static final Check check = new Check();

    public static void main(String[] args) throws IOException {
        TreeSet<String> due = faceOfDocument();
        TreeSet<String> got = new TreeSet<>();
        TreeSet<String> hidden = new TreeSet<>();
        check.isTrue("45 methods in the document", due.size() == 45);
        for (Method m : PeasDrum.class.getDeclaredMethods()) {
            if (Modifier.isPrivate(m.getModifiers())) {
                hidden.add(m.getName());
            } else {
                StringBuilder face = new StringBuilder(m.getReturnType().getName());
                face.append(' ').append(m.getName());
                for (Class<?> type : m.getParameterTypes()) {
                    face.append(' ').append(type.getName());
                }
                got.add(face.toString());
                check.isTrue(face + " is public, not static",
                        Modifier.isPublic(m.getModifiers()) && !Modifier.isStatic(m.getModifiers()));
            }
        }
        check.isTrue("the face " + got + " is the document's " + due, got.equals(due));
        for (Method m : PeasDrum.class.getDeclaredMethods()) {
            check.isTrue(m.getName() + " is public or private, not both",
                    !Modifier.isPublic(m.getModifiers()) || !hidden.contains(m.getName()));
        }
        members();
        check.end();
    }

    private static TreeSet<String> faceOfDocument() throws IOException {
        TreeSet<String> face = new TreeSet<>();
        String doc = Files.readString(Path.of("../shared/DOC.md"));
        Matcher m = Pattern.compile("    public (int|long) (\\w+)\\(([^)]*)\\);").matcher(doc);
        while (m.find()) {
            StringBuilder method = new StringBuilder(m.group(1)).append(' ').append(m.group(2));
            for (String parameter : m.group(3).split(", *")) {
                method.append(parameter.isEmpty() ? "" : " " + parameter.split(" ")[0]);
            }
            face.add(method.toString());
        }
        return face;
    }

    private static void members() {
        check.isTrue("public final", Modifier.toString(PeasDrum.class.getModifiers()).equals("public final"));
        Constructor<?>[] constructors = PeasDrum.class.getDeclaredConstructors();
        check.isTrue("one constructor, public, without arguments", constructors.length == 1
                && Modifier.isPublic(constructors[0].getModifiers())
                && constructors[0].getParameterCount() == 0);
        for (Field f : PeasDrum.class.getDeclaredFields()) {
            check.isTrue("field " + f.getName() + " is private", Modifier.isPrivate(f.getModifiers()));
        }
        Class<?>[] inside = PeasDrum.class.getDeclaredClasses();
        check.isTrue("at most twelve classes", inside.length <= 11);
        for (Class<?> c : inside) {
            int how = c.getModifiers();
            check.isTrue(c.getName() + " is static and not seen from outside", Modifier.isStatic(how)
                    && !Modifier.isPublic(how) && !Modifier.isProtected(how));
            int fields = 0;
            for (Field f : c.getDeclaredFields()) {
                boolean fixed = Modifier.isStatic(f.getModifiers());
                fields += fixed ? 0 : 1;
                check.isTrue(f + ", if static, is final", !fixed || Modifier.isFinal(f.getModifiers()));
            }
            check.isTrue(c.getName() + " has few fields", fields <= 20);
        }
    }
}
