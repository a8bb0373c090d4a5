import java.lang.reflect.Constructor;
import java.lang.reflect.Executable;
import java.lang.reflect.Field;
import java.lang.reflect.Method;
import java.lang.reflect.Modifier;
import java.util.ArrayList;
import java.util.List;
import java.util.Set;
import java.util.TreeSet;

/** The face of the class is the document's, no more and no less, and each promise is of one call of it. */
public final class FaceTest {
    private FaceTest() {
    }

    public static void main(String[] args) {
        Set<String> told = new TreeSet<>();
        for (String line : Document.behind("The public face").split("\n")) {
            if (line.startsWith("    public ")) {
                told.add(plain(line));
            }
        }
        Set<String> found = face();
        Due.due("members of the face", told.size(), 49);
        for (String member : told) {
            Due.dueTrue("the class has " + member, found.contains(member));
        }
        for (String member : found) {
            Due.dueTrue("the document tells " + member, told.contains(member));
        }
        int modifiers = TexelBank.class.getModifiers();
        Due.dueTrue("public and final", Modifier.isPublic(modifiers) && Modifier.isFinal(modifiers));
        Due.dueTrue("a class of nothing else", TexelBank.class.getSuperclass() == Object.class && TexelBank.class.getInterfaces().length == 0);
        Due.due("NONE", TexelBank.NONE, -1);
        Due.due("STRANGE", TexelBank.STRANGE, -1000000001);
        promises(told);
        Due.close();
    }

    /** A line of the document's face, without the names of the numbers and what a constant is. */
    private static String plain(String line) {
        return line.trim().replaceAll(" = .*", "").replaceAll("(int|long) \\w+([,)])", "$1$2").replace(";", "");
    }

    private static Set<String> face() {
        Set<String> found = new TreeSet<>();
        for (Constructor<?> constructor : TexelBank.class.getDeclaredConstructors()) {
            add(found, constructor.getModifiers(), "TexelBank" + parameters(constructor));
        }
        for (Method method : TexelBank.class.getDeclaredMethods()) {
            add(found, method.getModifiers(), method.getReturnType() + " " + method.getName() + parameters(method));
        }
        for (Field field : TexelBank.class.getDeclaredFields()) {
            add(found, field.getModifiers(), field.getType() + " " + field.getName());
        }
        return found;
    }

    private static void add(Set<String> found, int modifiers, String member) {
        if (!Modifier.isPrivate(modifiers)) {
            found.add((Modifier.toString(modifiers) + " " + member).trim());
        }
    }

    private static String parameters(Executable call) {
        List<String> types = new ArrayList<>();
        for (Class<?> type : call.getParameterTypes()) {
            types.add(type.getName());
        }
        return "(" + String.join(", ", types) + ")";
    }

    private static void promises(Set<String> told) {
        Set<String> promised = new TreeSet<>();
        for (int number = 1; number <= 47; number++) {
            String text = Document.behind("Promise " + number);
            int from = text.indexOf('`');
            promised.add("public " + plain(text.substring(from + 1, text.indexOf('`', from + 1))));
        }
        Due.due("calls that are promised", promised.size(), 47);
        for (String call : promised) {
            Due.dueTrue("the face has the promised " + call, told.contains(call));
        }
    }
}
