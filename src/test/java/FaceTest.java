import java.io.IOException;
import java.lang.reflect.Field;
import java.lang.reflect.Method;
import java.lang.reflect.Modifier;
import java.nio.file.Files;
import java.nio.file.Path;
import java.util.ArrayList;
import java.util.Collections;
import java.util.List;
import java.util.TreeSet;

/** The public face, and what of LANGUAGE.md a plain look at the class and its source can tell. */
final class FaceTest {
    private static final Path SOURCE = Path.of("src/main/java/PostShares.java");
    private static final String FACE = "against(int) back() best() binds(int,int) clear() course(int) digest():long "
        + "foreseen(int) joins(int,int) lot(int,int) party(int,int) rates(int,int,int) reads() reason(int) rule(int) "
        + "sincere(int) strength(int,int) takes(int) taking(int,int) told(int) turn(int) type(int) vetoes(int) "
        + "without(int,int) worth(int,int)";

    public static void main(String[] args) throws IOException {
        constants();
        methods();
        fields();
        classesInside();
        forbiddenWords();
        Desk.end();
    }

    private static void constants() {
        Desk.check("NONE", PostShares.NONE, -1);
        Desk.check("BAD", PostShares.BAD, -2);
        Desk.check("NO", PostShares.NO, -3);
        Desk.check("FULL", PostShares.FULL, -4);
    }

    private static void methods() {
        Class<?> shares = PostShares.class;
        Desk.check("public and final", Modifier.toString(shares.getModifiers()), "public final");
        Desk.check("one constructor", shares.getDeclaredConstructors().length, 1);
        Desk.check("its arguments", shares.getConstructors()[0].getParameterCount(), 0);
        List<String> face = new ArrayList<>();
        List<String> hidden = new ArrayList<>();
        TreeSet<String> names = new TreeSet<>();
        for (Method m : shares.getDeclaredMethods()) {
            if (Modifier.isPrivate(m.getModifiers())) {
                hidden.add(m.getName());
            } else {
                face.add(told(m));
                names.add(m.getName());
            }
        }
        Collections.sort(face);
        Desk.check("the face", String.join(" ", face), FACE);
        for (Class<?> inside : shares.getDeclaredClasses()) {
            for (Method m : inside.getDeclaredMethods()) {
                hidden.add(m.getName());
            }
        }
        for (String name : hidden) {
            Desk.check("a method inside named " + name, names.contains(name), false);
        }
    }

    private static String told(Method m) {
        List<String> types = new ArrayList<>();
        for (Class<?> type : m.getParameterTypes()) {
            types.add(type.getName());
        }
        String answer = m.getReturnType() == int.class ? "" : ":" + m.getReturnType().getName();
        return m.getName() + "(" + String.join(",", types) + ")" + answer;
    }

    private static void fields() {
        TreeSet<String> visible = new TreeSet<>();
        for (Field f : PostShares.class.getDeclaredFields()) {
            if (!Modifier.isPrivate(f.getModifiers())) {
                visible.add(Modifier.toString(f.getModifiers()) + " " + f.getName());
            }
        }
        Desk.check("visible fields", visible.toString(), "[public static final BAD, public static final FULL, "
            + "public static final NO, public static final NONE]");
    }

    private static void classesInside() {
        int classes = 0;
        for (Class<?> inside : PostShares.class.getDeclaredClasses()) {
            classes++;
            Desk.check(inside + " is static", Modifier.isStatic(inside.getModifiers()), true);
            int own = 0;
            for (Field f : inside.getDeclaredFields()) {
                if (Modifier.isStatic(f.getModifiers())) {
                    Desk.check(f + " is final", Modifier.isFinal(f.getModifiers()), true);
                } else {
                    own++;
                }
            }
            Desk.check(inside + " has some twenty fields", own <= 20, true);
        }
        Desk.check("some twelve classes", classes <= 11, true);
    }

    private static void forbiddenWords() throws IOException {
        String source = Files.readString(SOURCE);
        String code = source.replaceAll("(?s)/\\*.*?\\*/", "").replaceAll("//[^\n]*", "");
        String[] words = {"throw", "throws", "try", "catch", "synchronized", "assert", "package", "Exception",
            "hashCode", "toString", "System.out", "Random", "Thread", "Map", "Set"};
        for (String word : words) {
            boolean found = code.matches("(?s).*\\b" + word.replace(".", "\\.") + "\\b.*");
            Desk.check("the word " + word, found, false);
        }
        Desk.check("a lambda or a method reference", code.contains("->") || code.contains("::"), false);
        Desk.check("one import", code.split("import ", -1).length - 1, 1);
        for (int i = 0; i < source.length(); i++) {
            if (source.charAt(i) > 126) {
                Desk.check("a sign beyond 126", (int) source.charAt(i), 126);
            }
        }
    }
}
