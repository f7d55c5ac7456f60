import java.lang.reflect.Constructor;
import java.lang.reflect.Field;
import java.lang.reflect.Method;
import java.lang.reflect.Modifier;
import java.nio.file.Files;
import java.nio.file.Path;
import java.util.List;
import java.util.Map;
import java.util.TreeMap;

/** The document's face and nothing beside it; and of LANGUAGE.md what a look at the source can tell. */
public final class FaceTest {
    private static final Kit KIT = new Kit();
    private static final Map<String, String> FACE = new TreeMap<>();

    static {
        String[] ints = {"feed 5", "end 1", "paper 0", "want 0", "fault 1", "makes 2", "step 3", "same 2", "alike 3", "changes 2",
            "change 4", "least 2", "does 3", "join 3", "quarrel 2", "joined 0", "best 1", "left 1", "ruin 4", "law 5", "three 5",
            "leans 3", "begun 4", "image 1", "back 1", "about 1"};
        for (String s : ints) {
            FACE.put(s.split(" ")[0], "int " + s.split(" ")[1]);
        }
        FACE.put("settle", "boolean 2");
        FACE.put("tear", "boolean 1");
    }

    public static void main(String[] args) throws Exception {
        members();
        source();
        KIT.finish("FaceTest");
    }

    private static void members() {
        Class<?> c = CakePapers.class;
        KIT.due("the class is final", Modifier.isFinal(c.getModifiers()), true);
        int methods = 0;
        for (Method m : c.getDeclaredMethods()) {
            if (m.isSynthetic()) {
                continue;
            }
            boolean open = Modifier.isPublic(m.getModifiers());
            KIT.due(m + " is public or private", open || Modifier.isPrivate(m.getModifiers()), true);
            KIT.due(m + " bears a name of the face", FACE.containsKey(m.getName()), open);
            if (open) {
                methods++;
                KIT.due(m + " is as told", (m.getReturnType() + " " + m.getParameterCount()).equals(FACE.get(m.getName())), true);
                for (Class<?> p : m.getParameterTypes()) {
                    KIT.due(m + " takes ints", p == int.class, true);
                }
            }
        }
        KIT.due("methods", methods, FACE.size());
        for (Field f : c.getDeclaredFields()) {
            boolean constant = f.getName().equals("NONE") || f.getName().equals("GAP");
            KIT.due(f + " is public", Modifier.isPublic(f.getModifiers()), constant);
            KIT.due(f + " is private", Modifier.isPrivate(f.getModifiers()), !constant);
        }
        Constructor<?>[] constructors = c.getDeclaredConstructors();
        KIT.due("constructors", constructors.length, 1);
        KIT.due("of no arguments", constructors[0].getParameterCount(), 0);
        KIT.due("public", Modifier.isPublic(constructors[0].getModifiers()), true);
        for (Class<?> inside : c.getDeclaredClasses()) {
            KIT.due(inside + " is static", Modifier.isStatic(inside.getModifiers()), true);
            for (Method m : inside.getDeclaredMethods()) {
                KIT.due(m + " bears no name of the face", FACE.containsKey(m.getName()), false);
                KIT.due(m + " takes seven at most", m.getParameterCount() <= 7, true);
            }
            long own = List.of(inside.getDeclaredFields()).stream().filter(f -> !Modifier.isStatic(f.getModifiers())).count();
            KIT.due(inside + " has some twenty fields at most", own <= 20, true);
        }
        KIT.due("some twelve classes", c.getDeclaredClasses().length <= 12, true);
    }

    private static void source() throws Exception {
        String text = Files.readString(Path.of("src/main/java/CakePapers.java"));
        String bare = text.replaceAll("(?s)/\\*.*?\\*/", "").replaceAll("//[^\n]*", "")
                .replaceAll("\"[^\"\n]*\"", "\"\"");
        for (String word : "throw try catch synchronized assert import package native volatile transient instanceof".split(" ")) {
            KIT.due("the source says " + word, bare.matches("(?s).*\\b" + word + "\\b.*"), false);
        }
        KIT.due("no lambda", bare.contains("->"), false);
        KIT.due("no method reference", bare.contains("::"), false);
        KIT.due("no sign beyond 127", text.chars().allMatch(s -> s < 128), true);
        int opened = 0;
        int line = 0;
        for (String s : text.split("\n", -1)) {
            line++;
            boolean method = s.matches("( {4}| {8})[A-Za-z].*\\) \\{") || s.matches("( {4}| {8})[A-Za-z].*\\($");
            opened = method ? line : opened;
            if (s.matches("( {4}| {8})\\}")) {
                KIT.due("line " + line + ": a method of some sixty lines", line - opened <= 60 || s.startsWith("    }"), true);
            }
        }
    }
}
