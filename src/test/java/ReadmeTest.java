import java.io.IOException;
import java.lang.reflect.Method;
import java.lang.reflect.Modifier;
import java.nio.file.Files;
import java.nio.file.Path;
import java.util.List;

/** README.md shows the calls that are run here, line by line, and names every call of the face and every test. */
public final class ReadmeTest {
    private static final Kit KIT = new Kit();

    public static void main(String[] args) throws IOException {
        example();
        String readme = Files.readString(Path.of("README.md"));
        shown(readme);
        named(readme);
        KIT.finish("ReadmeTest");
    }

    private static void tell(CakePapers x, String text) {
        Kit.tell(x, text);
    }

    private static void example() {
        // shown from here
        CakePapers cake = new CakePapers();
        cake.feed(0x6d616b65, 0x20612062, 0x79206220, 0x6f662063, 0x206d7563);
        cake.feed(0x68203120, 0x6c6f6e67, 0x20323b20, 0x20202020, 0x20202020);
        cake.end(31);
        int base = cake.paper();
        int steps = cake.makes(base, 0);
        tell(cake, "make a by b of c much 3 long 2;");
        int one = cake.paper();
        tell(cake, "make a by b of c much 5 long 4;");
        int other = cake.paper();
        int quarrels = cake.join(base, one, other);
        int field = cake.quarrel(0, 1);
        tell(cake, "want 0 - much;");
        int units = cake.want();
        int side = cake.best(0);
        cake.settle(0, side);
        int cakePaper = cake.joined();
        // shown up to here
        int[] got = {base, steps, one, other, quarrels, field, units, side, cakePaper};
        int[] due = {0, 1, 1, 2, 1, 2, 2, 2, 3};
        for (int i = 0; i < due.length; i++) {
            KIT.due("number " + i + " of the example", got[i], due[i]);
        }
        KIT.due("much", cake.step(cakePaper, 0, 0), 1);
        KIT.due("long", cake.step(cakePaper, 0, 1), 4);
    }

    private static void shown(String readme) throws IOException {
        List<String> source = Files.readAllLines(Path.of("src/test/java/ReadmeTest.java"));
        int at = 0;
        int lines = 0;
        boolean within = false;
        for (String line : source) {
            String bare = line.trim();
            if (bare.startsWith("// shown")) {
                within = bare.equals("// shown from here");
            } else if (within) {
                int found = readme.indexOf(bare, at);
                KIT.due("README.md shows " + bare, found >= 0, true);
                at = Math.max(found, at);
                lines++;
            }
        }
        KIT.due("lines shown", lines, 17);
    }

    private static void named(String readme) throws IOException {
        for (Method m : CakePapers.class.getDeclaredMethods()) {
            if (Modifier.isPublic(m.getModifiers())) {
                KIT.due("README.md tells of " + m.getName(), readme.contains("`" + m.getName() + "`"), true);
            }
        }
        try (var files = Files.list(Path.of("src/test/java"))) {
            for (Path file : files.toList()) {
                String name = file.getFileName().toString().replace(".java", "");
                KIT.due("README.md tells of " + name, !name.endsWith("Test") || readme.contains(name), true);
            }
        }
    }
}
