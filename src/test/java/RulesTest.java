import java.io.DataInputStream;
import java.io.IOException;
import java.io.InputStream;
import java.util.ArrayList;
import java.util.HashMap;
import java.util.HashSet;
import java.util.List;
import java.util.Map;
import java.util.Set;
import java.util.TreeMap;
import java.util.TreeSet;

/** What LANGUAGE.md says of calls (rules 4, 8 and 11), read from the compiled class: who calls whom. */
public final class RulesTest {
    private static final Kit KIT = new Kit();
    private static final int MOST_DEEP = 8;
    private static final Set<String> LIBRARY = Set.of("java/lang/Object.<init>", "java/lang/String.length",
            "java/lang/String.charAt", "java/lang/String.isEmpty", "java/lang/String.indexOf", "java/lang/Math.max",
            "java/lang/Math.min", "java/lang/Integer.bitCount", "java/lang/System.arraycopy");
    private static final Set<String> RECURSIVE = Set.of("readAny", "readBoth", "readOne", "readSum", "readTerm", "readUnit");

    private static final Map<String, Set<String>> CALLS = new TreeMap<>();

    public static void main(String[] args) throws IOException {
        read(CakePapers.class);
        for (Class<?> inside : CakePapers.class.getDeclaredClasses()) {
            read(inside);
        }
        library();
        recursion();
        depth();
        KIT.finish("RulesTest");
    }

    private static void library() {
        Set<String> asked = new TreeSet<>();
        CALLS.values().forEach(asked::addAll);
        asked.removeIf(name -> name.startsWith("CakePapers"));
        for (String name : asked) {
            KIT.due(name + " is in the library", LIBRARY.contains(name.substring(0, name.indexOf('('))), true);
        }
    }

    private static void recursion() {
        for (String name : CALLS.keySet()) {
            String bare = name.substring(name.indexOf('.') + 1, name.indexOf('('));
            KIT.due(name + " calls itself", reachable(name).contains(name), RECURSIVE.contains(bare));
        }
    }

    private static void depth() {
        Map<String, List<String>> known = new HashMap<>();
        for (String name : CALLS.keySet()) {
            if (name.startsWith("CakePapers.")) {
                List<String> chain = deepest(name, known);
                KIT.due("at most eight deep: " + chain, chain.size() <= MOST_DEEP, true);
            }
        }
        KIT.due("law is looked at", known.keySet().stream().anyMatch(name -> name.startsWith("CakePapers.law(")), true);
    }

    private static Set<String> reachable(String from) {
        Set<String> seen = new HashSet<>();
        List<String> open = new ArrayList<>(List.of(from));
        while (!open.isEmpty()) {
            for (String name : CALLS.getOrDefault(open.remove(open.size() - 1), Set.of())) {
                if (seen.add(name)) {
                    open.add(name);
                }
            }
        }
        return seen;
    }

    /** The longest chain of calls; those that call one another count as one. */
    private static List<String> deepest(String name, Map<String, List<String>> known) {
        if (known.containsKey(name)) {
            return known.get(name);
        }
        Set<String> ring = new HashSet<>(Set.of(name));
        for (String other : reachable(name)) {
            if (reachable(other).contains(name)) {
                ring.add(other);
            }
        }
        List<String> longest = List.of();
        for (String member : ring) {
            for (String called : CALLS.getOrDefault(member, Set.of())) {
                List<String> chain = ring.contains(called) ? List.of() : deepest(called, known);
                longest = chain.size() > longest.size() ? chain : longest;
            }
        }
        List<String> whole = new ArrayList<>(List.of(name));
        whole.addAll(longest);
        known.put(name, whole);
        return whole;
    }

    private static void read(Class<?> c) throws IOException {
        try (InputStream file = RulesTest.class.getResourceAsStream("/" + c.getName() + ".class")) {
            DataInputStream in = new DataInputStream(file);
            in.readLong();
            Object[] pool = readPool(in);
            in.readInt();
            in.readUnsignedShort();
            in.skipBytes(2 * in.readUnsignedShort());
            readMembers(in, pool, null);
            readMembers(in, pool, c.getName());
        }
    }

    /** Texts as such; classes as int[1], references and their names as int[2]. */
    private static Object[] readPool(DataInputStream in) throws IOException {
        Object[] pool = new Object[in.readUnsignedShort()];
        for (int i = 1; i < pool.length; i++) {
            int tag = in.readUnsignedByte();
            switch (tag) {
                case 1: pool[i] = in.readUTF(); break;
                case 3: case 4: in.readInt(); break;
                case 5: case 6: in.readLong(); i++; break;
                case 7: case 8: case 16: case 19: case 20: pool[i] = new int[] {in.readUnsignedShort()}; break;
                case 15: in.readUnsignedByte(); in.readUnsignedShort(); break;
                default: pool[i] = new int[] {in.readUnsignedShort(), in.readUnsignedShort()}; break;
            }
        }
        return pool;
    }

    private static void readMembers(DataInputStream in, Object[] pool, String owner) throws IOException {
        int count = in.readUnsignedShort();
        for (int i = 0; i < count; i++) {
            in.readUnsignedShort();
            String name = owner + "." + pool[in.readUnsignedShort()] + pool[in.readUnsignedShort()];
            int attributes = in.readUnsignedShort();
            for (int k = 0; k < attributes; k++) {
                boolean code = "Code".equals(pool[in.readUnsignedShort()]);
                byte[] bytes = new byte[in.readInt()];
                in.readFully(bytes);
                if (code && owner != null) {
                    CALLS.put(name, callsIn(bytes, pool));
                }
            }
        }
    }

    /** Of a Code attribute: two words, the length, the code. */
    private static Set<String> callsIn(byte[] bytes, Object[] pool) {
        Set<String> calls = new TreeSet<>();
        int end = 8 + number(bytes, 4, 4);
        for (int at = 8; at < end; at += length(bytes, at)) {
            int code = bytes[at] & 255;
            KIT.due("no call put together as it runs", code == 186, false);
            if (code >= 182 && code <= 185) {
                int[] reference = (int[]) pool[number(bytes, at + 1, 2)];
                int[] named = (int[]) pool[reference[1]];
                calls.add((String) pool[((int[]) pool[reference[0]])[0]] + "." + pool[named[0]] + pool[named[1]]);
            }
        }
        return calls;
    }

    private static int number(byte[] bytes, int at, int count) {
        int number = 0;
        for (int i = at; i < at + count; i++) {
            number = number << 8 | bytes[i] & 255;
        }
        return number;
    }

    private static int length(byte[] bytes, int at) {
        int code = bytes[at] & 255;
        int table = 8 + (at - 8 + 4) / 4 * 4;
        if (code == 170) {
            return table + 12 + 4 * (number(bytes, table + 8, 4) - number(bytes, table + 4, 4) + 1) - at;
        }
        if (code == 171) {
            return table + 8 + 8 * number(bytes, table + 4, 4) - at;
        }
        if (code == 196) {
            return (bytes[at + 1] & 255) == 132 ? 6 : 4;
        }
        if (code == 185 || code == 186 || code >= 200) {
            return 5;
        }
        if (code == 197) {
            return 4;
        }
        boolean two = code == 16 || code == 18 || code >= 21 && code <= 25 || code >= 54 && code <= 58 || code == 169 || code == 188;
        boolean three = code == 17 || code == 19 || code == 20 || code == 132 || code >= 153 && code <= 168
                || code >= 178 && code <= 184 || code == 187 || code == 189 || code == 192 || code == 193
                || code == 198 || code == 199;
        return two ? 2 : three ? 3 : 1;
    }
}
