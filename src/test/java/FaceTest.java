import java.io.IOException;
import java.lang.reflect.Member;
import java.lang.reflect.Modifier;
import java.nio.file.Files;
import java.nio.file.Path;
import java.util.ArrayList;
import java.util.List;
import java.util.TreeSet;

/** The document's face, the room that calls take, and what can be seen of LANGUAGE.md in the program's text. */
public final class FaceTest extends Checks {
    public static void main(String[] args) throws IOException {
        constants();
        members();
        room();
        words();
        finish("FaceTest");
    }

    private static void constants() {
        int[] got = {DeltaFerry.NONE, DeltaFerry.BROKEN, DeltaFerry.SECOND, DeltaFerry.LARGE, DeltaFerry.TABLE,
            DeltaFerry.CHECK, DeltaFerry.OTHER, DeltaFerry.ADD, DeltaFerry.RUN, DeltaFerry.COPY};
        int[] want = {-1, -2, -3, -4, -5, -6, -7, 1, 2, 3};
        for (int i = 0; i < got.length; i++) {
            due("constant " + i, got[i], want[i]);
        }
    }

    private static void members() {
        Class<?> face = DeltaFerry.class;
        TreeSet<String> open = new TreeSet<>();
        TreeSet<String> hidden = new TreeSet<>();
        List<Member> all = new ArrayList<>();
        all.addAll(List.of(face.getDeclaredFields()));
        all.addAll(List.of(face.getDeclaredMethods()));
        all.addAll(List.of(face.getDeclaredConstructors()));
        for (Member member : all) {
            if (!member.isSynthetic()) {
                (Modifier.isPrivate(member.getModifiers()) ? hidden : open).add(member.getName());
            }
        }
        TreeSet<String> want = new TreeSet<>(List.of("NONE", "BROKEN", "SECOND", "LARGE", "TABLE", "CHECK", "OTHER",
            "ADD", "RUN", "COPY", "DeltaFerry", "put", "set", "copy", "clear", "size", "at", "digest", "sum", "sign",
            "scan", "differ", "instruction", "encode", "decode", "begin", "step"));
        due("the face is " + open, open.equals(want), true);
        for (java.lang.reflect.Method method : face.getDeclaredMethods()) {
            boolean twice = Modifier.isPrivate(method.getModifiers()) && want.contains(method.getName());
            due("private " + method.getName(), twice, false);
        }
        for (Class<?> inside : face.getDeclaredClasses()) {
            due(inside + " is static", Modifier.isStatic(inside.getModifiers()), true);
        }
        due("classes", face.getDeclaredClasses().length <= 12, true);
        due("final", Modifier.isFinal(face.getModifiers()), true);
    }

    private static long allocated() {
        com.sun.management.ThreadMXBean bean =
            (com.sun.management.ThreadMXBean) java.lang.management.ManagementFactory.getThreadMXBean();
        return bean.getThreadAllocatedBytes(Thread.currentThread().getId());
    }

    /** All calls of a run live in one room: 7.3 million elements of eight bytes at most, in 600,000 objects. */
    private static void room() {
        DeltaFerry x = new DeltaFerry();
        allocated();
        long before = allocated();
        x = new DeltaFerry();
        fill(x, 0, mixed(300, 1));
        fill(x, 1, joined(mixed(200, 1), times(100, 7)));
        for (int i = 0; i < 26; i++) {
            x.put(i % 3, i, 1 + i % 8);
            x.set(i % 3, i, i);
            x.copy(3, i % 3 == 0 ? 1 : 4);
            x.copy(0, 1);
            x.digest(i % 4, i % 2);
            x.sum(i % 4, 0, i);
            x.sign(4 + i % 60);
            x.scan(16 + i % 200);
            x.differ(1 + i % 16, 16 + i % 200);
            x.instruction(i, i % 4);
            x.encode(i % 2 == 0);
            x.decode();
            x.begin(4 + i % 60, 16 + i % 200);
            x.step();
            x.step();
            x.step();
        }
        long taken = allocated() - before;
        due("a run takes " + taken + " bytes", taken < 8 * 7_300_000 + 16 * 600_000, true);
    }

    private static void words() throws IOException {
        String path = System.getenv("DELTA_FERRY_SOURCE");
        if (path == null) {
            return;
        }
        String text = Files.readString(Path.of(path)).replaceAll("(?s)/\\*.*?\\*/", "").replaceAll("//[^\n]*", "")
            .replaceAll("(case [^:;{}]*|default *)->", "");
        for (String word : List.of("->", "::", "\\bsynchronized\\b", "\\bassert\\b", "\\bfinally\\b",
                "\\bpackage\\b", "\\bRandom\\b", "\\bThread\\b", "nanoTime", "currentTimeMillis", "Exact\\(",
                "getMessage")) {
            boolean found = java.util.regex.Pattern.compile(word).matcher(text).find();
            due("the program has '" + word + "'", found, false);
        }
        for (String line : text.split("\n")) {
            if (line.startsWith("import ")) {
                boolean listed = line.matches(
                    "import java.util.(Arrays|ArrayList|List|Iterator|NoSuchElementException);\\s*");
                due(line, listed, true);
            }
        }
    }
}
