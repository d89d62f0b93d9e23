import java.io.IOException;
import java.nio.file.Files;
import java.nio.file.Path;

/** README.md's examples: each call with the answer that its comment begins with. */
public final class ReadmeTest extends Checks {
    public static void main(String[] args) throws IOException {
        differed();
        stepped();
        toldInReadme();
        finish("ReadmeTest");
    }

    private static void differed() {
        DeltaFerry ferry = new DeltaFerry();
        due("put OLD", ferry.put(0, 0x6867666564636261L, 8), true);
        due("put NEW", ferry.put(1, 0x6463626121L, 5), true);
        due("differ", ferry.differ(8, 64), 2);
        due("instruction", ferry.instruction(1, 0), COPY);
        due("encode", ferry.encode(true), 21);
        due("decode", ferry.decode(), 5);
        due("at", ferry.at(3, 0), 33);
        dueFile("the RESULT", ferry, 3, bytesOf("!abcd"));
    }

    private static void stepped() {
        DeltaFerry ferry = new DeltaFerry();
        due("put OLD", ferry.put(0, 0x6867666564636261L, 8), true);
        due("put NEW", ferry.put(1, 0x6463626121L, 5), true);
        due("begin", ferry.begin(4, 16), true);
        due("first step", ferry.step(), 2);
        due("second step", ferry.step(), 21);
        due("third step", ferry.step(), 5);
        dueFile("the RESULT", ferry, 3, bytesOf("!abcd"));
    }

    /** So that README.md's comments do not go on without this test. */
    private static void toldInReadme() throws IOException {
        String program = System.getenv("DELTA_FERRY_SOURCE");
        if (program == null) {
            return;
        }
        Path readme = Path.of(program).toAbsolutePath().resolve("../../../../README.md").normalize();
        if (!Files.exists(readme)) {
            return;
        }
        String text = Files.readString(readme).replaceAll(" +", " ");
        for (String line : new String[] {"ferry.put(0, 0x6867666564636261L, 8); // true",
            "ferry.put(1, 0x6463626121L, 5); // true", "ferry.differ(8, 64); // 2 ",
            "ferry.instruction(1, 0); // 3,", "ferry.encode(true); // 21:", "ferry.decode(); // 5:",
            "ferry.at(3, 0); // 33,", "ferry.begin(4, 16); // true", "ferry.step(); // 2 ", "ferry.step(); // 21:",
            "ferry.step(); // 5:"}) {
            due("README.md has '" + line + "'", text.contains(line), true);
        }
    }
}
