import java.io.IOException;
import java.nio.charset.StandardCharsets;
import java.nio.file.Files;
import java.nio.file.Path;
import java.util.ArrayList;
import java.util.List;

/**
 * README.md's examples, with the answers that it tells. Each of its lines stands here as it stands there, so
 * an answer is taken by a line of its own. .ci/run starts tests in the project's folder.
 */
public final class ReadmeTest {
    public static void main(String[] args) throws IOException {
        blocksAndCounting();
        wideBlocksAndChain();
        sameAsInReadme();
        Expect.finish();
    }

    private static void blocksAndCounting() {
        RotationCiphers x = new RotationCiphers();
        x.feed(8, 0x0807060504030201L);
        int subkeys =
        x.key(1, 12);
        Expect.equal("kind 1 with 12 rounds", subkeys, 26);

        long sealed = x.seal(42, 0, 1);
        long opened = x.open(sealed, 0, 1);
        Expect.isTrue("another block", sealed != 42);
        Expect.equal("42 again", opened, 42);

        x.start(7, 0);
        x.feed(5, 0x6F6C6C6568L);
        int blocks =
        x.mode(2, true);
        Expect.equal("1 block, a shorter one", blocks, 1);
        long five = x.tape(0);
        Expect.equal("the sealed bytes, 0 behind them", five, (x.seal(7, 0, 1) ^ 0x6F6C6C6568L) & 0xFFFFFFFFFFL);
        x.mode(2, false);
        Expect.equal("the five bytes again", x.tape(0), 0x6F6C6C6568L);
    }

    private static void wideBlocksAndChain() {
        RotationCiphers y = new RotationCiphers();
        int subkeys =
        y.key(2, 20);
        Expect.equal("kind 2 with an empty key", subkeys, 44);
        long low = y.seal(1, 2, 1);
        long high = y.other();
        Expect.equal("the first long opened", y.open(low, high, 1), 1);
        Expect.equal("the second long opened", y.other(), 2);

        y.start(3, 4);
        y.feed(8, 5);
        long sum = y.check();
        Expect.equal("the tape stays", y.tape(0), 5);
        y.feed(8, 0);
        int blocks =
        y.mode(1, true);
        Expect.equal("one whole block", blocks, 1);
        Expect.equal("what check() answered", y.tape(0), sum);
    }

    private static void sameAsInReadme() throws IOException {
        List<String> here = lines("src/test/java/ReadmeTest.java");
        List<String> example = example(lines("README.md"));
        Expect.isTrue("README.md has examples", example.size() > 0);
        int at = 0;
        for (String line : example) {
            while (at < here.size() && !here.get(at).equals(line)) {
                at++;
            }
            Expect.isTrue("README.md's line is tested, in its order: " + line, at < here.size());
            at++;
        }
    }

    /** The statements between the lines that begin and end Java code, without their comments. */
    private static List<String> example(List<String> readme) {
        List<String> statements = new ArrayList<>();
        boolean inside = false;
        for (String line : readme) {
            if (line.startsWith("```")) {
                inside = line.equals("```java");
            } else if (inside && !line.isEmpty()) {
                statements.add(line.replaceAll("\\s*//.*", ""));
            }
        }
        return statements;
    }

    private static List<String> lines(String path) throws IOException {
        List<String> lines = new ArrayList<>();
        for (String line : Files.readAllLines(Path.of(path), StandardCharsets.UTF_8)) {
            lines.add(line.trim());
        }
        return lines;
    }
}
