import java.io.IOException;
import java.nio.file.Files;
import java.nio.file.Path;
import java.util.List;

/** The example of README.md: each of its lines answers what stands behind it. */
public final class ReadmeTest {
    private static final String BEGIN = "```java";
    private static final String FINISH = "```";

    private final Due due = new Due();
    private final List<String> lines;
    private int next = 1;

    private ReadmeTest(List<String> readme) {
        List<String> behind = readme.subList(readme.indexOf(BEGIN) + 1, readme.size());
        lines = behind.subList(0, behind.indexOf(FINISH));
    }

    public static void main(String[] args) throws IOException {
        new ReadmeTest(Files.readAllLines(Path.of("README.md"))).go();
    }

    private void go() {
        InterleavedLink link = new InterleavedLink();
        due.yes("the first line", lines.get(0).equals("InterleavedLink link = new InterleavedLink();"));
        shows("link.header(0, 2, 20, false);", link.header(0, 2, 20, false));
        shows("link.header(0, 9, 300, true);", link.header(0, 9, 300, true));
        shows("link.request(false);", link.request(false));
        shows("link.write(0, 1, 0x030201L, 3, true);", link.write(0, 1, 0x030201L, 3, true));
        shows("link.pump(0, 8);", link.pump(0, 8));
        shows("link.frame(1, 1, 2);", link.frame(1, 1, 2));
        shows("link.deliver(1);", link.deliver(1));
        shows("link.field(1, 1, 1, true);", link.field(1, 1, 1, true));
        shows("link.deliver(1);", link.deliver(1));
        shows("link.state(1, 1);", link.state(1, 1));
        shows("link.read(1, 1, 7);", link.read(1, 1, 7));
        shows("link.header(1, 1, 0, false);", link.header(1, 1, 0, false));
        shows("link.respond(1, true);", link.respond(1, true));
        shows("link.deliver(0);", link.deliver(0));
        shows("link.deliver(0);", link.deliver(0));
        shows("link.state(0, 1);", link.state(0, 1));
        shows("link.setting(1, 4, 8);", link.setting(1, 4, 8));
        shows("link.deliver(0);", link.deliver(0));
        shows("link.deliver(1);", link.deliver(1));
        shows("link.reset(0, 1, 5);", link.reset(0, 1, 5));
        shows("link.request(true);", link.request(true));
        shows("link.inject(1, 0, 2, 5, false);", link.inject(1, 0, 2, 5, false));
        shows("link.deliver(1);", link.deliver(1));
        shows("link.deliver(0);", link.deliver(0));
        shows("link.down(0);", link.down(0));
        due.is("lines of the example", lines.size(), next);
        due.finish();
    }

    /** The next line is this call, and behind it stands what it answered. */
    private void shows(String call, Object answer) {
        String line = next < lines.size() ? lines.get(next) : "";
        int note = line.indexOf("// ");
        boolean isThere = note >= 0 && line.substring(0, note).trim().equals(call);
        due.yes("line " + next + " is " + call, isThere);
        due.yes(call + " answered " + answer + ", which the line says",
                isThere && line.startsWith(answer + ":", note + "// ".length()));
        next++;
    }
}
