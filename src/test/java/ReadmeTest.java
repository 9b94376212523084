import java.nio.charset.StandardCharsets;
import java.nio.file.Files;
import java.nio.file.Path;
import java.util.ArrayList;
import java.util.List;
import java.util.stream.Stream;

/** The example of README.md answers what it says there, and README.md names each call and each test. */
public final class ReadmeTest {
    private static final Path README = Path.of("README.md");
    private static final Path SELF = Path.of("src/test/java/ReadmeTest.java");
    private static final String FROM = "// The example begins.";
    private static final String TO = "// The example ends.";

    public static void main(String[] args) throws Exception {
        theExampleAnswersWhatItSays();
        theExampleIsThatOfTheReadme();
        eachCallIsNamed();
        eachTestIsNamed();
        Check.end();
    }

    private static void theExampleAnswersWhatItSays() {
        // The example begins.
        Trimwinder mill = new Trimwinder();
        mill.setMill(40, 4, 0, 6);                // deckle, knives, least and most trim
        int wide = mill.order(0, 15, 3, 0, 1);    // kind, width, rolls, tolerance, quality: number 0
        int slim = mill.order(0, 10, 2, 2, 3);    // number 1

        int least = mill.bound(0);                // 2: no plan of kind 0 has fewer sets
        int sets = mill.plan(0);                  // 2: so this is proved to be the fewest
        int trim = mill.trim();                   // 5 columns of both sets
        int wides = mill.patternAt(0, wide);      // 2: the first set is cut into two wide rolls
        int slims = mill.patternAt(0, slim);      // 1: and a slim one
        int moves = mill.moves();                 // 4 knives move between the two patterns

        int reel = mill.reel(0);                  // kind: number 0
        mill.flaw(reel, 0, 3, 2);                 // reel, set, column, flaw
        int good = mill.cut(reel, 0, 0);          // reel, set, pattern: 2 rolls are good, the flawed one is stock
        int rest = mill.cut(reel, 1, 1);          // 3: all rolls of the other pattern are good
        char state = mill.stateOf(0);             // 's': roll 0 is stock
        int broke = mill.give(0, slim);           // 5 columns: roll 0 is cut to the width of the slim order
        int sent = mill.ship(slim);               // 4 rolls
        int flaw = mill.claim(0);                 // 2: the flaw is in the columns that were kept
        long shipped = mill.weight('x');          // 40 tons
        boolean sound = mill.isSound();           // true
        // The example ends.
        Check.same("the orders", "0 1", wide + " " + slim);
        Check.same("the plan", "2 2 5 2 1 4",
                least + " " + sets + " " + trim + " " + wides + " " + slims + " " + moves);
        Check.same("the cuts", "0 2 3 s", reel + " " + good + " " + rest + " " + state);
        Check.same("the gift and what is shipped", "5 4 2 40 true",
                broke + " " + sent + " " + flaw + " " + shipped + " " + sound);
    }

    private static void theExampleIsThatOfTheReadme() throws Exception {
        List<String> due = between(SELF, FROM, TO);
        List<String> got = between(README, "```java", "```");
        Check.same("the example is there", true, due.size() > 20);
        Check.same("the example of README.md", String.join("\n", due), String.join("\n", got));
    }

    /** The lines between the first line that is the one text and the next one that is the other, without indents. */
    private static List<String> between(Path file, String from, String to) throws Exception {
        List<String> found = new ArrayList<>();
        boolean inside = false;
        for (String line : Files.readAllLines(file, StandardCharsets.UTF_8)) {
            String text = line.strip();
            if (inside && text.equals(to)) {
                return found;
            }
            if (inside) {
                found.add(text);
            }
            inside = inside || text.equals(from);
        }
        return found;
    }

    private static void eachCallIsNamed() throws Exception {
        String readme = Files.readString(README, StandardCharsets.UTF_8);
        for (var method : Trimwinder.class.getDeclaredMethods()) {
            if (java.lang.reflect.Modifier.isPublic(method.getModifiers())) {
                Check.same(method.getName() + " is named", true, readme.contains("`" + method.getName() + "`"));
            }
        }
    }

    private static void eachTestIsNamed() throws Exception {
        String readme = Files.readString(README, StandardCharsets.UTF_8);
        try (Stream<Path> files = Files.list(SELF.getParent())) {
            for (Path file : files.sorted().toList()) {
                String name = file.getFileName().toString();
                Check.same(name + " is named", true, readme.contains(name));
            }
        }
    }
}
