import java.io.IOException;
import java.nio.file.Path;

/** Runs every test of the project; ends with exit code 1 if one failed. */
public final class AllTests {
    private static final int RANDOM_RUNS = 300;

    private AllTests() { }

    /** Where Newsfold.java, DOC.md and README.md stand, if elsewhere than seen from the project's folder. */
    public static void main(String[] args) throws IOException {
        Path source = Path.of(args.length > 0 ? args[0] : "src/main/java/Newsfold.java");
        Path document = Path.of(args.length > 1 ? args[1] : "../shared/DOC.md");
        Path readme = Path.of(args.length > 2 ? args[2] : "README.md");
        Sentence.read(document);
        TextTests.run();
        FetchTests.run();
        ItemTests.run();
        RuleTests.run();
        DeskTests.run();
        MorningTests.run();
        HouseTests.run();
        TextEdges.run();
        TextCallEdges.run();
        FetchEdges.run();
        StoryEdges.run();
        StoryCallEdges.run();
        DeskEdges.run();
        DeskCallEdges.run();
        MorningEdges.run();
        HouseEdges.run();
        SoundTests.run();
        Sentence.checkThatAllAreQuoted();
        RoomTests.run();
        LanguageTests.run(source, document);
        CallTests.run();
        ReadmeTests.run(readme);
        for (int seed = 0; seed < RANDOM_RUNS; seed++) {
            Check.is("random run " + seed, RandomRuns.play(seed), "");
        }
        System.out.println(Check.passed + " passed, " + Check.failed + " failed");
        if (Check.failed > 0) {
            System.exit(1);
        }
    }
}
