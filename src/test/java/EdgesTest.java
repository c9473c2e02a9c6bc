import java.nio.file.Path;

/**
 * Every sentence of the document has a test of its edges; each is run, and none
 * of the words is left out. With the argument list: which test is of which words.
 */
public final class EdgesTest {
    private static final Path DOCUMENT = Path.of("../shared/DOC.md");

    public static void main(String[] args) throws Exception {
        Sentences sentences = new Sentences(DOCUMENT);
        Edges.begin(sentences, args.length > 0 && args[0].equals("list"));
        Edges.run(EdgesOfText.class);
        Edges.run(EdgesOfWays.class);
        Edges.run(EdgesOfHills.class);
        Edges.run(EdgesOfJumpers.class);
        Edges.run(EdgesOfSheets.class);
        int wrong = Edges.countWrong();
        for (String rest : sentences.unsaid()) {
            wrong++;
            System.out.println("no test says: " + rest);
        }
        System.out.println("EdgesTest: " + Edges.countTests() + " tests, " + wrong + " faults");
        System.exit(wrong == 0 ? 0 : 1);
    }
}
