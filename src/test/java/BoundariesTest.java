import java.io.IOException;
import java.util.List;

/** Every sentence of the document's terms and promises, each with a test of its own; none may be left without one. */
public final class BoundariesTest {
    public static void main(String[] args) throws IOException {
        Document document = new Document();
        List<Checks> parts = List.of(new RefusalBoundaries(document), new MarksBoundaries(document), new FindsBoundaries(document),
            new DivesBoundaries(document), new RulesBoundaries(document), new PlansBoundaries(document), new AboardBoundaries(document));
        int wrong = 0;
        for (Checks part : parts) {
            part.run();
            wrong += part.wrong;
        }
        for (String stretch : document.untested()) {
            wrong++;
            System.out.println("no test has this sentence: " + stretch);
        }
        System.out.println(wrong == 0 ? "all sentences are as due" : wrong + " answers are not as due");
        if (wrong != 0) System.exit(1);
    }
}
