import java.util.ArrayList;
import java.util.List;

/** For each sentence of the document that names a boundary case a test of its own; and that no sentence is left out. */
public final class BoundaryTest {
    /** Beginnings of the sentences that name no boundary case: what there is, headings, and what is not promised. */
    private static final String[] WITHOUT_BOUNDARIES = {
        "A meter reader who rounds in favour", "what later calls answer is free.", "All numbers are whole numbers, where no float is told.",
        "Houses, meters", "Readings, balances", "The settings are (in parentheses: range;", "Ahead of the calls ", "`int ",
        "Returns the number;", "Returns the house;", "Returns that;", "How the state is held", "Use of one object from several threads",
        "Nothing is promised beyond"};

    public static void main(String[] args) {
        for (Edges part : new Edges[] {new HouseEdges(), new ReadingEdges(), new WalkEdges(), new WouldBeEdges(), new HistoryEdges(),
            new RefusalEdges(), new TextEdges()}) {
            part.run();
        }
        List<String> leftOut = leftOut();
        for (String sentence : leftOut) System.out.println("no test quotes: " + sentence);
        System.out.println("BoundaryTest: " + Edges.tests + " tests, " + Edges.asked + " answers, " + Edges.wrong + " wrong, "
            + leftOut.size() + " sentences without a test");
        if (Edges.wrong != 0 || !leftOut.isEmpty()) System.exit(1);
    }

    private static List<String> leftOut() {
        List<String> leftOut = new ArrayList<>();
        for (String sentence : Edges.DOCUMENT.untested()) {
            boolean isLeftOut = true;
            for (String known : WITHOUT_BOUNDARIES) if (sentence.startsWith(known)) isLeftOut = false;
            if (isLeftOut) leftOut.add(sentence);
        }
        return leftOut;
    }
}
