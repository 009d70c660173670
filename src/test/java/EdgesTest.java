import java.util.List;

/** Each sentence of the document that names an edge, quoted and looked at; none of them is passed over. */
public final class EdgesTest {
    private EdgesTest() {
    }

    public static void main(String[] args) {
        Due due = new Due();
        Doc doc = new Doc();
        List<Edges> all = List.of(new EdgesOfTexts(due, doc), new EdgesOfThings(due, doc), new EdgesOfYears(due, doc),
            new EdgesOfWays(due, doc), new EdgesOfSights(due, doc), new EdgesOfSheets(due, doc));
        for (Edges edges : all) {
            edges.test();
        }
        due.about("the document");
        due.is("its promises", doc.promises(), 42);
        List<String> left = doc.passedOver();
        left.forEach(System.out::println);
        due.is("edges that no test quotes", left.size(), 0);
        due.finish();
    }
}
