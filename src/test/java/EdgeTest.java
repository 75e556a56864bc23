/**
 * The boundary cases: for each sentence of the document that names one, a test of its own, under the number of its
 * promise and in the document's words.
 */
public final class EdgeTest {
    public static void main(String[] args) {
        Check check = new Check();
        new EdgeText(check).run();
        new EdgeThings(check).run();
        new EdgeActions(check).run();
        new EdgeHours(check).run();
        new EdgeUndo(check).run();
        new EdgeWouldBe(check).run();
        new EdgeScripts(check).run();
        new EdgeSlots(check).run();
        new EdgeRefused(check).run();
        for (String line : Document.unquoted()) {
            check.that("no test for a sentence of the document: " + line, false);
        }
        check.end();
    }
}
