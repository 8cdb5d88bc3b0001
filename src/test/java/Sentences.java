/**
 * Tests of single sentences of the document. Each is named by the part of the document and the sentence's own words,
 * so that what is printed for a wrong answer says which sentence is broken.
 */
final class Sentences {
    final Checks checks = new Checks();
    private int tested = 0;

    void test(String part, String sentence, Runnable test) {
        int before = checks.made();
        checks.about(part + ", \"" + sentence + "\"");
        checks.taken("the test goes to its end", test);
        checks.same("answers are looked at", checks.made() > before + 1, true);
        tested++;
    }

    void done(String test) {
        checks.done(test + ", " + tested + " sentences");
    }
}
