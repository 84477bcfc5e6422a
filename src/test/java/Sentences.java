/** Checks that stand beside sentences of the document: each sentence is quoted before the calls that it is about. */
final class Sentences extends Checks {
    private final Document document = new Document();
    private int madeBefore;
    private boolean isOpen;

    /** The checks that follow, at least one, are about these words, which stand under the heading. */
    void says(String heading, String words) {
        close();
        quote(heading, words);
        isOpen = true;
    }

    /** These words leave something free, so no check can stand beside them. */
    void plain(String heading, String words) {
        close();
        quote(heading, words);
    }

    private void quote(String heading, String words) {
        int line = document.quote(heading, words);
        about("DOC.md line " + line + ", " + heading + ", \"" + words + "\": ");
        if (line == Document.NOT_THERE) {
            due("the words stand there once", false);
        }
        madeBefore = made();
    }

    private void close() {
        if (isOpen && made() == madeBefore) {
            due("a check beside the words", false);
        }
        isOpen = false;
    }

    @Override
    void finish(String test) {
        close();
        about("");
        for (String words : document.unquoted()) {
            due("a test beside " + words, false);
        }
        super.finish(test);
    }
}
