import java.io.IOException;
import java.io.UncheckedIOException;
import java.nio.file.Files;
import java.nio.file.Path;

/** Counts the answers that are not as due, and tells with them the document's words that they break. */
final class Check {
    private static final Path DOCUMENT = Path.of("../shared/DOC.md");

    private final String document = document();
    private String words = "";
    private int wrong = 0;

    /** The document's words that the answers from here on are held against; they have to stand in it. */
    void says(String quote) {
        words = quote;
        // Where the document is not at hand, its words can't be looked up; the answers are tried all the same.
        if (!document.isEmpty() && !document.contains(folded(quote))) {
            wrong++;
            System.out.println("the document does not say: " + quote);
        }
    }

    void due(String call, long got, long want) {
        if (got != want) {
            tell(call + " answered " + got + ", due is " + want);
        }
    }

    void same(String call, String got, String want) {
        if (!got.equals(want)) {
            tell(call + " left\n" + got + "due is\n" + want);
        }
    }

    void yes(String what, boolean holds) {
        if (!holds) {
            tell(what);
        }
    }

    private void tell(String what) {
        wrong++;
        System.out.println(what);
        if (!words.isEmpty()) {
            System.out.println("    the document says: " + words);
        }
    }

    /** Ends the test: with 1 if there was a wrong answer. */
    void end() {
        if (wrong != 0) {
            System.exit(1);
        }
    }

    private static String document() {
        try {
            return Files.exists(DOCUMENT) ? folded(Files.readString(DOCUMENT)) : "";
        } catch (IOException e) {
            throw new UncheckedIOException(e);
        }
    }

    private static String folded(String text) {
        return text.replaceAll("\\s+", " ").strip();
    }

    static void write(RainAccount r, int sheet, int sort, int... cells) {
        r.sheet(sheet, sort, cells.length);
        for (int i = 0; i < cells.length; i++) {
            r.put(sheet, i, cells[i]);
        }
    }

    static int plain(RainAccount r, String text) {
        write(r, 3, 0, text.chars().toArray());
        return r.plain(3, 0, 0, text.length());
    }

    static RainAccount with(String text) {
        RainAccount r = new RainAccount();
        plain(r, text);
        return r;
    }
}
