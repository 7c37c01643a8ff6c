import java.io.IOException;
import java.io.UncheckedIOException;
import java.nio.file.Files;
import java.nio.file.Path;

/** Compares answers with those that are due, and ends a test with exit code 1 if one was not. */
final class Check {
    private static final Path DOCUMENT = Path.of("../shared/DOC.md");

    private static String document;
    private static String words = "";
    private static int sayings = 0;
    private static int compared = 0;
    private static int wrong = 0;

    private Check() {
    }

    /** The words of the document that the next answers hold to; they must stand there, sign by sign. */
    static void says(String quoted) {
        words = quoted;
        sayings++;
        holds("the document says so", document().isEmpty() || document().contains(quoted));
    }

    static void due(String call, long got, long want) {
        compared++;
        if (got != want) {
            wrong++;
            if (wrong <= 50) {
                System.out.println((words.isEmpty() ? "" : "[" + words + "] ")
                        + call + " answered " + got + ", due is " + want);
            }
        }
    }

    static void holds(String what, boolean holds) {
        due(what, holds ? 1 : 0, 1);
    }

    static void end() {
        System.out.println(compared + " answers compared" + (sayings == 0 ? "" : " under " + sayings
                + " sayings of the document") + ", " + wrong + " not as due");
        if (wrong != 0) {
            System.exit(1);
        }
    }

    private static String document() {
        if (document == null) {
            try {
                document = Files.exists(DOCUMENT) ? Files.readString(DOCUMENT) : "";
            } catch (IOException e) {
                throw new UncheckedIOException(e);
            }
            if (document.isEmpty()) {
                System.out.println(DOCUMENT + " is not there: what is quoted of it was not compared");
            }
        }
        return document;
    }
}
