import java.io.IOException;
import java.nio.file.Files;
import java.nio.file.Path;

/** Counts answers that are not as due, and ends a test by them. */
final class Check {
    private static int asked = 0, wrong = 0;
    private static String doc = "", sentence = "";

    private Check() { }

    static void same(String what, long got, long want) {
        asked++;
        if (got == want) return;
        wrong++;
        if (wrong <= 40) System.out.println(sentence + what + " answered " + got + ", due is " + want);
    }

    static void holds(String what, boolean is) {
        same(what, is ? 1 : 0, 1);
    }

    /** What follows tests these words of the document, and is wrong where they do not stand there. */
    static void sentence(String words) {
        try {
            if (doc.isEmpty()) doc = Files.readString(Path.of(System.getProperty("comesback.doc", "../shared/DOC.md"))).replaceAll("\\s+", " ");
        } catch (IOException e) {
            doc = "no document";
        }
        sentence = "";
        holds("the document says: " + words, doc.contains(words));
        sentence = "\"" + words + "\": ";
    }

    static void end() {
        System.out.println(asked + " answers asked, " + wrong + " not as due");
        if (wrong != 0 || asked == 0) System.exit(1);
    }
}
