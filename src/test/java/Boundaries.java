import java.io.IOException;
import java.nio.charset.StandardCharsets;
import java.nio.file.Files;
import java.nio.file.Path;

/** Tests that stand each for one sentence of the document, and name it in its own words. */
abstract class Boundaries extends Asking {
    private static final String[] STARTS = {
        "## What it is", "## The public face", "## Terms", "======== 1 ", "======== 2 ", "======== 3 ", "Refusals are answers", "## Promise ", "## Not promised"
    };

    private final String document;

    Boundaries(String name) throws IOException {
        super(name);
        document = plain(Files.readString(Path.of("../shared/DOC.md"), StandardCharsets.UTF_8));
    }

    /** Runs the test of a sentence; the section of the document that starts so must have the sentence. */
    final void sentence(String section, String sentence, Runnable test) {
        checks.head("[" + section.trim() + "] \"" + sentence + "\"");
        checks.isTrue("the document does not say that there", sectionFrom(section).contains(plain(sentence)));
        int before = checks.count();
        try {
            test.run();
        } catch (RuntimeException e) {
            checks.fail("stopped by " + e);
        }
        checks.isTrue("nothing is checked", checks.count() > before);
        checks.head("");
    }

    final void term(int number, String sentence, Runnable test) {
        sentence("======== " + number + " ", sentence, test);
    }

    final void refusal(String sentence, Runnable test) {
        sentence("Refusals are answers", sentence, test);
    }

    final void promise(int number, String sentence, Runnable test) {
        sentence("## Promise " + number + ":", sentence, test);
    }

    private String sectionFrom(String start) {
        int from = document.indexOf(start);
        if (from < 0) {
            return "";
        }
        int to = document.length();
        for (String next : STARTS) {
            int at = document.indexOf(next, from + start.length());
            to = at < 0 ? to : Math.min(to, at);
        }
        return document.substring(from, to);
    }

    private static String plain(String text) {
        return text.replace("`", "").replaceAll("\\s+", " ");
    }
}
