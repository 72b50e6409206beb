import java.io.IOException;
import java.nio.file.Files;
import java.nio.file.Path;
import java.util.ArrayList;
import java.util.LinkedHashMap;
import java.util.List;
import java.util.Map;

/**
 * Tests that stand for one sentence of the document each. A sentence is quoted as it stands in its
 * part of the document, so that a test whose sentence is changed or gone is seen.
 */
final class Sentences {
    /** What shows that a sentence holds, on objects of its own. */
    interface Proof {
        void show(Checks checks);
    }

    /** For each part of the document (What it is, Terms, Promise 1, ..) its paragraphs. */
    private final Map<String, List<String>> paragraphs = new LinkedHashMap<>();
    /** For each part the sentences that have been shown. */
    private final Map<String, List<String>> shown = new LinkedHashMap<>();
    private String part = "";
    private int tests = 0;
    private int answers = 0;
    private int broken = 0;

    /** Without the document the sentences are shown, but what they quote is not looked after. */
    Sentences(Path document) throws IOException {
        if (!Files.isReadable(document)) {
            System.out.println("there is no document at " + document);
            return;
        }
        String title = "";
        for (String block : Files.readString(document).split("\n\\s*\n|\n(?=- )")) {
            String told = plain(block);
            if (told.startsWith("## ")) {
                title = told.substring(3).replaceAll("^(Promise \\d+):.*", "$1");
                paragraphs.put(title, new ArrayList<>());
                shown.put(title, new ArrayList<>());
            } else if (paragraphs.containsKey(title)) {
                paragraphs.get(title).add(told);
            }
        }
    }

    private static String plain(String told) {
        return told.replaceAll("\\s+", " ").trim();
    }

    /** The sentences that follow are of this part of the document. */
    void of(String title) {
        part = title;
        if (isKnown() && !paragraphs.containsKey(title)) {
            complain("the document has no such part");
        }
    }

    void holds(String sentence, Proof proof) {
        String told = plain(sentence);
        if (isKnown()) {
            lookUp(told);
        }
        tests++;
        if (!isShown(proof)) {
            complain("does not hold: " + told);
        }
    }

    private boolean isShown(Proof proof) {
        Checks checks = new Checks();
        try {
            proof.show(checks);
        } catch (RuntimeException e) {
            // A call that should have been answered; the sentences behind this one are shown all the same.
            System.out.println("a call threw " + e);
            return false;
        }
        answers += checks.looked();
        return checks.wrong() == 0 && checks.looked() > 0;
    }

    private boolean isKnown() {
        return !paragraphs.isEmpty();
    }

    private void lookUp(String told) {
        if (paragraphs.getOrDefault(part, List.of()).stream().noneMatch(p -> p.contains(told))) {
            complain("the document does not say: " + told);
        } else {
            shown.get(part).add(told);
        }
    }

    private void complain(String what) {
        broken++;
        System.out.println(part + ": " + what);
    }

    /** Every paragraph of a promise must have at least one sentence that is shown. */
    private void complainOfGaps() {
        for (Map.Entry<String, List<String>> entry : paragraphs.entrySet()) {
            part = entry.getKey();
            if (!part.startsWith("Promise ")) {
                continue;
            }
            for (String paragraph : entry.getValue()) {
                if (shown.get(part).stream().noneMatch(paragraph::contains)) {
                    complain("nothing shows: " + paragraph);
                }
            }
        }
    }

    void end() {
        complainOfGaps();
        System.out.println(tests + " sentences shown by " + answers + " answers, "
                + broken + " complaints");
        if (broken != 0) {
            System.exit(1);
        }
    }
}
