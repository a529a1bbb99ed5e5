import java.io.IOException;
import java.nio.file.Files;
import java.nio.file.Path;
import java.util.LinkedHashMap;
import java.util.Map;

/**
 * The document, sentence by sentence. A test tells which sentence it looks at; in the end each word of it
 * (but for the face, which FaceTest looks at) has to have been told, and each sentence that was told has to have been looked at.
 */
final class Document {
    private static final Map<String, String> SECTIONS = new LinkedHashMap<>();
    private static final Map<String, boolean[]> TOLD = new LinkedHashMap<>();
    private static String last = "";
    private static int lookedThen = 0;
    private static int sentences = 0;

    private Document() {
    }

    /** Without the document the sentences are names of tests, and nothing more. */
    static void read(Path file) throws IOException {
        if (!Files.isReadable(file)) {
            System.out.println("no document at " + file + ": its words are not looked up");
            return;
        }
        String all = Files.readString(file).replace("```text", " ").replace("```", " ").replaceAll("\\s+", " ");
        keep("What it is", between(all, "Tables under rules", "## The public face"));
        keep("Terms I", between(all, "TABLES 0 .. 2", "II. TRANSACTION"));
        keep("Terms II", between(all, "TRANSACTION: from BEGIN", "REFUSED calls answer"));
        keep("REFUSED", between(all, "REFUSED calls answer", "Ahead of the calls"));
        keep("Interface", between(all, "Ahead of the calls", "## Promise 1:"));
        keep("Not promised", all.substring(all.indexOf("## Not promised") + "## Not promised".length()));
        String[] promises = all.split("## Promise ");
        for (int i = 1; i < promises.length; i++) {
            String text = promises[i].split("## Not promised")[0];
            keep("Promise " + text.substring(0, text.indexOf(':')), text.substring(text.indexOf("`: ") + 3));
        }
    }

    private static String between(String all, String from, String to) {
        return all.substring(all.indexOf(from), all.indexOf(to));
    }

    private static void keep(String section, String text) {
        SECTIONS.put(section, text);
        TOLD.put(section, new boolean[text.length()]);
    }

    static void says(String section, String sentence) {
        wasLookedAt();
        last = section + ", \"" + sentence + "\"";
        lookedThen = Due.looked();
        sentences++;
        Due.about(last);
        if (SECTIONS.isEmpty()) {
            return;
        }
        String text = SECTIONS.getOrDefault(section, "");
        int at = text.indexOf(sentence);
        if (at < 0) {
            Due.is("the document says it", false, true);
            lookedThen = Due.looked();
        }
        while (at >= 0) {
            java.util.Arrays.fill(TOLD.get(section), at, at + sentence.length(), true);
            at = text.indexOf(sentence, at + 1);
        }
    }

    private static void wasLookedAt() {
        if (!last.isEmpty() && Due.looked() == lookedThen) {
            Due.is("answers are looked at", false, true);
        }
    }

    static void finish() {
        wasLookedAt();
        Due.about("the document");
        for (Map.Entry<String, String> section : SECTIONS.entrySet()) {
            StringBuilder left = new StringBuilder();
            boolean[] told = TOLD.get(section.getKey());
            for (int i = 0; i < told.length; i++) {
                char sign = section.getValue().charAt(i);
                boolean counts = Character.isLetterOrDigit(sign) && !told[i];
                left.append(counts ? sign : ' ');
            }
            Due.is("words of " + section.getKey() + " that no test is about",
                left.toString().trim().replaceAll(" +", " "), "");
        }
        System.out.println(sentences + " sentences looked at");
    }
}
