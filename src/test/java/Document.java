import java.io.IOException;
import java.nio.file.Files;
import java.nio.file.Path;
import java.util.ArrayList;
import java.util.List;
import java.util.regex.Matcher;
import java.util.regex.Pattern;

/** The public face and the sentences of ../shared/DOC.md, and which of them tests have named. */
final class Document {
    /** The section of a promise is its number. */
    static final int TERMS = 0;
    static final int WHAT_IT_IS = 16;
    private static final Path FILE = Path.of("..", "shared", "DOC.md");
    private static final int SECTIONS = 17;
    private static final Pattern FACE = Pattern.compile("(?m)^    public (.+);$");

    private final List<List<String>> sentences = new ArrayList<>();
    private final List<String> face = new ArrayList<>();
    private final List<String> named = new ArrayList<>();
    private final boolean found = Files.isReadable(FILE);

    /** Where the document is missing, words go unchecked: the class can be tested without it. */
    Document() throws IOException {
        for (int i = 0; i < SECTIONS; i++) {
            sentences.add(new ArrayList<>());
        }
        if (found) {
            read(Files.readString(FILE));
        } else {
            System.out.println("no document at " + FILE + ": the words of its sentences go unchecked");
        }
    }

    private void read(String text) {
        for (String part : text.split("(?m)^## ")) {
            int end = part.indexOf('\n');
            String heading = end < 0 ? part : part.substring(0, end);
            int section = section(heading);
            if (section >= 0) {
                String body = part.substring(heading.length()).replaceAll("\\s+", " ").trim();
                sentences.get(section).addAll(List.of(body.split("(?<=\\.) (?=[A-Z])")));
            }
        }
        Matcher line = FACE.matcher(text);
        while (line.find()) {
            face.add(line.group(1));
        }
    }

    /** The constructor and the methods with their exceptions, as written; none without the document. */
    List<String> face() {
        return face;
    }

    private static int section(String heading) {
        if (heading.equals("Terms")) {
            return TERMS;
        }
        if (heading.equals("What it is")) {
            return WHAT_IT_IS;
        }
        return heading.startsWith("Promise ")
                ? Integer.parseInt(heading.substring("Promise ".length(), heading.indexOf(':')))
                : -1;
    }

    /** Whether the words stand in one sentence of a section, which they name from now on. */
    boolean names(int section, String words) {
        for (String sentence : sentences.get(section)) {
            if (sentence.contains(words)) {
                named.add(section + sentence);
                return true;
            }
        }
        return !found;
    }

    /** The sentences of 'What it is', of 'Terms' and of the promises that no test has named. */
    List<String> unnamed() {
        List<String> unnamed = new ArrayList<>();
        for (int section = TERMS; found && section < SECTIONS; section++) {
            if (sentences.get(section).isEmpty()) {
                unnamed.add("no section " + section);
            }
            for (String sentence : sentences.get(section)) {
                if (!named.contains(section + sentence)) {
                    unnamed.add(sentence);
                }
            }
        }
        return unnamed;
    }
}
