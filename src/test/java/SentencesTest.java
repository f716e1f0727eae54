import java.io.IOException;
import java.nio.file.DirectoryStream;
import java.nio.file.Files;
import java.nio.file.Path;
import java.util.ArrayList;
import java.util.Collections;
import java.util.List;
import java.util.Set;
import java.util.TreeSet;

/** Runs the tests under src/test/sentences: 00 holds those of the document's terms, each other file those of a promise. */
final class SentencesTest {
    private static final Path DIRECTORY = Path.of("src/test/sentences");
    private static final int PROMISES = 34;

    private static int sentences = 0;

    private static void run(Path file) throws IOException {
        List<String> lines = Files.readAllLines(file);
        Sentence sentence = null;
        for (int k = 0; k < lines.size(); k++) {
            String line = lines.get(k).trim();
            if (line.startsWith("== ")) {
                finish(sentence);
                sentence = new Sentence(file.getFileName() + ", line " + (k + 1) + ": " + line.substring(3));
            } else if (!line.isEmpty() && !line.startsWith("#")) {
                sentence.row(line);
            }
        }
        finish(sentence);
    }

    private static void finish(Sentence sentence) {
        if (sentence != null) {
            sentence.finish();
            sentences++;
        }
    }

    private static List<Path> files() throws IOException {
        List<Path> files = new ArrayList<>();
        try (DirectoryStream<Path> all = Files.newDirectoryStream(DIRECTORY)) {
            all.forEach(files::add);
        }
        Collections.sort(files);
        return files;
    }

    public static void main(String[] args) throws IOException {
        Set<Integer> tested = new TreeSet<>();
        for (Path file : files()) {
            int before = sentences;
            run(file);
            Check.due(file + " has tests", sentences > before, true);
            tested.add(Integer.parseInt(file.getFileName().toString().substring(0, 2)));
        }
        for (int promise = 0; promise <= PROMISES; promise++) {
            Check.due("promise " + promise + " is tested", tested.contains(promise), true);
        }
        System.out.println(sentences + " sentences");
        Check.end("SentencesTest");
    }
}
