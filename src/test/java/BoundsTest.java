import java.io.IOException;
import java.nio.file.Files;
import java.nio.file.Path;
import java.util.ArrayList;
import java.util.List;
import java.util.stream.Stream;

/** All promises, sentence by sentence: runs the calls that are written down in src/test/bounds. */
public final class BoundsTest {
    private String heading = "";
    private String sentence = "";
    private List<String> lines = new ArrayList<>();
    private int runs;
    private int wrong;

    public static void main(String[] args) throws IOException {
        BoundsTest test = new BoundsTest();
        Path bounds = Path.of(args.length > 0 ? args[0] : ".", "src", "test", "bounds");
        try (Stream<Path> files = Files.list(bounds)) {
            for (Path file : files.sorted().toList()) {
                test.read(Files.readAllLines(file));
            }
        }
        System.out.println(test.runs + " runs, " + test.wrong + " wrong");
        if (test.wrong > 0 || test.runs == 0) {
            System.exit(1);
        }
    }

    private void read(List<String> text) {
        for (String line : text) {
            if (line.startsWith("#")) {
                runAll();
            }
            if (line.startsWith("## ")) {
                heading = line.substring(3);
                sentence = "";
            } else if (line.startsWith("# ")) {
                sentence = line.substring(2);
            } else if (!line.isBlank() && !line.startsWith("//")) {
                lines.add(line.trim());
            }
        }
        runAll();
    }

    private void runAll() {
        if (!lines.isEmpty()) {
            runFrom(new ArrayList<>(), 0);
        }
        lines = new ArrayList<>();
    }

    /** Each choice of a line "typed a|b" makes a run of its own. */
    private void runFrom(List<String> chosen, int next) {
        if (next == lines.size()) {
            run(chosen);
            return;
        }
        String line = lines.get(next);
        boolean hasChoice = line.startsWith("typed ") && line.contains("|");
        for (String choice : hasChoice ? line.substring(6).split("\\|", -1) : new String[] {line}) {
            chosen.add(hasChoice ? ("typed " + choice).trim() : line);
            runFrom(chosen, next + 1);
            chosen.remove(chosen.size() - 1);
        }
    }

    private void run(List<String> chosen) {
        Run run = new Run(heading + " # " + sentence + " # " + String.join("; ", chosen));
        runs++;
        chosen.forEach(run::line);
        wrong += run.end() > 0 ? 1 : 0;
    }
}
