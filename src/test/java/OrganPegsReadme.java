import java.io.IOException;
import java.nio.file.Files;
import java.nio.file.Path;
import java.util.ArrayList;
import java.util.List;
import java.util.function.IntSupplier;

/** The calls that README.md shows answer what it says. Each line of README.md with an answer has a line here. */
public final class OrganPegsReadme {
    private static final String TUNE = "Op0024v102t06c00";
    private static final List<String> shown = new ArrayList<>();
    private static int wrong = 0;

    public static void main(String[] args) throws IOException {
        boolean tuneShown = false;
        for (String line : Files.readAllLines(Path.of("README.md"))) {
            if (line.startsWith("organ.")) {
                shown.add(line);
            }
            tuneShown = tuneShown || line.contains("\"" + TUNE + "\"");
        }
        OrganPegs organ = new OrganPegs();
        pegsAndOrders(organ);
        textAsATune(organ);
        if (!tuneShown) {
            wrong++;
            System.out.println("README.md does not show the text " + TUNE);
        }
        if (!shown.isEmpty()) {
            wrong++;
            System.out.println("README.md shows more: " + shown);
        }
        System.out.println(wrong == 0 ? "the answers in README.md are as due" : wrong + " lines of README.md are wrong");
        if (wrong != 0) {
            System.exit(1);
        }
    }

    private static void pegsAndOrders(OrganPegs organ) {
        next("organ.put(0, 2, 4);", () -> organ.put(0, 2, 4));
        next("organ.chord(2);", () -> organ.chord(2));
        next("organ.doneIn(0);", () -> organ.doneIn(0));
        next("organ.ticks(5);", () -> organ.ticks(5));
        next("organ.about(3);", () -> organ.about(3));
        next("organ.about(7);", () -> organ.about(7));
        next("organ.pull(0, 2);", () -> organ.pull(0, 2));
        next("organ.ticks(1);", () -> organ.ticks(1));
        next("organ.about(0);", () -> organ.about(0));
        next("organ.undo();", organ::undo);
        next("organ.about(0);", () -> organ.about(0));
        next("organ.save(1);", () -> organ.save(1));
        next("organ.runScript(2, 30001_70002L);", () -> organ.runScript(2, 30001_70002L));
        next("organ.about(5);", () -> organ.about(5));
        next("organ.set(0, 3);", () -> organ.set(0, 3));
        next("organ.restore(1);", () -> organ.restore(1));
        next("organ.setting(0);", () -> organ.setting(0));
    }

    private static void textAsATune(OrganPegs organ) {
        for (char c : TUNE.toCharArray()) {
            organ.append(c);
        }
        next("organ.errorPosition();", organ::errorPosition);
        next("organ.load();", organ::load);
        next("organ.about(8);", () -> organ.about(8));
        next("organ.append('x');", () -> organ.append('x'));
        next("organ.errorPosition();", organ::errorPosition);
        next("organ.clearText();", organ::clearText);
    }

    /** The next line that README.md shows is this call, and the number behind its // is the call's answer. */
    private static void next(String call, IntSupplier asked) {
        String line = shown.isEmpty() ? "" : shown.remove(0);
        String due = call + " // " + asked.getAsInt();
        if (!(line.replaceAll(" +", " ") + " ").startsWith(due + " ")) {
            wrong++;
            System.out.println("README.md shows: " + line + "; due is: " + due);
        }
    }
}
