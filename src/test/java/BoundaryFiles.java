import java.io.IOException;
import java.nio.file.Files;
import java.nio.file.Path;
import java.util.ArrayList;
import java.util.HashMap;
import java.util.List;
import java.util.Map;

/** Reads the tests of sentences; README.md tells how they are written. */
final class BoundaryFiles {
    final List<Boundary> tests = new ArrayList<>();
    /** Sentences that are said to name no boundary: each has no calls. */
    final List<Boundary> without = new ArrayList<>();
    private final Map<String, List<String>> setUps = new HashMap<>();
    private List<String> setUp;
    private String section = "";
    private Boundary test;

    static BoundaryFiles read(Path folder) throws IOException {
        BoundaryFiles files = new BoundaryFiles();
        // The set-ups come first, so that each test finds them.
        for (String line : Files.readAllLines(folder.resolve("set-ups.txt"))) {
            files.readSetUp(line.trim());
        }
        try (var all = Files.list(folder)) {
            for (Path file : all.sorted().toList()) {
                if (!file.endsWith("set-ups.txt")) {
                    files.readTests(file);
                }
            }
        }
        return files;
    }

    private void readSetUp(String line) {
        if (line.startsWith("set-up ")) {
            setUp = new ArrayList<>();
            setUps.put(line.substring(7), setUp);
        } else if (!line.isEmpty() && !line.startsWith("#")) {
            setUp.add(line);
        }
    }

    private void readTests(Path file) throws IOException {
        int number = 0;
        for (String line : Files.readAllLines(file)) {
            number++;
            try {
                readLine(line.trim());
            } catch (RuntimeException e) {
                throw new IllegalArgumentException(file + ", line " + number + ": " + line, e);
            }
        }
    }

    private void readLine(String line) {
        if (line.isEmpty() || line.startsWith("#")) {
            return;
        }
        if (line.startsWith("== ")) {
            section = line.substring(3);
        } else if (line.startsWith("> ")) {
            test = new Boundary(section, line.substring(2));
            tests.add(test);
        } else if (line.startsWith("~ ")) {
            without.add(new Boundary(section, line.substring(2)));
        } else if (line.equals("new")) {
            test.beginRun();
        } else if (line.startsWith("with ")) {
            for (String one : setUps.get(line.substring(5))) {
                addCalls(one);
            }
        } else {
            addCalls(line);
        }
    }

    private void addCalls(String line) {
        String[] parts = line.replaceFirst(" *#.*", "").split(" -> ");
        boolean isStill = parts.length > 1 && parts[1].endsWith(", nothing changes");
        List<String> calls = Brackets.expand(parts[0].trim());
        List<String> dues = parts.length < 2 ? null
                : Brackets.expand(parts[1].replace(", nothing changes", "").trim());
        if (dues != null && dues.size() != 1 && dues.size() != calls.size()) {
            throw new IllegalArgumentException("there are " + calls.size() + " calls and " + dues.size() + " answers");
        }
        for (int i = 0; i < calls.size(); i++) {
            BookCall call = new BookCall(calls.get(i));
            String due = dues == null ? null : call.dueOf(dues.get(dues.size() == 1 ? 0 : i));
            boolean isRefused = due != null && due.startsWith(Boundary.REFUSED);
            test.add(new Boundary.Step(call, due, isStill || isRefused));
        }
    }
}
