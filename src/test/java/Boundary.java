import java.util.ArrayList;
import java.util.List;
import java.util.regex.Matcher;
import java.util.regex.Pattern;

/** A test of one sentence of the document: runs of calls, each on a new object, with the answers that are due. */
final class Boundary {
    static final String REFUSED = "throws.";
    private static final int MOST_CALLS = 512;

    /** A call with its due answer; the answer of one that is there to set something up may be null. */
    record Step(BookCall call, String due, boolean changesNothing) {
        boolean isRefused() {
            return due != null && due.startsWith(REFUSED);
        }
    }

    final String section;
    final String sentence;
    private final List<List<Step>> runs = new ArrayList<>();

    Boundary(String section, String sentence) {
        this.section = section;
        this.sentence = sentence;
        beginRun();
    }

    void beginRun() {
        runs.add(new ArrayList<>());
    }

    void add(Step step) {
        runs.get(runs.size() - 1).add(step);
    }

    private String name() {
        return section + ", \"" + sentence + "\"";
    }

    void check() {
        boolean asksAnything = false;
        for (List<Step> run : runs) {
            asksAnything |= run.stream().anyMatch(step -> step.due != null);
            checkAnswers(run);
            for (int i = 0; i < run.size(); i++) {
                if (run.get(i).changesNothing) {
                    checkNothingChanged(run, i);
                }
            }
        }
        Checks.same(name() + ": it asks for answers", asksAnything, true);
        checkBothSides();
    }

    /** Of an exception, or of a range, the test must have calls of the method on both sides of the boundary. */
    private void checkBothSides() {
        Matcher thrown = Pattern.compile("Throws `(\\w+)`.*").matcher(sentence);
        boolean isRange = sentence.matches("`\\w+`: .*(0 to|0 or 1|from 0|or more).*");
        if (!thrown.matches() && !isRange) {
            return;
        }
        String method = section.substring(section.indexOf(": ") + 2) + "(";
        String due = isRange ? REFUSED : REFUSED + thrown.group(1);
        boolean isOutside = false;
        boolean isInside = false;
        for (List<Step> run : runs) {
            for (Step step : run) {
                boolean isOfMethod = step.due != null && step.call.toString().startsWith(method);
                isOutside |= isOfMethod && step.due.startsWith(due);
                isInside |= isOfMethod && !step.isRefused();
            }
        }
        Checks.same(name() + ": it has a call outside the boundary", isOutside, true);
        Checks.same(name() + ": it has a call inside the boundary", isInside, true);
    }

    private void checkAnswers(List<Step> run) {
        Checks.same(name() + ": at most 512 calls", run.size() <= MOST_CALLS, true);
        Strandbook book = new Strandbook();
        for (Step step : run) {
            String got = step.call.on(book);
            // A call that sets something up must not be refused: the test would ask about another state than it says.
            String due = step.due != null ? step.due : got.startsWith(REFUSED) ? "an answer" : got;
            Checks.same(name() + ": " + step.call, got, due);
        }
    }

    /** Two new objects, one of them without this call and without any refused one before, must look alike. */
    private void checkNothingChanged(List<Step> run, int end) {
        Checks.same(name() + ": at most 512 calls with the look", end + 1 + Look.CALLS <= MOST_CALLS, true);
        Strandbook with = new Strandbook();
        Strandbook without = new Strandbook();
        for (int i = 0; i <= end; i++) {
            run.get(i).call.on(with);
            if (i < end && !run.get(i).isRefused()) {
                run.get(i).call.on(without);
            }
        }
        Checks.same(name() + ": what is there behind " + run.get(end).call, Look.over(with), Look.over(without));
    }
}
