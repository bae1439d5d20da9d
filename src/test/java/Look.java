import java.util.ArrayList;
import java.util.List;

/**
 * A look over all that a book holds, by calls of the face alone: rows and writers, which arrays are the same, where
 * readers, their marks and streams stand, and what they go over. The book is used up by it.
 */
final class Look {
    static final int CALLS = 80;

    private final Strandbook book;
    private final List<String> seen = new ArrayList<>();

    private Look(Strandbook book) {
        this.book = book;
    }

    static String over(Strandbook book) {
        Look look = new Look(book);
        look.atFigures();
        look.atReaders();
        look.atStreams();
        Checks.same("the calls of a look", look.seen.size() <= CALLS, true);
        return String.join(" ", look.seen);
    }

    private void see(String... calls) {
        for (String call : calls) {
            for (String one : Brackets.expand(call)) {
                seen.add(one + "=" + new BookCall(one).on(book));
            }
        }
    }

    private void atFigures() {
        see("checksum()", "meanSize()", "isTrue()", "left([0 1])", "passedShare([0 1])");
    }

    private void atReaders() {
        for (int reader = 0; reader < 3; reader++) {
            // At its end a part for one sign is answered by -1, or is refused if the row is the very array.
            see("skip(" + reader + ", MAX)", "readPart(" + reader + ", [0..3], 0, 1)", "back(" + reader + ")");
        }
        see("make(3, 256)");
        for (int reader = 0; reader < 3; reader++) {
            see("readPart(" + reader + ", 3, 0, 256)", "checksum()", "shut(" + reader + ")");
        }
    }

    private void atStreams() {
        for (int stream = 0; stream < 2; stream++) {
            see("nextPart(" + stream + ", [0..3], 0, 1)", "checksum()");
        }
        see("makeBytes(3, 64, 0, 0)");
        for (int stream = 0; stream < 2; stream++) {
            for (int part = 0; part < 4; part++) {
                see("nextPart(" + stream + ", 3, 0, 64)", "left(" + stream + ")", "passedShare(" + stream + ")",
                        "checksum()");
            }
        }
    }
}
