/**
 * Rows of signs and bytes, writers that gather signs, readers that go over them, and streams of bytes that are
 * joined, driven call by call. The class is not thread-safe.
 *
 * <p>Every argument is looked at before anything is changed, in the order in which the document names the
 * exceptions; so a call that throws leaves the book as it was.
 */
public final class Strandbook {
    private static final int SIGN_ROWS = 4;
    private static final int BYTE_ROWS = 4;
    private static final int WRITERS = 3;
    private static final int READERS = 3;
    private static final int STREAMS = 2;
    private static final int MOST_SIGNS = 256;
    private static final int MOST_BYTES = 64;
    private static final int MOST_WANTED = 1000;
    private static final int MOST_PARTS = 3;
    private static final int LOWEST_BITS = 255;

    private final SignRow[] signRows;
    private final ByteRow[] byteRows;
    private final SignWriter[] textWriters;
    private final SignWriter[] arrayWriters;
    private final SignReader[] readers;
    private final JoinedStream[] streams;
    private final Trial trial;

    public Strandbook() {
        signRows = new SignRow[SIGN_ROWS];
        for (int i = 0; i < SIGN_ROWS; i++) {
            signRows[i] = new SignRow(0);
        }
        byteRows = new ByteRow[BYTE_ROWS];
        for (int i = 0; i < BYTE_ROWS; i++) {
            byteRows[i] = new ByteRow(0);
        }
        textWriters = new SignWriter[WRITERS];
        arrayWriters = new SignWriter[WRITERS];
        for (int i = 0; i < WRITERS; i++) {
            textWriters[i] = new SignWriter();
            arrayWriters[i] = new SignWriter();
        }
        readers = new SignReader[READERS];
        for (int i = 0; i < READERS; i++) {
            readers[i] = new SignReader();
        }
        streams = new JoinedStream[STREAMS];
        for (int i = 0; i < STREAMS; i++) {
            streams[i] = new JoinedStream();
        }
        trial = new Trial();
    }

    // ---- rows ----

    public int make(int row, int length) throws IndexOutOfBoundsException, IllegalArgumentException {
        int former = signRowAt(row).signs.length;
        if (length < 0 || length > MOST_SIGNS) {
            throw new IllegalArgumentException("the length is out of range");
        }
        signRows[row] = new SignRow(length);
        return former;
    }

    public char put(int row, int index, char sign) throws IndexOutOfBoundsException {
        char[] signs = signRowAt(row).signs;
        requirePlace(index, signs.length);
        char former = signs[index];
        signs[index] = cut(sign);
        return former;
    }

    public int fill(int row, int from, int many, char sign, int step) throws IndexOutOfBoundsException {
        char[] signs = signRowAt(row).signs;
        requirePlaces(from, many, signs.length);
        int sum = 0;
        int code = sign;
        for (int i = from; i < from + many; i++) {
            sum += signs[i];
            signs[i] = cut(code);
            code += step;
        }
        return sum;
    }

    public char get(int row, int index) throws IndexOutOfBoundsException {
        char[] signs = signRowAt(row).signs;
        requirePlace(index, signs.length);
        return signs[index];
    }

    public int length(int row) throws IndexOutOfBoundsException {
        return signRowAt(row).signs.length;
    }

    public int makeBytes(int row, int length, int number, int step)
            throws IndexOutOfBoundsException, IllegalArgumentException {
        int former = byteRowAt(row).bytes.length;
        if (length < 0 || length > MOST_BYTES) {
            throw new IllegalArgumentException("the length is out of range");
        }
        ByteRow made = new ByteRow(length);
        int next = number;
        for (int i = 0; i < length; i++) {
            made.bytes[i] = (byte) next;
            next += step;
        }
        byteRows[row] = made;
        return former;
    }

    public int putByte(int row, int index, int number) throws IndexOutOfBoundsException {
        byte[] bytes = byteRowAt(row).bytes;
        requirePlace(index, bytes.length);
        int former = bytes[index];
        bytes[index] = (byte) number;
        return former;
    }

    public int getByte(int row, int index) throws IndexOutOfBoundsException {
        byte[] bytes = byteRowAt(row).bytes;
        requirePlace(index, bytes.length);
        return bytes[index];
    }

    // ---- text writers ----

    public int begin(int writer) throws IndexOutOfBoundsException {
        return textWriterAt(writer).giveUpAll();
    }

    public int write(int writer, int number) throws IndexOutOfBoundsException, IllegalStateException {
        return addSigns(textWriterAt(writer), number, 1);
    }

    public int writeText(int writer, int row, int from, int many)
            throws IndexOutOfBoundsException, IllegalStateException {
        return addPart(textWriterAt(writer), row, from, many);
    }

    public int writeSigns(int writer, int row, int from, int many)
            throws IndexOutOfBoundsException, IllegalStateException {
        return addPart(textWriterAt(writer), row, from, many);
    }

    public int append(int writer, char sign) throws IndexOutOfBoundsException, IllegalStateException {
        return addSigns(textWriterAt(writer), sign, 2);
    }

    public int size(int writer) throws IndexOutOfBoundsException {
        return textWriterAt(writer).count;
    }

    public int take(int writer, int row) throws IndexOutOfBoundsException {
        return takeInto(textWriterAt(writer), row);
    }

    // ---- array writers ----

    public int empty(int writer) throws IndexOutOfBoundsException {
        return arrayWriterAt(writer).giveUpAll();
    }

    public int arrayWrite(int writer, int number) throws IndexOutOfBoundsException, IllegalStateException {
        return addSigns(arrayWriterAt(writer), number, 1);
    }

    public int arrayText(int writer, int row, int from, int many)
            throws IndexOutOfBoundsException, IllegalStateException {
        return addPart(arrayWriterAt(writer), row, from, many);
    }

    public int arraySigns(int writer, int row, int from, int many)
            throws IndexOutOfBoundsException, IllegalStateException {
        return addPart(arrayWriterAt(writer), row, from, many);
    }

    public int arrayAppend(int writer, char sign) throws IndexOutOfBoundsException, IllegalStateException {
        return addSigns(arrayWriterAt(writer), sign, 2);
    }

    public int arraySize(int writer) throws IndexOutOfBoundsException {
        return arrayWriterAt(writer).count;
    }

    public int arrayTake(int writer, int row) throws IndexOutOfBoundsException {
        return takeInto(arrayWriterAt(writer), row);
    }

    public int pour(int writer, int to) throws IndexOutOfBoundsException, IllegalStateException {
        return pourInto(arrayWriterAt(writer), textWriterAt(to));
    }

    public int pourOver(int writer, int to)
            throws IndexOutOfBoundsException, IllegalArgumentException, IllegalStateException {
        SignWriter source = arrayWriterAt(writer);
        SignWriter target = arrayWriterAt(to);
        if (writer == to) {
            throw new IllegalArgumentException("both writers are the same");
        }
        return pourInto(source, target);
    }

    public boolean areLike(int writer, int other) throws IndexOutOfBoundsException {
        return textWriterAt(writer).hasSameAs(arrayWriterAt(other));
    }

    // ---- readers ----

    public int open(int reader, int row, int from, int many)
            throws IndexOutOfBoundsException, IllegalArgumentException {
        SignReader opened = readerAt(reader);
        SignRow source = signRowAt(row);
        requirePlaces(from, 0, source.signs.length);
        requireWanted(many);
        opened.openOn(source, from, many);
        return opened.countRest();
    }

    public int openAll(int reader, int row) throws IndexOutOfBoundsException {
        SignReader opened = readerAt(reader);
        SignRow source = signRowAt(row);
        opened.openOn(source, 0, source.signs.length);
        return opened.countRest();
    }

    public int shut(int reader) throws IndexOutOfBoundsException, UnsupportedOperationException {
        SignReader shutting = readerAt(reader);
        if (!shutting.isThere) {
            throw new UnsupportedOperationException("the reader is not there");
        }
        int rest = shutting.isShut ? 0 : shutting.countRest();
        shutting.isShut = true;
        return rest;
    }

    public int read(int reader) throws IndexOutOfBoundsException, UnsupportedOperationException {
        return openReaderAt(reader).readOne();
    }

    public int readPart(int reader, int row, int from, int many)
            throws IndexOutOfBoundsException, IllegalArgumentException, UnsupportedOperationException,
            IllegalStateException {
        readerAt(reader);
        SignRow target = signRowAt(row);
        requirePlaces(from, many, target.signs.length);
        requireSome(many);
        SignReader source = openReaderAt(reader);
        if (source.row == target) {
            throw new IllegalStateException("the row is the very array that is read");
        }
        return source.readSome(target.signs, from, many);
    }

    public long skip(int reader, long many) throws IndexOutOfBoundsException, UnsupportedOperationException {
        return openReaderAt(reader).skipSome(many);
    }

    public int mark(int reader, int limit)
            throws IndexOutOfBoundsException, IllegalArgumentException, UnsupportedOperationException {
        readerAt(reader);
        if (limit < 0) {
            throw new IllegalArgumentException("the limit is below 0");
        }
        SignReader marking = openReaderAt(reader);
        marking.marked = marking.place;
        return marking.countRest();
    }

    public int back(int reader) throws IndexOutOfBoundsException, UnsupportedOperationException {
        SignReader going = openReaderAt(reader);
        going.place = going.marked;
        return going.countRest();
    }

    // ---- joined streams ----

    public int join(int stream, int first, int second) throws IndexOutOfBoundsException {
        JoinedStream joined = streamAt(stream);
        ByteRow one = byteRowAt(first);
        ByteRow two = byteRowAt(second);
        joined.giveUpParts();
        joined.addRow(one);
        joined.addRow(two);
        return joined.total;
    }

    public int joinThree(int stream, int first, int second, int third, boolean isLeft)
            throws IndexOutOfBoundsException {
        JoinedStream joined = streamAt(stream);
        ByteRow one = byteRowAt(first);
        ByteRow two = byteRowAt(second);
        ByteRow three = byteRowAt(third);
        // Which two are joined first shows in no answer: a stream has its parts in order in whatever way it was
        // joined, so it holds them side by side and isLeft is not kept.
        joined.joinRows(one, two, three);
        return joined.total;
    }

    public int next(int stream) throws IndexOutOfBoundsException, UnsupportedOperationException {
        return joinedStreamAt(stream).readOne();
    }

    public int nextPart(int stream, int row, int from, int many)
            throws IndexOutOfBoundsException, IllegalArgumentException, UnsupportedOperationException,
            IllegalStateException {
        streamAt(stream);
        ByteRow target = byteRowAt(row);
        requirePlaces(from, many, target.bytes.length);
        requireSome(many);
        JoinedStream source = joinedStreamAt(stream);
        if (source.hasPart(target)) {
            throw new IllegalStateException("the row is the array of a part");
        }
        return source.readSome(target.bytes, from, many);
    }

    public long pass(int stream, long many)
            throws IndexOutOfBoundsException, IllegalArgumentException, UnsupportedOperationException {
        streamAt(stream);
        requireWanted(many);
        return joinedStreamAt(stream).passSome(many);
    }

    public int left(int stream) throws IndexOutOfBoundsException, UnsupportedOperationException {
        return joinedStreamAt(stream).countRestOfPart();
    }

    // ---- figures ----

    public float passedShare(int stream)
            throws IndexOutOfBoundsException, UnsupportedOperationException, ArithmeticException {
        JoinedStream joined = joinedStreamAt(stream);
        if (joined.total == 0) {
            throw new ArithmeticException("the stream has no bytes");
        }
        return (float) joined.passed / (float) joined.total;
    }

    public double meanSize() {
        int sum = 0;
        for (int i = 0; i < WRITERS; i++) {
            sum += textWriters[i].count + arrayWriters[i].count;
        }
        return (double) sum / 6.0;
    }

    public long checksum() {
        long sum = 7;
        for (int i = 0; i < SIGN_ROWS; i++) {
            sum = addCodes(sum, signRows[i].signs, signRows[i].signs.length);
        }
        for (int i = 0; i < BYTE_ROWS; i++) {
            sum = addBytes(sum, byteRows[i].bytes);
        }
        for (int i = 0; i < WRITERS; i++) {
            sum = addCodes(sum, textWriters[i].signs, textWriters[i].count);
        }
        for (int i = 0; i < WRITERS; i++) {
            sum = addCodes(sum, arrayWriters[i].signs, arrayWriters[i].count);
        }
        for (int i = 0; i < STREAMS; i++) {
            sum = 31 * sum + (streams[i].isJoined() ? streams[i].countRestOfPart() : -1);
        }
        return sum;
    }

    public boolean isTrue() {
        for (int i = 0; i < WRITERS; i++) {
            if (!trial.holdsForWriter(textWriters[i]) || !trial.holdsForWriter(arrayWriters[i])) {
                return false;
            }
        }
        for (int i = 0; i < BYTE_ROWS; i++) {
            ByteRow second = byteRows[(i + 1) % BYTE_ROWS];
            ByteRow third = byteRows[(i + 2) % BYTE_ROWS];
            if (!trial.holdsForRows(byteRows[i], second, third)) {
                return false;
            }
        }
        return true;
    }

    // ---- what an argument names, or the exception that is due for it ----

    private SignRow signRowAt(int row) {
        if (row < 0 || row >= SIGN_ROWS) {
            throw new IndexOutOfBoundsException("there is no such row of signs");
        }
        return signRows[row];
    }

    private ByteRow byteRowAt(int row) {
        if (row < 0 || row >= BYTE_ROWS) {
            throw new IndexOutOfBoundsException("there is no such row of bytes");
        }
        return byteRows[row];
    }

    private SignWriter textWriterAt(int writer) {
        if (writer < 0 || writer >= WRITERS) {
            throw new IndexOutOfBoundsException("there is no such text writer");
        }
        return textWriters[writer];
    }

    private SignWriter arrayWriterAt(int writer) {
        if (writer < 0 || writer >= WRITERS) {
            throw new IndexOutOfBoundsException("there is no such array writer");
        }
        return arrayWriters[writer];
    }

    private SignReader readerAt(int reader) {
        if (reader < 0 || reader >= READERS) {
            throw new IndexOutOfBoundsException("there is no such reader");
        }
        return readers[reader];
    }

    private SignReader openReaderAt(int reader) {
        SignReader named = readerAt(reader);
        if (!named.isThere || named.isShut) {
            throw new UnsupportedOperationException("the reader is not there, or was shut");
        }
        return named;
    }

    private JoinedStream streamAt(int stream) {
        if (stream < 0 || stream >= STREAMS) {
            throw new IndexOutOfBoundsException("there is no such stream");
        }
        return streams[stream];
    }

    private JoinedStream joinedStreamAt(int stream) {
        JoinedStream named = streamAt(stream);
        if (!named.isJoined()) {
            throw new UnsupportedOperationException("the stream was not joined yet");
        }
        return named;
    }

    private static void requirePlace(int index, int length) {
        if (index < 0 || index >= length) {
            throw new IndexOutOfBoundsException("there is no such place");
        }
    }

    /** Of no places at all, the first one must still be 0 to the length. */
    private static void requirePlaces(int from, int many, int length) {
        if (from < 0 || many < 0 || from > length || many > length - from) {
            throw new IndexOutOfBoundsException("not all of these places are there");
        }
    }

    private static void requireSome(int many) {
        if (many < 1) {
            throw new IllegalArgumentException("fewer than 1 are wanted");
        }
    }

    private static void requireWanted(long many) {
        if (many < 0 || many > MOST_WANTED) {
            throw new IllegalArgumentException("the number is out of range");
        }
    }

    private static void requireRoom(SignWriter writer, int many) {
        if (many > MOST_SIGNS - writer.count) {
            throw new IllegalStateException("the writer would have more than 256 signs");
        }
    }

    // ---- what both kinds of writers do ----

    private static int addSigns(SignWriter writer, int number, int times) {
        requireRoom(writer, times);
        for (int i = 0; i < times; i++) {
            writer.addSign(cut(number));
        }
        return writer.count;
    }

    /** A part that is made a text first has the same signs, so it is not made one. */
    private int addPart(SignWriter writer, int row, int from, int many) {
        char[] signs = signRowAt(row).signs;
        requirePlaces(from, many, signs.length);
        requireRoom(writer, many);
        writer.addAll(signs, from, many);
        return writer.count;
    }

    private int takeInto(SignWriter writer, int row) {
        signRowAt(row);
        SignRow taken = new SignRow(writer.count);
        writer.copyTo(taken.signs);
        signRows[row] = taken;
        return taken.signs.length;
    }

    private static int pourInto(SignWriter source, SignWriter target) {
        requireRoom(target, source.count);
        target.addAll(source.signs, 0, source.count);
        return target.count;
    }

    private static char cut(int code) {
        return (char) (code & LOWEST_BITS);
    }

    // ---- the checksum's parts ----

    private static long addCodes(long before, char[] signs, int many) {
        long sum = 31 * before + many;
        for (int i = 0; i < many; i++) {
            sum = 31 * sum + signs[i];
        }
        return sum;
    }

    private static long addBytes(long before, byte[] bytes) {
        long sum = 31 * before + bytes.length;
        for (int i = 0; i < bytes.length; i++) {
            sum = 31 * sum + bytes[i];
        }
        return sum;
    }

    /** The very array that a row is at some time; who reads it goes on with it when the row is made anew. */
    private static final class SignRow {
        final char[] signs;

        SignRow(int length) {
            signs = new char[length];
        }
    }

    /** The very array that a row of bytes is at some time. */
    private static final class ByteRow {
        final byte[] bytes;

        ByteRow(int length) {
            bytes = new byte[length];
        }
    }

    /** A writer of either kind: given alike, both have alike. Its callers see to it that there is room. */
    private static final class SignWriter {
        final char[] signs = new char[MOST_SIGNS];
        int count;

        void addSign(char sign) {
            signs[count] = sign;
            count++;
        }

        void addAll(char[] source, int from, int many) {
            for (int i = 0; i < many; i++) {
                signs[count + i] = source[from + i];
            }
            count += many;
        }

        void copyTo(char[] target) {
            for (int i = 0; i < count; i++) {
                target[i] = signs[i];
            }
        }

        int giveUpAll() {
            int former = count;
            count = 0;
            return former;
        }

        boolean hasSameAs(SignWriter other) {
            if (count != other.count) {
                return false;
            }
            for (int i = 0; i < count; i++) {
                if (signs[i] != other.signs[i]) {
                    return false;
                }
            }
            return true;
        }
    }

    /** A place in a part of a row of signs. Till it is opened it has an empty row, so that none is null. */
    private static final class SignReader {
        SignRow row = new SignRow(0);
        int place;
        int end;
        int marked;
        boolean isThere;
        boolean isShut;

        void openOn(SignRow source, int from, int many) {
            row = source;
            place = from;
            end = from + Math.min(many, source.signs.length - from);
            marked = from;
            isThere = true;
            isShut = false;
        }

        int countRest() {
            return end - place;
        }

        int readOne() {
            if (place >= end) {
                return -1;
            }
            int code = row.signs[place];
            place++;
            return code;
        }

        int readSome(char[] target, int from, int many) {
            if (place >= end) {
                return -1;
            }
            int count = Math.min(many, end - place);
            for (int i = 0; i < count; i++) {
                target[from + i] = row.signs[place + i];
            }
            place += count;
            return count;
        }

        long skipSome(long many) {
            long count = Math.max(0L, Math.min(many, (long) (end - place)));
            place += (int) count;
            return count;
        }
    }

    /** Up to three rows of bytes, read one behind the other; not joined yet while it has no parts. */
    private static final class JoinedStream {
        final ByteRow[] parts = new ByteRow[MOST_PARTS];
        int partCount;
        int part;
        int place;
        int passed;
        int total;

        void giveUpParts() {
            partCount = 0;
            part = 0;
            place = 0;
            passed = 0;
            total = 0;
        }

        void addRow(ByteRow row) {
            if (partCount < MOST_PARTS) {
                parts[partCount] = row;
                partCount++;
                total += row.bytes.length;
            }
        }

        void joinRows(ByteRow first, ByteRow second, ByteRow third) {
            giveUpParts();
            addRow(first);
            addRow(second);
            addRow(third);
        }

        boolean isJoined() {
            return partCount > 0;
        }

        boolean hasPart(ByteRow row) {
            for (int i = 0; i < partCount; i++) {
                if (parts[i] == row) {
                    return true;
                }
            }
            return false;
        }

        int countRestOfPart() {
            return part < partCount ? parts[part].bytes.length - place : 0;
        }

        /** To be called only when a byte is wanted: till then the stream stands at the end of a part. */
        boolean findByte() {
            while (part < partCount && place >= parts[part].bytes.length) {
                part++;
                place = 0;
            }
            return part < partCount;
        }

        int readOne() {
            if (!findByte()) {
                return -1;
            }
            int read = parts[part].bytes[place] & LOWEST_BITS;
            place++;
            passed++;
            return read;
        }

        int readSome(byte[] target, int from, int many) {
            if (!findByte()) {
                return -1;
            }
            byte[] source = parts[part].bytes;
            int count = Math.min(many, source.length - place);
            for (int i = 0; i < count; i++) {
                target[from + i] = source[place + i];
            }
            place += count;
            passed += count;
            return count;
        }

        long passSome(long many) {
            for (long count = 0; count < many; count++) {
                if (readOne() < 0) {
                    return count;
                }
            }
            return many;
        }
    }

    /** What isTrue() tries the theorem with: a reader, writers and a stream of its own, used again by each call. */
    private static final class Trial {
        private final SignRow row = new SignRow(MOST_SIGNS);
        private final char[] three = new char[3];
        private final SignReader reader = new SignReader();
        private final SignWriter textWriter = new SignWriter();
        private final SignWriter arrayWriter = new SignWriter();
        private final byte[] together = new byte[MOST_PARTS * MOST_BYTES];
        private final byte[] two = new byte[2];
        private final JoinedStream stream = new JoinedStream();

        boolean holdsForWriter(SignWriter writer) {
            return isReadByOnes(writer) && isReadByThrees(writer) && isPoured(writer);
        }

        /** One check stands for both ways of joining: a stream has its parts side by side in either. */
        boolean holdsForRows(ByteRow first, ByteRow second, ByteRow third) {
            int many = putTogether(first.bytes, 0);
            many = putTogether(second.bytes, many);
            many = putTogether(third.bytes, many);
            stream.joinRows(first, second, third);
            boolean isByOnes = givesOnes(many);
            stream.joinRows(first, second, third);
            return isByOnes && givesTwos(many);
        }

        private void openReader(SignWriter writer) {
            writer.copyTo(row.signs);
            reader.openOn(row, 0, writer.count);
        }

        private boolean isReadByOnes(SignWriter writer) {
            openReader(writer);
            for (int i = 0; i < writer.count; i++) {
                if (reader.readOne() != writer.signs[i]) {
                    return false;
                }
            }
            return reader.readOne() == -1;
        }

        private boolean isReadByThrees(SignWriter writer) {
            openReader(writer);
            for (int done = 0; done < writer.count; done += 3) {
                int count = Math.min(3, writer.count - done);
                if (reader.readSome(three, 0, 3) != count) {
                    return false;
                }
                for (int i = 0; i < count; i++) {
                    if (three[i] != writer.signs[done + i]) {
                        return false;
                    }
                }
            }
            return reader.readSome(three, 0, 3) == -1;
        }

        private boolean isPoured(SignWriter writer) {
            arrayWriter.giveUpAll();
            arrayWriter.addAll(writer.signs, 0, writer.count);
            textWriter.giveUpAll();
            textWriter.addAll(arrayWriter.signs, 0, arrayWriter.count);
            return arrayWriter.hasSameAs(writer) && textWriter.hasSameAs(writer);
        }

        private int putTogether(byte[] bytes, int from) {
            for (int i = 0; i < bytes.length; i++) {
                together[from + i] = bytes[i];
            }
            return from + bytes.length;
        }

        private boolean givesOnes(int many) {
            for (int i = 0; i < many; i++) {
                if (stream.readOne() != (together[i] & LOWEST_BITS)) {
                    return false;
                }
            }
            return stream.readOne() == -1;
        }

        private boolean givesTwos(int many) {
            int done = 0;
            // Each turn but the last has a byte at least, so there are no more turns than this.
            for (int turn = 0; turn <= many; turn++) {
                int count = stream.readSome(two, 0, 2);
                if (count < 0) {
                    return done == many;
                }
                for (int i = 0; i < count; i++) {
                    if (done + i >= many || two[i] != together[done + i]) {
                        return false;
                    }
                }
                done += count;
            }
            return false;
        }
    }
}
