import java.io.ByteArrayInputStream;
import java.io.CharArrayReader;
import java.io.CharArrayWriter;
import java.io.IOException;
import java.io.InputStream;
import java.io.SequenceInputStream;
import java.io.StringWriter;
import java.util.Arrays;

/** The same calls answered by the java.io classes themselves: what the program is compared with. */
final class JavaIoBook {
    private final char[][] rows = new char[4][0];
    private final byte[][] byteRows = new byte[4][0];
    private final StringWriter[] texts = new StringWriter[3];
    private final CharArrayWriter[] arrays = new CharArrayWriter[3];
    private final CharArrayReader[] readers = new CharArrayReader[3];
    private final char[][] readRows = new char[3][];
    private final int[] rests = new int[3];
    private final int[] markedRests = new int[3];
    private final boolean[] isShut = new boolean[3];
    private final InputStream[] streams = new InputStream[2];
    private final byte[][][] parts = new byte[2][][];
    private final int[] passed = new int[2];

    JavaIoBook() {
        // Each empty row is an array of its own.
        for (int i = 0; i < 4; i++) {
            rows[i] = new char[0];
            byteRows[i] = new byte[0];
        }
        for (int i = 0; i < 3; i++) {
            texts[i] = new StringWriter();
            arrays[i] = new CharArrayWriter();
        }
    }

    private static void index(int index, int end) {
        if (index < 0 || index >= end) {
            throw new IndexOutOfBoundsException();
        }
    }

    private static void places(int from, int many, int length) {
        if (from < 0 || many < 0 || (long) from + many > length) {
            throw new IndexOutOfBoundsException();
        }
    }

    private static void range(long number, long least, long most) {
        if (number < least || number > most) {
            throw new IllegalArgumentException();
        }
    }

    private static void room(int size) {
        if (size > 256) {
            throw new IllegalStateException();
        }
    }

    int make(int row, int length) {
        index(row, 4);
        range(length, 0, 256);
        int was = rows[row].length;
        rows[row] = new char[length];
        return was;
    }

    char put(int row, int index, char sign) {
        index(row, 4);
        index(index, rows[row].length);
        char was = rows[row][index];
        rows[row][index] = (char) (sign & 0xFF);
        return was;
    }

    int fill(int row, int from, int many, char sign, int step) {
        index(row, 4);
        places(from, many, rows[row].length);
        int sum = 0;
        for (int i = 0; i < many; i++) {
            sum += rows[row][from + i];
            rows[row][from + i] = (char) ((sign + (long) step * i) & 0xFF);
        }
        return sum;
    }

    char get(int row, int index) {
        index(row, 4);
        index(index, rows[row].length);
        return rows[row][index];
    }

    int length(int row) {
        index(row, 4);
        return rows[row].length;
    }

    int makeBytes(int row, int length, int number, int step) {
        index(row, 4);
        range(length, 0, 64);
        int was = byteRows[row].length;
        byteRows[row] = new byte[length];
        for (int i = 0; i < length; i++) {
            byteRows[row][i] = (byte) (number + (long) step * i);
        }
        return was;
    }

    int putByte(int row, int index, int number) {
        index(row, 4);
        index(index, byteRows[row].length);
        int was = byteRows[row][index];
        byteRows[row][index] = (byte) number;
        return was;
    }

    int getByte(int row, int index) {
        index(row, 4);
        index(index, byteRows[row].length);
        return byteRows[row][index];
    }

    int begin(int writer) {
        index(writer, 3);
        int was = size(writer);
        texts[writer] = new StringWriter();
        return was;
    }

    int write(int writer, int number) {
        index(writer, 3);
        room(size(writer) + 1);
        texts[writer].write(number & 0xFF);
        return size(writer);
    }

    int writeText(int writer, int row, int from, int many) {
        index(writer, 3);
        index(row, 4);
        places(from, many, rows[row].length);
        room(size(writer) + many);
        texts[writer].write(new String(rows[row]), from, many);
        return size(writer);
    }

    int writeSigns(int writer, int row, int from, int many) {
        index(writer, 3);
        index(row, 4);
        places(from, many, rows[row].length);
        room(size(writer) + many);
        texts[writer].write(rows[row], from, many);
        return size(writer);
    }

    int append(int writer, char sign) {
        index(writer, 3);
        room(size(writer) + 2);
        char cut = (char) (sign & 0xFF);
        texts[writer].append(cut).append(cut);
        return size(writer);
    }

    int size(int writer) {
        index(writer, 3);
        return texts[writer].getBuffer().length();
    }

    int take(int writer, int row) {
        index(writer, 3);
        index(row, 4);
        rows[row] = texts[writer].toString().toCharArray();
        return rows[row].length;
    }

    int empty(int writer) {
        index(writer, 3);
        int was = arrays[writer].size();
        arrays[writer].reset();
        return was;
    }

    int arrayWrite(int writer, int number) {
        index(writer, 3);
        room(arrays[writer].size() + 1);
        arrays[writer].write(number & 0xFF);
        return arrays[writer].size();
    }

    int arrayText(int writer, int row, int from, int many) {
        index(writer, 3);
        index(row, 4);
        places(from, many, rows[row].length);
        room(arrays[writer].size() + many);
        arrays[writer].write(new String(rows[row]), from, many);
        return arrays[writer].size();
    }

    int arraySigns(int writer, int row, int from, int many) {
        index(writer, 3);
        index(row, 4);
        places(from, many, rows[row].length);
        room(arrays[writer].size() + many);
        arrays[writer].write(rows[row], from, many);
        return arrays[writer].size();
    }

    int arrayAppend(int writer, char sign) {
        index(writer, 3);
        room(arrays[writer].size() + 2);
        char cut = (char) (sign & 0xFF);
        arrays[writer].append(cut).append(cut);
        return arrays[writer].size();
    }

    int arraySize(int writer) {
        index(writer, 3);
        return arrays[writer].size();
    }

    int arrayTake(int writer, int row) {
        index(writer, 3);
        index(row, 4);
        rows[row] = arrays[writer].toCharArray();
        return rows[row].length;
    }

    int pour(int writer, int to) {
        index(writer, 3);
        index(to, 3);
        room(size(to) + arrays[writer].size());
        try {
            arrays[writer].writeTo(texts[to]);
        } catch (IOException e) {
            throw new AssertionError(e);
        }
        return size(to);
    }

    int pourOver(int writer, int to) {
        index(writer, 3);
        index(to, 3);
        range(writer == to ? 1 : 0, 0, 0);
        room(arrays[to].size() + arrays[writer].size());
        try {
            arrays[writer].writeTo(arrays[to]);
        } catch (IOException e) {
            throw new AssertionError(e);
        }
        return arrays[to].size();
    }

    boolean areLike(int writer, int other) {
        index(writer, 3);
        index(other, 3);
        return texts[writer].toString().equals(arrays[other].toString())
                && Arrays.equals(texts[writer].toString().toCharArray(), arrays[other].toCharArray());
    }

    int open(int reader, int row, int from, int many) {
        index(reader, 3);
        index(row, 4);
        places(from, 0, rows[row].length);
        range(many, 0, 1000);
        return opened(reader, row, new CharArrayReader(rows[row], from, many),
                Math.min(many, rows[row].length - from));
    }

    int openAll(int reader, int row) {
        index(reader, 3);
        index(row, 4);
        return opened(reader, row, new CharArrayReader(rows[row]), rows[row].length);
    }

    private int opened(int reader, int row, CharArrayReader made, int rest) {
        readers[reader] = made;
        readRows[reader] = rows[row];
        isShut[reader] = false;
        rests[reader] = rest;
        markedRests[reader] = rest;
        return rest;
    }

    int shut(int reader) {
        index(reader, 3);
        if (readers[reader] == null) {
            throw new UnsupportedOperationException();
        }
        int rest = isShut[reader] ? 0 : rests[reader];
        readers[reader].close();
        isShut[reader] = true;
        return rest;
    }

    private CharArrayReader ready(int reader) {
        if (readers[reader] == null || isShut[reader]) {
            throw new UnsupportedOperationException();
        }
        return readers[reader];
    }

    int read(int reader) {
        index(reader, 3);
        try {
            int sign = ready(reader).read();
            rests[reader] -= sign < 0 ? 0 : 1;
            return sign;
        } catch (IOException e) {
            throw new AssertionError(e);
        }
    }

    int readPart(int reader, int row, int from, int many) {
        index(reader, 3);
        index(row, 4);
        places(from, many, rows[row].length);
        range(many, 1, Integer.MAX_VALUE);
        CharArrayReader source = ready(reader);
        if (readRows[reader] == rows[row]) {
            throw new IllegalStateException();
        }
        try {
            int count = source.read(rows[row], from, many);
            rests[reader] -= Math.max(0, count);
            return count;
        } catch (IOException e) {
            throw new AssertionError(e);
        }
    }

    long skip(int reader, long many) {
        index(reader, 3);
        try {
            long count = ready(reader).skip(many);
            rests[reader] -= (int) count;
            return count;
        } catch (IOException e) {
            throw new AssertionError(e);
        }
    }

    int mark(int reader, int limit) {
        index(reader, 3);
        range(limit, 0, Integer.MAX_VALUE);
        try {
            ready(reader).mark(limit);
        } catch (IOException e) {
            throw new AssertionError(e);
        }
        markedRests[reader] = rests[reader];
        return rests[reader];
    }

    int back(int reader) {
        index(reader, 3);
        try {
            ready(reader).reset();
        } catch (IOException e) {
            throw new AssertionError(e);
        }
        rests[reader] = markedRests[reader];
        return rests[reader];
    }

    private InputStream bytesOf(int row) {
        return new ByteArrayInputStream(byteRows[row]);
    }

    private int joined(int stream, InputStream made, byte[]... rowsOfIt) {
        streams[stream] = made;
        parts[stream] = rowsOfIt;
        passed[stream] = 0;
        return total(stream);
    }

    private int total(int stream) {
        int sum = 0;
        for (byte[] part : parts[stream]) {
            sum += part.length;
        }
        return sum;
    }

    int join(int stream, int first, int second) {
        index(stream, 2);
        index(first, 4);
        index(second, 4);
        return joined(stream, new SequenceInputStream(bytesOf(first), bytesOf(second)), byteRows[first],
                byteRows[second]);
    }

    int joinThree(int stream, int first, int second, int third, boolean isLeft) {
        index(stream, 2);
        index(first, 4);
        index(second, 4);
        index(third, 4);
        InputStream made = isLeft
                ? new SequenceInputStream(new SequenceInputStream(bytesOf(first), bytesOf(second)), bytesOf(third))
                : new SequenceInputStream(bytesOf(first), new SequenceInputStream(bytesOf(second), bytesOf(third)));
        return joined(stream, made, byteRows[first], byteRows[second], byteRows[third]);
    }

    private InputStream there(int stream) {
        if (streams[stream] == null) {
            throw new UnsupportedOperationException();
        }
        return streams[stream];
    }

    int next(int stream) {
        index(stream, 2);
        try {
            int number = there(stream).read();
            passed[stream] += number < 0 ? 0 : 1;
            return number;
        } catch (IOException e) {
            throw new AssertionError(e);
        }
    }

    int nextPart(int stream, int row, int from, int many) {
        index(stream, 2);
        index(row, 4);
        places(from, many, byteRows[row].length);
        range(many, 1, Integer.MAX_VALUE);
        InputStream source = there(stream);
        for (byte[] part : parts[stream]) {
            if (part == byteRows[row]) {
                throw new IllegalStateException();
            }
        }
        try {
            int count = source.read(byteRows[row], from, many);
            passed[stream] += Math.max(0, count);
            return count;
        } catch (IOException e) {
            throw new AssertionError(e);
        }
    }

    long pass(int stream, long many) {
        index(stream, 2);
        range(many, 0, 1000);
        try {
            long count = there(stream).skip(many);
            passed[stream] += (int) count;
            return count;
        } catch (IOException e) {
            throw new AssertionError(e);
        }
    }

    int left(int stream) {
        index(stream, 2);
        try {
            return there(stream).available();
        } catch (IOException e) {
            throw new AssertionError(e);
        }
    }

    float passedShare(int stream) {
        index(stream, 2);
        there(stream);
        if (total(stream) == 0) {
            throw new ArithmeticException();
        }
        return (float) passed[stream] / (float) total(stream);
    }

    double meanSize() {
        double sum = 0;
        for (int i = 0; i < 3; i++) {
            sum += size(i) + arrays[i].size();
        }
        return sum / 6.0;
    }

    private long sum;

    private void add(long number) {
        sum = sum * 31 + number;
    }

    private void addAll(char[] signs) {
        add(signs.length);
        for (char sign : signs) {
            add(sign);
        }
    }

    long checksum() {
        sum = 7;
        for (char[] row : rows) {
            addAll(row);
        }
        for (byte[] row : byteRows) {
            add(row.length);
            for (byte number : row) {
                add(number);
            }
        }
        for (StringWriter text : texts) {
            addAll(text.toString().toCharArray());
        }
        for (CharArrayWriter array : arrays) {
            addAll(array.toCharArray());
        }
        for (int i = 0; i < 2; i++) {
            add(streams[i] == null ? -1 : left(i));
        }
        return sum;
    }

    boolean isTrue() {
        return true;
    }
}
