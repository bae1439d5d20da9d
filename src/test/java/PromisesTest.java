/** The promises 1 to 44 one by one: ordinary inputs, the edges that the document names, and wrong inputs. */
public final class PromisesTest {
    private static final Class<IndexOutOfBoundsException> INDEX = IndexOutOfBoundsException.class;
    private static final Class<IllegalArgumentException> ARGUMENT = IllegalArgumentException.class;
    private static final Class<IllegalStateException> STATE = IllegalStateException.class;
    private static final Class<UnsupportedOperationException> UNSUPPORTED = UnsupportedOperationException.class;
    private static final Class<ArithmeticException> ARITHMETIC = ArithmeticException.class;
    private static final int MIN = Integer.MIN_VALUE;
    private static final int MAX = Integer.MAX_VALUE;

    private PromisesTest() {
    }

    public static void main(String[] args) {
        newObject();
        rowsOfSigns();
        fills();
        rowsOfBytes();
        for (int kind = 0; kind < 2; kind++) {
            writes(kind == 0);
            writesParts(kind == 0);
            takes(kind == 0);
        }
        pours();
        poursOver();
        areLike();
        opens();
        shuts();
        reads();
        readsParts();
        skips();
        marks();
        joins();
        joinsThree();
        nexts();
        nextsParts();
        passes();
        lefts();
        shares();
        meanSizes();
        checksums();
        truths();
        Checks.end("PromisesTest");
    }

    // ---- what is used over and over ----

    /** Row 0 has the codes from first on, one more each. */
    private static Strandbook withRow(int length, int first) {
        Strandbook book = new Strandbook();
        book.make(0, length);
        book.fill(0, 0, length, (char) first, 1);
        return book;
    }

    /** Rows of bytes 0 to 3: 1 2 3, none, 11 12, and five of 0. */
    private static Strandbook withBytes() {
        Strandbook book = new Strandbook();
        book.makeBytes(0, 3, 1, 1);
        book.makeBytes(2, 2, 11, 1);
        book.makeBytes(3, 5, 0, 0);
        return book;
    }

    private static String row(Strandbook book, int row) {
        StringBuilder text = new StringBuilder();
        for (int i = 0; i < book.length(row); i++) {
            text.append((int) book.get(row, i)).append(' ');
        }
        return text.toString();
    }

    private static String bytes(Strandbook book, int row, int length) {
        StringBuilder text = new StringBuilder();
        for (int i = 0; i < length; i++) {
            text.append(book.getByte(row, i)).append(' ');
        }
        return text.toString();
    }

    private static void same(String what, Object got, Object due) {
        Checks.same(what, got, due);
    }

    private interface IntCall {
        Object answer(int number);
    }

    /** A call of the one index must refuse all of those that are not there. */
    private static void refusesIndexes(String what, Strandbook book, int end, IntCall call) {
        for (int index : new int[] {-1, end, end + 1, MIN, MAX}) {
            Checks.refused(what + " of " + index, book, INDEX, () -> call.answer(index));
        }
    }

    private interface PartCall {
        Object answer(int from, int many);
    }

    /** A call of some places of a row of a length must refuse all that are not there. */
    private static void refusesPlaces(String what, Strandbook book, int length, PartCall call) {
        int[][] wrong = {{-1, 0}, {-1, 1}, {0, -1}, {length, -1}, {length + 1, 0}, {length + 1, -1}, {0, length + 1},
            {length, 1}, {1, length}, {MAX, MAX}, {MAX, 1}, {1, MAX}, {MIN, 1}, {0, MIN}, {MIN, MIN}};
        for (int[] part : wrong) {
            Checks.refused(what + " of " + part[0] + ", " + part[1], book, INDEX,
                    () -> call.answer(part[0], part[1]));
        }
    }

    // ---- promise 1 ----

    private static void newObject() {
        Strandbook book = new Strandbook();
        long due = 7;
        for (int i = 0; i < 4 + 4 + 3 + 3; i++) {
            due *= 31;
        }
        due = (due * 31 - 1) * 31 - 1;
        same("new: checksum", book.checksum(), due);
        same("new: meanSize", book.meanSize(), 0.0);
        same("new: isTrue", book.isTrue(), true);
        for (int i = 0; i < 4; i++) {
            int row = i;
            same("new: length", book.length(i), 0);
            Checks.refused("new: get", book, INDEX, () -> book.get(row, 0));
            Checks.refused("new: getByte", book, INDEX, () -> book.getByte(row, 0));
        }
        for (int i = 0; i < 3; i++) {
            int index = i;
            same("new: size", book.size(i), 0);
            same("new: arraySize", book.arraySize(i), 0);
            same("new: areLike", book.areLike(i, 2 - i), true);
            Checks.refused("new: read", book, UNSUPPORTED, () -> book.read(index));
        }
        for (int i = 0; i < 2; i++) {
            int index = i;
            Checks.refused("new: next", book, UNSUPPORTED, () -> book.next(index));
        }
    }

    // ---- promises 2 to 6 ----

    private static void rowsOfSigns() {
        Strandbook book = new Strandbook();
        same("make", book.make(3, 256), 0);
        same("put", book.put(3, 255, 'z'), (char) 0);
        same("put again", book.put(3, 255, (char) 0x1FF), 'z');
        same("get of a cut sign", book.get(3, 255), (char) 255);
        same("put of 256", book.put(3, 0, (char) 256), (char) 0);
        same("get of a cut 256", book.get(3, 0), (char) 0);
        same("put of the last sign", book.put(3, 0, (char) 65535), (char) 0);
        same("get of the cut last sign", book.get(3, 0), (char) 255);
        same("length", book.length(3), 256);
        same("make of none", book.make(3, 0), 256);
        same("make again", book.make(3, 2), 0);
        same("made anew", row(book, 3), "0 0 ");
        book.fill(3, 0, 2, 'a', 1);
        same("make as long", book.make(3, 2), 2);
        same("made anew as long", row(book, 3), "0 0 ");
        refusesIndexes("make", book, 4, row -> book.make(row, 1));
        refusesIndexes("make with two wrongs", book, 4, row -> book.make(row, 257));
        for (int length : new int[] {-1, 257, MIN, MAX}) {
            Checks.refused("make of " + length, book, ARGUMENT, () -> book.make(0, length));
        }
        same("length after refused ones", book.length(0), 0);
        refusesIndexes("put", book, 4, row -> book.put(row, 0, 'a'));
        refusesIndexes("put", book, 2, index -> book.put(3, index, 'a'));
        refusesIndexes("get", book, 4, row -> book.get(row, 0));
        refusesIndexes("get", book, 2, index -> book.get(3, index));
        refusesIndexes("length", book, 4, row -> book.length(row));
    }

    private static void fills() {
        Strandbook book = new Strandbook();
        book.make(1, 5);
        same("fill", book.fill(1, 1, 3, 'a', 2), 0);
        same("filled", row(book, 1), "0 97 99 101 0 ");
        same("fill again", book.fill(1, 2, 3, (char) 254, 1), 99 + 101);
        same("filled round", row(book, 1), "0 97 254 255 0 ");
        same("fill downwards", book.fill(1, 0, 5, (char) 513, -1), 97 + 254 + 255);
        same("filled downwards", row(book, 1), "1 0 255 254 253 ");
        same("fill by a wide step", book.fill(1, 0, 5, (char) 65535, MAX), 1 + 255 + 254 + 253);
        same("filled by a wide step", row(book, 1), "255 254 253 252 251 ");
        same("fill by the widest step", book.fill(1, 0, 2, 'a', MIN), 255 + 254);
        same("filled by the widest step", row(book, 1), "97 97 253 252 251 ");
        same("fill none at the end", book.fill(1, 5, 0, 'a', 1), 0);
        same("fill none at the begin", book.fill(1, 0, 0, 'a', 1), 0);
        same("fill none of an empty row", book.fill(0, 0, 0, 'a', 1), 0);
        same("fill all", book.fill(1, 0, 5, 'b', 0), 97 + 97 + 253 + 252 + 251);
        same("filled by none", row(book, 1), "98 98 98 98 98 ");
        refusesIndexes("fill", book, 4, row -> book.fill(row, 0, 0, 'a', 1));
        refusesPlaces("fill", book, 5, (from, many) -> book.fill(1, from, many, 'a', 1));
        refusesPlaces("fill of an empty row", book, 0, (from, many) -> book.fill(0, from, many, 'a', 1));
    }

    // ---- promises 7 to 9 ----

    private static void rowsOfBytes() {
        Strandbook book = new Strandbook();
        same("makeBytes", book.makeBytes(3, 64, 126, 1), 0);
        same("getByte 126", book.getByte(3, 0), 126);
        same("getByte 127", book.getByte(3, 1), 127);
        same("getByte round", book.getByte(3, 2), -128);
        same("getByte last", book.getByte(3, 63), (int) (byte) (126 + 63));
        same("makeBytes anew", book.makeBytes(3, 3, 250, 3), 64);
        same("made bytes", bytes(book, 3, 3), "-6 -3 0 ");
        same("makeBytes downwards", book.makeBytes(3, 4, 1, -1), 3);
        same("made downwards", bytes(book, 3, 4), "1 0 -1 -2 ");
        same("makeBytes wide", book.makeBytes(3, 3, MIN, MAX), 4);
        same("made wide", bytes(book, 3, 3), "0 -1 -2 ");
        same("putByte", book.putByte(3, 1, 200), -1);
        same("putByte again", book.putByte(3, 1, -129), -56);
        same("getByte of a cut number", book.getByte(3, 1), 127);
        same("putByte of 256", book.putByte(3, 1, 256), 127);
        same("getByte of a cut 256", book.getByte(3, 1), 0);
        same("makeBytes of none", book.makeBytes(3, 0, 1, 1), 3);
        refusesIndexes("getByte of none", book, 0, index -> book.getByte(3, index));
        same("makeBytes of two", book.makeBytes(3, 2, 5, 0), 0);
        same("made of no step", bytes(book, 3, 2), "5 5 ");
        refusesIndexes("makeBytes", book, 4, row -> book.makeBytes(row, 1, 0, 0));
        refusesIndexes("makeBytes with two wrongs", book, 4, row -> book.makeBytes(row, 65, 0, 0));
        for (int length : new int[] {-1, 65, MIN, MAX}) {
            Checks.refused("makeBytes of " + length, book, ARGUMENT, () -> book.makeBytes(3, length, 1, 1));
        }
        refusesIndexes("putByte", book, 4, row -> book.putByte(row, 0, 1));
        refusesIndexes("putByte", book, 2, index -> book.putByte(3, index, 1));
        refusesIndexes("getByte", book, 4, row -> book.getByte(row, 0));
        refusesIndexes("getByte", book, 2, index -> book.getByte(3, index));
        same("refused ones changed nothing", bytes(book, 3, 2), "5 5 ");
    }

    // ---- promises 10 to 16 and 17 to 23: both kinds of writers alike ----

    private static int put(Strandbook book, boolean isText, int writer, int number) {
        return isText ? book.write(writer, number) : book.arrayWrite(writer, number);
    }

    private static int putTwice(Strandbook book, boolean isText, int writer, char sign) {
        return isText ? book.append(writer, sign) : book.arrayAppend(writer, sign);
    }

    private static int putText(Strandbook book, boolean isText, int writer, int row, int from, int many) {
        return isText ? book.writeText(writer, row, from, many) : book.arrayText(writer, row, from, many);
    }

    private static int putSigns(Strandbook book, boolean isText, int writer, int row, int from, int many) {
        return isText ? book.writeSigns(writer, row, from, many) : book.arraySigns(writer, row, from, many);
    }

    private static int sizeOf(Strandbook book, boolean isText, int writer) {
        return isText ? book.size(writer) : book.arraySize(writer);
    }

    private static int anew(Strandbook book, boolean isText, int writer) {
        return isText ? book.begin(writer) : book.empty(writer);
    }

    private static int taken(Strandbook book, boolean isText, int writer, int row) {
        return isText ? book.take(writer, row) : book.arrayTake(writer, row);
    }

    private static String signs(Strandbook book, boolean isText, int writer) {
        taken(book, isText, writer, 3);
        return row(book, 3);
    }

    private static void writes(boolean isText) {
        String kind = isText ? "text writer: " : "array writer: ";
        Strandbook book = new Strandbook();
        same(kind + "write", put(book, isText, 2, 'A'), 1);
        same(kind + "write cut", put(book, isText, 2, 65536 + 256 + 66), 2);
        same(kind + "write -1", put(book, isText, 2, -1), 3);
        same(kind + "write the least", put(book, isText, 2, MIN), 4);
        same(kind + "append", putTwice(book, isText, 2, 'c'), 6);
        same(kind + "append cut", putTwice(book, isText, 2, (char) 0xFF64), 8);
        same(kind + "signs", signs(book, isText, 2), "65 66 255 0 99 99 100 100 ");
        same(kind + "size", sizeOf(book, isText, 2), 8);
        same(kind + "the others' sizes", sizeOf(book, isText, 0) + sizeOf(book, isText, 1)
                + sizeOf(book, !isText, 2), 0);
        same(kind + "anew", anew(book, isText, 2), 8);
        same(kind + "anew again", anew(book, isText, 2), 0);
        same(kind + "size then", sizeOf(book, isText, 2), 0);
        same(kind + "write then", put(book, isText, 2, 'x'), 1);
        same(kind + "signs then", signs(book, isText, 2), "120 ");
        for (int i = 1; i < 255; i++) {
            same(kind + "write on", put(book, isText, 2, i), i + 1);
        }
        Checks.refused(kind + "append to 257", book, STATE, () -> putTwice(book, isText, 2, 'a'));
        same(kind + "write to 256", put(book, isText, 2, 'a'), 256);
        Checks.refused(kind + "write to 257", book, STATE, () -> put(book, isText, 2, 'a'));
        Checks.refused(kind + "append to 258", book, STATE, () -> putTwice(book, isText, 2, 'a'));
        same(kind + "full size", sizeOf(book, isText, 2), 256);
        same(kind + "anew of all", anew(book, isText, 2), 256);
        same(kind + "append of two to 254", appendUpTo(book, isText, 254), 256);
        refusesIndexes(kind + "anew", book, 3, writer -> anew(book, isText, writer));
        refusesIndexes(kind + "write", book, 3, writer -> put(book, isText, writer, 1));
        refusesIndexes(kind + "append", book, 3, writer -> putTwice(book, isText, writer, 'a'));
        refusesIndexes(kind + "size", book, 3, writer -> sizeOf(book, isText, writer));
    }

    private static int appendUpTo(Strandbook book, boolean isText, int size) {
        while (sizeOf(book, isText, 1) < size) {
            putTwice(book, isText, 1, 'a');
        }
        return putTwice(book, isText, 1, 'a');
    }

    private static void writesParts(boolean isText) {
        String kind = isText ? "text writer: " : "array writer: ";
        Strandbook book = withRow(5, 'a');
        same(kind + "text", putText(book, isText, 0, 0, 1, 3), 3);
        same(kind + "signs", putSigns(book, isText, 0, 0, 2, 3), 6);
        same(kind + "no text", putText(book, isText, 0, 0, 5, 0), 6);
        same(kind + "no signs", putSigns(book, isText, 0, 0, 5, 0), 6);
        same(kind + "all text", putText(book, isText, 1, 0, 0, 5), 5);
        same(kind + "all signs", putSigns(book, isText, 1, 0, 0, 5), 10);
        same(kind + "none of an empty row", putText(book, isText, 1, 1, 0, 0), 10);
        book.put(0, 1, 'X');
        same(kind + "what it has", signs(book, isText, 0), "98 99 100 99 100 101 ");
        same(kind + "what another has", signs(book, isText, 1), "97 98 99 100 101 97 98 99 100 101 ");
        refusesIndexes(kind + "text", book, 3, writer -> putText(book, isText, writer, 0, 0, 1));
        refusesIndexes(kind + "text's row", book, 4, row -> putText(book, isText, 0, row, 0, 0));
        refusesPlaces(kind + "text", book, 5, (from, many) -> putText(book, isText, 0, 0, from, many));
        refusesIndexes(kind + "signs", book, 3, writer -> putSigns(book, isText, writer, 0, 0, 1));
        refusesIndexes(kind + "signs' row", book, 4, row -> putSigns(book, isText, 0, row, 0, 0));
        refusesPlaces(kind + "signs", book, 5, (from, many) -> putSigns(book, isText, 0, 0, from, many));
        book.make(2, 256);
        Checks.refused(kind + "too much text", book, STATE, () -> putText(book, isText, 0, 2, 0, 251));
        Checks.refused(kind + "too many signs", book, STATE, () -> putSigns(book, isText, 0, 2, 0, 251));
        Checks.refused(kind + "too much, and not there: text", book, INDEX,
                () -> putText(book, isText, 0, 2, 0, 257));
        Checks.refused(kind + "too much, and not there: signs", book, INDEX,
                () -> putSigns(book, isText, 0, 2, 0, 257));
        same(kind + "text up to 256", putText(book, isText, 0, 2, 0, 250), 256);
        same(kind + "no text when full", putText(book, isText, 0, 2, 256, 0), 256);
        same(kind + "no signs when full", putSigns(book, isText, 0, 2, 0, 0), 256);
        Checks.refused(kind + "one more as text", book, STATE, () -> putText(book, isText, 0, 2, 0, 1));
        Checks.refused(kind + "one more as signs", book, STATE, () -> putSigns(book, isText, 0, 2, 0, 1));
        same(kind + "256 signs at once", putSigns(book, isText, 2, 2, 0, 256), 256);
    }

    private static void takes(boolean isText) {
        String kind = isText ? "text writer: " : "array writer: ";
        Strandbook book = withRow(3, 'a');
        putSigns(book, isText, 1, 0, 0, 3);
        book.openAll(0, 0);
        same(kind + "take", taken(book, isText, 1, 0), 3);
        same(kind + "taken", row(book, 0), "97 98 99 ");
        book.put(0, 0, 'z');
        same(kind + "the reader goes on with the former array", book.read(0), (int) 'a');
        same(kind + "take once more", taken(book, isText, 1, 1), 3);
        same(kind + "what is taken is a row of its own", row(book, 1), "97 98 99 ");
        book.put(1, 1, 'y');
        same(kind + "of its own also beside another", row(book, 0), "122 98 99 ");
        same(kind + "take keeps the writer's", sizeOf(book, isText, 1), 3);
        putSigns(book, isText, 1, 0, 0, 1);
        same(kind + "a row that was taken stays", book.length(1), 3);
        same(kind + "take of none", taken(book, isText, 0, 0), 0);
        same(kind + "length of none", book.length(0), 0);
        refusesIndexes(kind + "take", book, 3, writer -> taken(book, isText, writer, 0));
        refusesIndexes(kind + "take's row", book, 4, row -> taken(book, isText, 1, row));
    }

    // ---- promises 24 to 26 ----

    private static void pours() {
        Strandbook book = withRow(3, 'a');
        book.arraySigns(1, 0, 0, 3);
        book.write(2, 'x');
        same("pour", book.pour(1, 2), 4);
        same("pour again", book.pour(1, 2), 7);
        same("poured", signs(book, true, 2), "120 97 98 99 97 98 99 ");
        same("pour keeps what it pours", book.arraySize(1), 3);
        same("pour of the same number", book.pour(1, 1), 3);
        same("pour of none", book.pour(0, 2), 7);
        refusesIndexes("pour", book, 3, writer -> book.pour(writer, 0));
        refusesIndexes("pour to", book, 3, to -> book.pour(1, to));
        book.make(1, 254);
        book.writeSigns(0, 1, 0, 254);
        Checks.refused("pour too much", book, STATE, () -> book.pour(1, 0));
        book.begin(0);
        book.writeSigns(0, 1, 0, 253);
        same("pour up to 256", book.pour(1, 0), 256);
        same("pour of none into a full one", book.pour(0, 0), 256);
        Checks.refused("pour into a full one", book, STATE, () -> book.pour(1, 0));
    }

    private static void poursOver() {
        Strandbook book = withRow(3, 'a');
        book.arraySigns(1, 0, 0, 3);
        book.arrayWrite(2, 'x');
        same("pourOver", book.pourOver(1, 2), 4);
        same("poured over", signs(book, false, 2), "120 97 98 99 ");
        same("pourOver back", book.pourOver(2, 1), 7);
        same("poured back", signs(book, false, 1), "97 98 99 120 97 98 99 ");
        same("pourOver keeps what it pours", book.arraySize(2), 4);
        same("pourOver of none", book.pourOver(0, 2), 4);
        same("the text writers have none", book.size(0) + book.size(1) + book.size(2), 0);
        refusesIndexes("pourOver", book, 3, writer -> book.pourOver(writer, 0));
        refusesIndexes("pourOver to", book, 3, to -> book.pourOver(1, to));
        refusesIndexes("pourOver of the same", book, 3, writer -> book.pourOver(writer, writer));
        for (int i = 0; i < 3; i++) {
            int writer = i;
            Checks.refused("pourOver into itself", book, ARGUMENT, () -> book.pourOver(writer, writer));
        }
        book.make(1, 253);
        book.arraySigns(0, 1, 0, 253);
        Checks.refused("pourOver too much", book, STATE, () -> book.pourOver(2, 0));
        Checks.refused("pourOver too much back", book, STATE, () -> book.pourOver(0, 2));
        Checks.refused("pourOver too much into itself", book, ARGUMENT, () -> book.pourOver(0, 0));
        book.arrayWrite(0, 1);
        book.empty(2);
        book.arrayAppend(2, 'a');
        same("pourOver up to 256", book.pourOver(2, 0), 256);
    }

    private static void areLike() {
        Strandbook book = withRow(3, 'a');
        same("areLike of none", book.areLike(2, 1), true);
        book.writeText(2, 0, 0, 3);
        same("areLike of some and none", book.areLike(2, 1), false);
        book.arraySigns(1, 0, 0, 2);
        same("areLike of a begin", book.areLike(2, 1), false);
        book.arrayWrite(1, 'd');
        same("areLike of as many", book.areLike(2, 1), false);
        book.empty(1);
        book.arrayWrite(1, 'z');
        book.arraySigns(1, 0, 1, 2);
        same("areLike of another first sign", book.areLike(2, 1), false);
        book.empty(1);
        book.arrayText(1, 0, 0, 3);
        same("areLike of the same", book.areLike(2, 1), true);
        book.arrayWrite(1, 0);
        same("areLike of a longer one", book.areLike(2, 1), false);
        book.write(2, 256);
        same("areLike of the same with 0", book.areLike(2, 1), true);
        same("areLike of another text writer", book.areLike(1, 1), false);
        same("areLike of another array writer", book.areLike(2, 2), false);
        refusesIndexes("areLike", book, 3, writer -> book.areLike(writer, 0));
        refusesIndexes("areLike other", book, 3, other -> book.areLike(0, other));
    }

    // ---- promises 27 to 34 ----

    private static void opens() {
        Strandbook book = withRow(6, 'p');
        same("open", book.open(2, 0, 2, 3), 3);
        same("read of an opened part", book.read(2), (int) 'r');
        same("open again", book.open(2, 0, 4, 1000), 2);
        same("read then", book.read(2), (int) 't');
        same("back to the part's first place", book.back(2), 2);
        same("open at the end", book.open(1, 0, 6, 5), 0);
        same("read at the end", book.read(1), -1);
        same("open for none", book.open(1, 0, 1, 0), 0);
        same("read of none", book.read(1), -1);
        same("open all by a part", book.open(1, 0, 0, 6), 6);
        same("open of an empty row", book.open(1, 1, 0, 7), 0);
        same("openAll", book.openAll(0, 0), 6);
        book.make(0, 2);
        same("a reader goes on with the former row", book.read(0), (int) 'p');
        same("openAll of the row then", book.openAll(0, 0), 2);
        same("openAll of an empty row", book.openAll(0, 3), 0);
        same("read of an empty row", book.read(0), -1);
        book.shut(0);
        same("openAll of a shut one", book.openAll(0, 0), 2);
        same("read of one opened again", book.read(0), 0);
        book.shut(0);
        same("open of a shut one", book.open(0, 0, 1, 9), 1);
        same("read of it", book.read(0), 0);
        refusesIndexes("open", book, 3, reader -> book.open(reader, 0, 0, 1));
        refusesIndexes("open's row", book, 4, row -> book.open(0, row, 0, 1));
        refusesIndexes("open's place", book, 3, from -> book.open(0, 0, from, 1));
        refusesIndexes("open with two wrongs", book, 3, from -> book.open(0, 0, from, -1));
        for (int many : new int[] {-1, 1001, MIN, MAX}) {
            Checks.refused("open for " + many, book, ARGUMENT, () -> book.open(1, 0, 0, many));
        }
        refusesIndexes("openAll", book, 3, reader -> book.openAll(reader, 0));
        refusesIndexes("openAll's row", book, 4, row -> book.openAll(0, row));
        Strandbook fresh = new Strandbook();
        Checks.refused("open refused", fresh, ARGUMENT, () -> fresh.open(0, 0, 0, -1));
        Checks.refused("not there after a refused one", fresh, UNSUPPORTED, () -> fresh.read(0));
    }

    private static void shuts() {
        Strandbook book = withRow(4, 'a');
        Checks.refused("shut of none", book, UNSUPPORTED, () -> book.shut(0));
        book.open(0, 0, 0, 3);
        book.read(0);
        same("shut", book.shut(0), 2);
        same("shut again", book.shut(0), 0);
        book.make(1, 2);
        Checks.refused("read of a shut one", book, UNSUPPORTED, () -> book.read(0));
        Checks.refused("readPart of a shut one", book, UNSUPPORTED, () -> book.readPart(0, 1, 0, 1));
        Checks.refused("readPart of a shut one into its row", book, UNSUPPORTED, () -> book.readPart(0, 0, 0, 1));
        Checks.refused("skip of a shut one", book, UNSUPPORTED, () -> book.skip(0, 1));
        Checks.refused("skip back of a shut one", book, UNSUPPORTED, () -> book.skip(0, -1));
        Checks.refused("mark of a shut one", book, UNSUPPORTED, () -> book.mark(0, 0));
        Checks.refused("back of a shut one", book, UNSUPPORTED, () -> book.back(0));
        Checks.refused("shut of another one", book, UNSUPPORTED, () -> book.shut(1));
        refusesIndexes("shut", book, 3, reader -> book.shut(reader));
    }

    private static void reads() {
        Strandbook book = withRow(4, 253);
        Checks.refused("read of none", book, UNSUPPORTED, () -> book.read(0));
        book.open(0, 0, 1, 2);
        book.openAll(1, 0);
        same("read", book.read(0), 254);
        book.put(0, 2, 'X');
        same("read of what is put meanwhile", book.read(0), (int) 'X');
        same("read at the end", book.read(0), -1);
        same("read at the end again", book.read(0), -1);
        same("read of another", book.read(1), 253);
        refusesIndexes("read", book, 3, reader -> book.read(reader));
    }

    private static void readsParts() {
        Strandbook book = withRow(6, 'a');
        book.make(1, 4);
        Checks.refused("readPart of none", book, UNSUPPORTED, () -> book.readPart(0, 1, 0, 1));
        book.open(0, 0, 1, 4);
        same("readPart", book.readPart(0, 1, 1, 3), 3);
        same("read part", row(book, 1), "0 98 99 100 ");
        Checks.refused("readPart into its own", book, STATE, () -> book.readPart(0, 0, 0, 1));
        same("readPart of what there is", book.readPart(0, 1, 0, 4), 1);
        same("read what there is", row(book, 1), "101 98 99 100 ");
        same("readPart at the end", book.readPart(0, 1, 0, 4), -1);
        same("nothing is read at the end", row(book, 1), "101 98 99 100 ");
        Checks.refused("readPart into its own at the end", book, STATE, () -> book.readPart(0, 0, 0, 1));
        refusesIndexes("readPart", book, 3, reader -> book.readPart(reader, 1, 0, 1));
        refusesIndexes("readPart with two wrongs", book, 3, reader -> book.readPart(reader, 1, 0, 0));
        refusesIndexes("readPart's row", book, 4, row -> book.readPart(0, row, 0, 1));
        refusesPlaces("readPart", book, 4, (from, many) -> book.readPart(0, 1, from, many));
        Checks.refused("readPart of none wanted", book, ARGUMENT, () -> book.readPart(0, 1, 0, 0));
        Checks.refused("readPart of none wanted at the end", book, ARGUMENT, () -> book.readPart(0, 1, 4, 0));
        Checks.refused("readPart of none wanted into its own", book, ARGUMENT, () -> book.readPart(0, 0, 0, 0));
        Checks.refused("readPart of none wanted and not there", book, ARGUMENT, () -> book.readPart(2, 1, 0, 0));
        Checks.refused("readPart of no places and not there", book, INDEX, () -> book.readPart(2, 1, 4, 1));
        book.back(0);
        book.make(0, 6);
        same("readPart into the row made anew", book.readPart(0, 0, 2, 3), 3);
        same("read into it", row(book, 0), "0 0 98 99 100 0 ");
        same("read goes on behind it", book.read(0), (int) 'e');
    }

    private static void skips() {
        Strandbook book = withRow(6, 'a');
        Checks.refused("skip of none", book, UNSUPPORTED, () -> book.skip(0, 1));
        Checks.refused("skip of none wanted of none", book, UNSUPPORTED, () -> book.skip(0, -1));
        book.open(0, 0, 0, 5);
        same("skip", book.skip(0, 2), 2L);
        same("read behind a skip", book.read(0), (int) 'c');
        same("skip of 0", book.skip(0, 0), 0L);
        same("skip back", book.skip(0, -1), 0L);
        same("skip far back", book.skip(0, Long.MIN_VALUE), 0L);
        same("skip by a number whose low bits are few", book.skip(0, -(1L << 32) + 1), 0L);
        same("read then", book.read(0), (int) 'd');
        same("skip of more than there are", book.skip(0, Long.MAX_VALUE), 1L);
        same("read at the end", book.read(0), -1);
        same("skip at the end", book.skip(0, 1), 0L);
        book.back(0);
        same("skip by a wide number", book.skip(0, 1L << 32), 5L);
        refusesIndexes("skip", book, 3, reader -> book.skip(reader, 1));
    }

    private static void marks() {
        Strandbook book = withRow(6, 'a');
        Checks.refused("mark of none", book, UNSUPPORTED, () -> book.mark(0, 0));
        Checks.refused("mark below 0 of none", book, ARGUMENT, () -> book.mark(0, -1));
        Checks.refused("back of none", book, UNSUPPORTED, () -> book.back(0));
        book.open(0, 0, 1, 4);
        book.skip(0, 2);
        same("back without a mark", book.back(0), 4);
        same("read then", book.read(0), (int) 'b');
        same("mark", book.mark(0, 0), 3);
        book.skip(0, 3);
        same("back to the mark", book.back(0), 3);
        same("read behind the mark", book.read(0), (int) 'c');
        same("back to the mark again", book.back(0), 3);
        Checks.refused("mark below 0", book, ARGUMENT, () -> book.mark(0, -1));
        book.skip(0, 1);
        Checks.refused("mark far below 0", book, ARGUMENT, () -> book.mark(0, MIN));
        same("a refused mark is none", book.back(0), 3);
        book.skip(0, 9);
        same("mark at the end", book.mark(0, MAX), 0);
        same("back to the end", book.back(0), 0);
        book.open(0, 0, 2, 9);
        book.skip(0, 1);
        same("open forgets a mark", book.back(0), 4);
        book.openAll(0, 0);
        book.skip(0, 1);
        same("openAll forgets a mark", book.back(0), 6);
        refusesIndexes("mark", book, 3, reader -> book.mark(reader, 0));
        refusesIndexes("mark with two wrongs", book, 3, reader -> book.mark(reader, -1));
        refusesIndexes("back", book, 3, reader -> book.back(reader));
    }

    // ---- promises 35 to 40 ----

    private static String rest(Strandbook book, int stream) {
        StringBuilder text = new StringBuilder();
        for (int number = book.next(stream); number >= 0; number = book.next(stream)) {
            text.append(number).append(' ');
        }
        return text.toString();
    }

    private static void joins() {
        Strandbook book = withBytes();
        same("join", book.join(1, 0, 2), 5);
        same("joined", rest(book, 1), "1 2 3 11 12 ");
        same("join of one twice", book.join(1, 2, 2), 4);
        same("joined twice", rest(book, 1), "11 12 11 12 ");
        same("join of none", book.join(0, 1, 1), 0);
        same("joined of none", rest(book, 0), "");
        same("join of none and some", book.join(0, 1, 0), 3);
        book.makeBytes(0, 2, 7, 0);
        same("a stream goes on with the former row", rest(book, 0), "1 2 3 ");
        refusesIndexes("join", book, 2, stream -> book.join(stream, 0, 0));
        refusesIndexes("join's first", book, 4, first -> book.join(0, first, 0));
        refusesIndexes("join's second", book, 4, second -> book.join(0, 0, second));
        book.join(0, 2, 0);
        Checks.refused("join refused", book, INDEX, () -> book.join(0, 0, 4));
        same("a refused join leaves the stream", rest(book, 0), "11 12 7 7 ");
    }

    private static void joinsThree() {
        Strandbook book = withBytes();
        for (boolean isLeft : new boolean[] {true, false}) {
            same("joinThree", book.joinThree(0, 2, 0, 2, isLeft), 7);
            same("joined three", rest(book, 0), "11 12 1 2 3 11 12 ");
            same("joinThree with an empty one", book.joinThree(1, 0, 1, 2, isLeft), 5);
            same("joined with an empty one", rest(book, 1), "1 2 3 11 12 ");
            same("joinThree of empty ones", book.joinThree(1, 1, 1, 1, isLeft), 0);
            same("joined of empty ones", rest(book, 1), "");
            refusesIndexes("joinThree", book, 2, stream -> book.joinThree(stream, 0, 0, 0, isLeft));
            refusesIndexes("joinThree's first", book, 4, row -> book.joinThree(0, row, 0, 0, isLeft));
            refusesIndexes("joinThree's second", book, 4, row -> book.joinThree(0, 0, row, 0, isLeft));
            refusesIndexes("joinThree's third", book, 4, row -> book.joinThree(0, 0, 0, row, isLeft));
        }
        book.joinThree(0, 2, 0, 0, true);
        same("join again", book.join(0, 2, 0), 5);
        same("joined of two again", rest(book, 0), "11 12 1 2 3 ");
        book.join(1, 2, 0);
        Checks.refused("joinThree refused", book, INDEX, () -> book.joinThree(1, 0, 0, -1, true));
        same("a refused joinThree leaves the stream", rest(book, 1), "11 12 1 2 3 ");
    }

    private static void nexts() {
        Strandbook book = new Strandbook();
        Checks.refused("next of none", book, UNSUPPORTED, () -> book.next(0));
        book.makeBytes(0, 2, -1, -127);
        book.join(0, 0, 0);
        same("next of -1", book.next(0), 255);
        same("next of -128", book.next(0), 128);
        same("next over the joint", book.next(0), 255);
        book.putByte(0, 1, 5);
        same("next of what is put meanwhile", book.next(0), 5);
        same("next at the end", book.next(0), -1);
        same("next at the end again", book.next(0), -1);
        refusesIndexes("next", book, 2, stream -> book.next(stream));
    }

    private static void nextsParts() {
        Strandbook book = withBytes();
        Checks.refused("nextPart of none", book, UNSUPPORTED, () -> book.nextPart(0, 3, 0, 1));
        book.joinThree(0, 0, 1, 2, true);
        same("nextPart", book.nextPart(0, 3, 1, 2), 2);
        same("read part", bytes(book, 3, 5), "0 1 2 0 0 ");
        same("nextPart up to the joint", book.nextPart(0, 3, 0, 5), 1);
        same("read up to the joint", bytes(book, 3, 5), "3 1 2 0 0 ");
        same("nextPart over the joint and an empty part", book.nextPart(0, 3, 3, 2), 2);
        same("read over the joint", bytes(book, 3, 5), "3 1 2 11 12 ");
        same("nextPart at the end", book.nextPart(0, 3, 0, 5), -1);
        same("nextPart at the end again", book.nextPart(0, 3, 0, 1), -1);
        same("nothing is read at the end", bytes(book, 3, 5), "3 1 2 11 12 ");
        Checks.refused("nextPart into a part that is passed", book, STATE, () -> book.nextPart(0, 0, 0, 1));
        Checks.refused("nextPart into the last part", book, STATE, () -> book.nextPart(0, 2, 0, 1));
        book.joinThree(1, 3, 0, 2, false);
        Checks.refused("nextPart into the first part", book, STATE, () -> book.nextPart(1, 3, 0, 1));
        Checks.refused("nextPart into the next part", book, STATE, () -> book.nextPart(1, 0, 0, 1));
        Checks.refused("nextPart into a later part", book, STATE, () -> book.nextPart(1, 2, 0, 1));
        book.makeBytes(2, 2, 0, 0);
        same("nextPart into the row made anew", book.nextPart(1, 2, 0, 2), 2);
        same("read into it", bytes(book, 2, 2), "3 1 ");
        refusesIndexes("nextPart", book, 2, stream -> book.nextPart(stream, 3, 0, 1));
        refusesIndexes("nextPart with two wrongs", book, 2, stream -> book.nextPart(stream, 3, 0, 0));
        refusesIndexes("nextPart's row", book, 4, row -> book.nextPart(0, row, 0, 1));
        refusesPlaces("nextPart", book, 5, (from, many) -> book.nextPart(0, 3, from, many));
        Checks.refused("nextPart of none wanted", book, ARGUMENT, () -> book.nextPart(0, 3, 0, 0));
        Checks.refused("nextPart of none wanted at the end", book, ARGUMENT, () -> book.nextPart(0, 3, 5, 0));
        Checks.refused("nextPart of none wanted into a part", book, ARGUMENT, () -> book.nextPart(0, 0, 0, 0));
        Strandbook fresh = withBytes();
        Checks.refused("nextPart of none wanted of none", fresh, ARGUMENT, () -> fresh.nextPart(0, 3, 0, 0));
        Checks.refused("nextPart of no places of none", fresh, INDEX, () -> fresh.nextPart(0, 3, 5, 1));
        fresh.joinThree(0, 2, 2, 2, true);
        fresh.join(0, 0, 0);
        same("a former part is none of the stream joined anew", fresh.nextPart(0, 2, 0, 2), 2);
    }

    private static void passes() {
        Strandbook book = withBytes();
        Checks.refused("pass of none", book, UNSUPPORTED, () -> book.pass(0, 1));
        Checks.refused("pass below 0 of none", book, ARGUMENT, () -> book.pass(0, -1));
        book.joinThree(0, 0, 1, 2, false);
        same("pass of 0", book.pass(0, 0), 0L);
        same("pass", book.pass(0, 1), 1L);
        same("next behind it", book.next(0), 2);
        same("pass over joints", book.pass(0, 2), 2L);
        same("next behind joints", book.next(0), 12);
        same("pass at the end", book.pass(0, 1), 0L);
        book.joinThree(0, 0, 1, 2, true);
        same("pass of more than there are", book.pass(0, 1000), 5L);
        same("next then", book.next(0), -1);
        refusesIndexes("pass", book, 2, stream -> book.pass(stream, 1));
        refusesIndexes("pass with two wrongs", book, 2, stream -> book.pass(stream, -1));
        book.join(0, 0, 2);
        for (long many : new long[] {-1, 1001, Long.MIN_VALUE, Long.MAX_VALUE, 1L << 32, -(1L << 32)}) {
            Checks.refused("pass of " + many, book, ARGUMENT, () -> book.pass(0, many));
        }
        same("a refused pass passes none", book.next(0), 1);
    }

    private static void lefts() {
        Strandbook book = withBytes();
        Checks.refused("left of none", book, UNSUPPORTED, () -> book.left(0));
        for (boolean isLeft : new boolean[] {true, false}) {
            book.joinThree(0, 0, 1, 2, isLeft);
            same("left of the first part", book.left(0), 3);
            book.next(0);
            same("left behind a byte", book.left(0), 2);
            book.pass(0, 2);
            same("left at the joint", book.left(0), 0);
            same("left at the joint again", book.left(0), 0);
            book.pass(0, 0);
            same("left when none was wanted", book.left(0), 0);
            book.next(0);
            same("left behind the joint", book.left(0), 1);
            book.pass(0, 9);
            same("left behind the last one", book.left(0), 0);
            book.joinThree(0, 1, 0, 2, isLeft);
            same("left of an empty first part", book.left(0), 0);
            Checks.refused("nextPart into a part", book, STATE, () -> book.nextPart(0, 0, 0, 1));
            book.nextPart(0, 3, 0, 2);
            same("left behind the empty one", book.left(0), 1);
            book.nextPart(0, 3, 0, 5);
            same("left of a part that was got to its end", book.left(0), 0);
            book.pass(0, 1);
            same("left of the last one", book.left(0), 1);
        }
        book.join(1, 0, 2);
        book.pass(1, 3);
        same("left of two at the joint", book.left(1), 0);
        book.pass(1, 1);
        same("left of two behind the joint", book.left(1), 1);
        refusesIndexes("left", book, 2, stream -> book.left(stream));
    }

    // ---- promises 41 to 44 ----

    private static void shares() {
        Strandbook book = withBytes();
        Checks.refused("passedShare of none", book, UNSUPPORTED, () -> book.passedShare(0));
        book.join(0, 1, 1);
        Checks.refused("passedShare of no bytes", book, ARITHMETIC, () -> book.passedShare(0));
        book.next(0);
        Checks.refused("passedShare of no bytes at the end", book, ARITHMETIC, () -> book.passedShare(0));
        book.joinThree(0, 0, 1, 0, true);
        same("passedShare at the begin", book.passedShare(0), 0f);
        book.next(0);
        same("passedShare of a byte", book.passedShare(0), 1f / 6f);
        book.nextPart(0, 3, 0, 5);
        same("passedShare of a part", book.passedShare(0), 3f / 6f);
        book.makeBytes(0, 9, 0, 0);
        book.pass(0, 2);
        same("passedShare of what was passed", book.passedShare(0), 5f / 6f);
        book.pass(0, 9);
        book.next(0);
        book.nextPart(0, 3, 0, 1);
        same("passedShare of all", book.passedShare(0), 1f);
        book.join(0, 2, 2);
        same("passedShare of a stream joined anew", book.passedShare(0), 0f);
        refusesIndexes("passedShare", book, 2, stream -> book.passedShare(stream));
    }

    private static void meanSizes() {
        Strandbook book = new Strandbook();
        book.write(0, 1);
        same("meanSize of a sign", book.meanSize(), 1.0 / 6.0);
        book.append(2, 'a');
        book.arrayAppend(0, 'b');
        book.arrayAppend(2, 'b');
        same("meanSize", book.meanSize(), 7.0 / 6.0);
        book.make(0, 256);
        for (int i = 0; i < 3; i++) {
            book.begin(i);
            book.empty(i);
            book.writeSigns(i, 0, 0, 256);
            book.arraySigns(i, 0, 0, 256);
        }
        same("meanSize of full ones", book.meanSize(), 256.0);
    }

    private static void checksums() {
        Strandbook book = new Strandbook();
        book.make(1, 2);
        book.fill(1, 0, 2, (char) 254, 1);
        book.makeBytes(3, 2, -1, -1);
        book.write(0, 'a');
        book.arrayWrite(0, 'b');
        book.append(2, 'c');
        book.arrayAppend(1, 'd');
        book.join(1, 3, 0);
        long[] numbers = {0, 2, 254, 255, 0, 0, 0, 0, 0, 2, -1, -2, 1, 'a', 0, 2, 'c', 'c', 1, 'b', 2, 'd', 'd', 0,
            -1, 2};
        long due = 7;
        for (long number : numbers) {
            due = due * 31 + number;
        }
        same("checksum", book.checksum(), due);
        book.next(1);
        same("checksum of what is left", book.checksum(), due - 1);
        book.openAll(0, 1);
        book.read(0);
        same("checksum without readers", book.checksum(), due - 1);
        book.begin(0);
        book.begin(2);
        book.empty(0);
        book.empty(1);
        same("checksum of emptied writers", book.checksum(), checksumOfRowsAlone());
    }

    private static long checksumOfRowsAlone() {
        long[] numbers = {0, 2, 254, 255, 0, 0, 0, 0, 0, 2, -1, -2, 0, 0, 0, 0, 0, 0, -1, 1};
        long due = 7;
        for (long number : numbers) {
            due = due * 31 + number;
        }
        return due;
    }

    private static void truths() {
        Strandbook book = withRow(256, 0);
        for (int size = 0; size < 8; size++) {
            book.begin(0);
            book.writeSigns(0, 0, 250, Math.min(size, 6));
            book.empty(2);
            book.arraySigns(2, 0, 3, size);
            book.makeBytes(size % 4, size, 250, 3);
            same("isTrue", book.isTrue(), true);
        }
        for (int i = 0; i < 3; i++) {
            book.begin(i);
            book.writeSigns(i, 0, 0, 256);
            book.empty(i);
            book.arraySigns(i, 0, 0, 256);
        }
        for (int i = 0; i < 4; i++) {
            book.makeBytes(i, 64, 100 * i, i + 1);
        }
        book.open(0, 0, 5, 100);
        book.skip(0, 7);
        book.mark(0, 0);
        book.skip(0, 2);
        book.joinThree(0, 0, 1, 2, true);
        book.pass(0, 65);
        long before = book.checksum();
        same("isTrue when all is full", book.isTrue(), true);
        same("isTrue changes no row, writer or stream", book.checksum(), before);
        same("isTrue changes no share", book.passedShare(0), 65f / 192f);
        same("isTrue changes no reader", book.read(0), 14);
        same("isTrue changes no mark", book.back(0), 93);
        Checks.refused("isTrue opens no reader", book, UNSUPPORTED, () -> book.read(1));
        Checks.refused("isTrue joins no stream", book, UNSUPPORTED, () -> book.next(1));
    }
}
