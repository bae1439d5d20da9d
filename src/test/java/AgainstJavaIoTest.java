/** Runs of calls, all of them the same in each run of this test, on the program and on the java.io classes. */
public final class AgainstJavaIoTest {
    private static final int RUNS = 3000;
    // With a checksum behind each fourth one these are 500 calls: of what comes behind the 512th nothing is promised.
    private static final int CALLS = 400;
    private static final int KINDS = 42;

    private long seed;
    private final Strandbook book = new Strandbook();
    private final JavaIoBook due = new JavaIoBook();

    private AgainstJavaIoTest(long seed) {
        this.seed = seed;
    }

    public static void main(String[] args) {
        for (int run = 0; run < RUNS && !Checks.hasWrong(); run++) {
            new AgainstJavaIoTest(run * 7919L + 1).run(run);
        }
        Checks.end("AgainstJavaIoTest");
    }

    private void run(int run) {
        StringBuilder told = new StringBuilder();
        // Some runs call a few kinds alone, so that their states go deep.
        boolean isNarrow = run % 3 == 0;
        int[] some = new int[8];
        for (int i = 0; i < some.length; i++) {
            some[i] = below(KINDS);
        }
        for (int i = 0; i < CALLS && !Checks.hasWrong(); i++) {
            int kind = isNarrow && i > 40 ? some[below(some.length)] : below(KINDS);
            call(run, kind, told);
            if (i % 4 == 0) {
                Checks.same("run " + run + ", checksum", book.checksum(), due.checksum());
            }
        }
        if (Checks.hasWrong()) {
            System.out.println("the run was:" + told);
        }
    }

    private int below(int end) {
        seed = seed * 6364136223846793005L + 1442695040888963407L;
        return (int) ((seed >>> 33) % end);
    }

    private int one(int... numbers) {
        return numbers[below(numbers.length)];
    }

    /** Mostly one of those that are there, now and then one that is not. */
    private int number(int end) {
        return below(40) > 0 ? below(end) : one(-1, end, Integer.MIN_VALUE, Integer.MAX_VALUE);
    }

    private int small() {
        return below(30) > 0 ? below(12) : one(-1, -2, 63, 64, 65, 255, 256, 257, Integer.MIN_VALUE, Integer.MAX_VALUE);
    }

    private int length(int most) {
        return below(20) > 0 ? below(most / 6) : one(-1, 0, most, most + 1, most - 1, Integer.MIN_VALUE);
    }

    private int any() {
        return below(3) > 0 ? below(300) - 20 : one(Integer.MIN_VALUE, Integer.MAX_VALUE, 65601, -129, 128, -1, 1 << 16);
    }

    private char sign() {
        return (char) any();
    }

    private int wanted() {
        return below(20) > 0 ? below(20) : one(-1, 0, 1000, 1001, 999, Integer.MAX_VALUE, Integer.MIN_VALUE);
    }

    private void both(int run, String told, StringBuilder all, Checks.Call got, Checks.Call want) {
        all.append(' ').append(told);
        Checks.same("run " + run + ", " + told, Checks.answerOf(got), Checks.answerOf(want));
    }

    private void call(int run, int kind, StringBuilder t) {
        if (kind < 8) {
            callRows(run, kind, t);
        } else if (kind < 16) {
            callTexts(run, kind, t);
        } else if (kind < 26) {
            callArrays(run, kind, t);
        } else if (kind < 34) {
            callReaders(run, kind, t);
        } else {
            callStreams(run, kind, t);
        }
    }

    private void callRows(int run, int kind, StringBuilder t) {
        int r = number(4);
        int i = small();
        int m = small();
        int n = any();
        int s = below(4) > 0 ? below(7) - 3 : any();
        char c = sign();
        int l = length(256);
        int b = length(64);
        switch (kind) {
            case 0 -> both(run, "make(" + r + "," + l + ")", t, () -> book.make(r, l), () -> due.make(r, l));
            case 1 -> both(run, "put(" + r + "," + i + "," + (int) c + ")", t,
                    () -> book.put(r, i, c), () -> due.put(r, i, c));
            case 2 -> both(run, "fill(" + r + "," + i + "," + m + "," + (int) c + "," + s + ")", t,
                    () -> book.fill(r, i, m, c, s), () -> due.fill(r, i, m, c, s));
            case 3 -> both(run, "get(" + r + "," + i + ")", t, () -> book.get(r, i), () -> due.get(r, i));
            case 4 -> both(run, "length(" + r + ")", t, () -> book.length(r), () -> due.length(r));
            case 5 -> both(run, "makeBytes(" + r + "," + b + "," + n + "," + s + ")", t,
                    () -> book.makeBytes(r, b, n, s), () -> due.makeBytes(r, b, n, s));
            case 6 -> both(run, "putByte(" + r + "," + i + "," + n + ")", t,
                    () -> book.putByte(r, i, n), () -> due.putByte(r, i, n));
            default -> both(run, "getByte(" + r + "," + i + ")", t, () -> book.getByte(r, i), () -> due.getByte(r, i));
        }
    }

    private void callTexts(int run, int kind, StringBuilder t) {
        int w = number(3);
        int r = number(4);
        int i = small();
        int m = small();
        int n = any();
        char c = sign();
        switch (kind) {
            case 8 -> both(run, "begin(" + w + ")", t, () -> book.begin(w), () -> due.begin(w));
            case 9 -> both(run, "write(" + w + "," + n + ")", t, () -> book.write(w, n), () -> due.write(w, n));
            case 10 -> both(run, "writeText(" + w + "," + r + "," + i + "," + m + ")", t,
                    () -> book.writeText(w, r, i, m), () -> due.writeText(w, r, i, m));
            case 11 -> both(run, "writeSigns(" + w + "," + r + "," + i + "," + m + ")", t,
                    () -> book.writeSigns(w, r, i, m), () -> due.writeSigns(w, r, i, m));
            case 12 -> both(run, "append(" + w + "," + (int) c + ")", t,
                    () -> book.append(w, c), () -> due.append(w, c));
            case 13 -> both(run, "size(" + w + ")", t, () -> book.size(w), () -> due.size(w));
            case 14 -> both(run, "take(" + w + "," + r + ")", t, () -> book.take(w, r), () -> due.take(w, r));
            default -> both(run, "meanSize()", t, () -> book.meanSize(), () -> due.meanSize());
        }
    }

    private void callArrays(int run, int kind, StringBuilder t) {
        int w = number(3);
        int o = number(3);
        int r = number(4);
        int i = small();
        int m = small();
        int n = any();
        char c = sign();
        switch (kind) {
            case 16 -> both(run, "empty(" + w + ")", t, () -> book.empty(w), () -> due.empty(w));
            case 17 -> both(run, "arrayWrite(" + w + "," + n + ")", t,
                    () -> book.arrayWrite(w, n), () -> due.arrayWrite(w, n));
            case 18 -> both(run, "arrayText(" + w + "," + r + "," + i + "," + m + ")", t,
                    () -> book.arrayText(w, r, i, m), () -> due.arrayText(w, r, i, m));
            case 19 -> both(run, "arraySigns(" + w + "," + r + "," + i + "," + m + ")", t,
                    () -> book.arraySigns(w, r, i, m), () -> due.arraySigns(w, r, i, m));
            case 20 -> both(run, "arrayAppend(" + w + "," + (int) c + ")", t,
                    () -> book.arrayAppend(w, c), () -> due.arrayAppend(w, c));
            case 21 -> both(run, "arraySize(" + w + ")", t, () -> book.arraySize(w), () -> due.arraySize(w));
            case 22 -> both(run, "arrayTake(" + w + "," + r + ")", t,
                    () -> book.arrayTake(w, r), () -> due.arrayTake(w, r));
            case 23 -> both(run, "pour(" + w + "," + o + ")", t, () -> book.pour(w, o), () -> due.pour(w, o));
            case 24 -> both(run, "pourOver(" + w + "," + o + ")", t,
                    () -> book.pourOver(w, o), () -> due.pourOver(w, o));
            default -> both(run, "areLike(" + w + "," + o + ")", t, () -> book.areLike(w, o), () -> due.areLike(w, o));
        }
    }

    private void callReaders(int run, int kind, StringBuilder t) {
        int d = number(3);
        int r = number(4);
        int i = small();
        int m = small();
        int n = wanted();
        long l = below(20) > 0 ? n : below(2) > 0 ? Long.MAX_VALUE : Long.MIN_VALUE;
        switch (kind) {
            case 26 -> both(run, "open(" + d + "," + r + "," + i + "," + n + ")", t,
                    () -> book.open(d, r, i, n), () -> due.open(d, r, i, n));
            case 27 -> both(run, "openAll(" + d + "," + r + ")", t, () -> book.openAll(d, r), () -> due.openAll(d, r));
            case 28 -> both(run, "shut(" + d + ")", t, () -> book.shut(d), () -> due.shut(d));
            case 29 -> both(run, "read(" + d + ")", t, () -> book.read(d), () -> due.read(d));
            case 30 -> both(run, "readPart(" + d + "," + r + "," + i + "," + m + ")", t,
                    () -> book.readPart(d, r, i, m), () -> due.readPart(d, r, i, m));
            case 31 -> both(run, "skip(" + d + "," + l + ")", t, () -> book.skip(d, l), () -> due.skip(d, l));
            case 32 -> both(run, "mark(" + d + "," + n + ")", t, () -> book.mark(d, n), () -> due.mark(d, n));
            default -> both(run, "back(" + d + ")", t, () -> book.back(d), () -> due.back(d));
        }
    }

    private void callStreams(int run, int kind, StringBuilder t) {
        int s = number(2);
        int a = number(4);
        int b = number(4);
        int c = number(4);
        int i = small();
        int m = small();
        boolean isLeft = below(2) > 0;
        int n = wanted();
        long l = below(20) > 0 ? n : below(2) > 0 ? Long.MAX_VALUE : Long.MIN_VALUE;
        switch (kind) {
            case 34 -> both(run, "join(" + s + "," + a + "," + b + ")", t,
                    () -> book.join(s, a, b), () -> due.join(s, a, b));
            case 35 -> both(run, "joinThree(" + s + "," + a + "," + b + "," + c + "," + isLeft + ")", t,
                    () -> book.joinThree(s, a, b, c, isLeft), () -> due.joinThree(s, a, b, c, isLeft));
            case 36 -> both(run, "next(" + s + ")", t, () -> book.next(s), () -> due.next(s));
            case 37 -> both(run, "nextPart(" + s + "," + a + "," + i + "," + m + ")", t,
                    () -> book.nextPart(s, a, i, m), () -> due.nextPart(s, a, i, m));
            case 38 -> both(run, "pass(" + s + "," + l + ")", t, () -> book.pass(s, l), () -> due.pass(s, l));
            case 39 -> both(run, "left(" + s + ")", t, () -> book.left(s), () -> due.left(s));
            case 40 -> both(run, "passedShare(" + s + ")", t,
                    () -> book.passedShare(s), () -> due.passedShare(s));
            default -> both(run, "isTrue()", t, () -> book.isTrue(), () -> due.isTrue());
        }
    }
}
