/** Promises 27 to 32: each sentence that names a boundary, by itself. */
public final class EdgesOfSheetsTest {
    private static final int[] NO_TONES = {};
    private static final int[] TWELVE = {7, 2, 11, 0, 5, 9, 1, 10, 3, 8, 4, 6};
    private static final int[] BITS = {8, 16, 64};
    private static final Due due = new Due();

    public static void main(String[] args) {
        sheetOfNoneToForty();
        sheetAllZero();
        sheetMissing();
        sheetBeyond();
        sheetSize();
        sheetTooLarge();
        sheetOrder();
        writeWhatItWas();
        writeLowestBits();
        writeBeyondSheet();
        writeMissing();
        writeBeyondNumber();
        writeOrder();
        copyAll();
        copyOntoItself();
        copyBeyondSheet();
        copyMissing();
        copyKind();
        copyBeyondNumbers();
        copyOrder();
        laysFromItsBegin();
        laysUpToTheFirst();
        laysTwelveAtMost();
        laysFindings();
        laysOrder();
        bookOfDays();
        bookAsManyAsItHas();
        bookFindings();
        bookOrder();
        readAllOfThem();
        readAsItIs();
        readPairs();
        readFindings();
        readOrder();
        due.end();
    }

    private static void fill(FugueNotes x, int s, long... row) {
        for (int i = 0; i < row.length; i++) {
            x.write(s, i, row[i]);
        }
    }

    /** Writes what is due once more, so that nothing changes where it is so. */
    private static void rowIs(String what, FugueNotes x, int s, long... row) {
        for (int i = 0; i < row.length; i++) {
            due.is(what + ", number " + i, x.write(s, i, row[i]), row[i]);
        }
        due.is(what + ", behind it", x.write(s, row.length, 0), Due.BEYOND);
    }

    private static FugueNotes withSheet(int bits, long... row) {
        FugueNotes x = new FugueNotes();
        x.sheet(0, bits, row.length);
        fill(x, 0, row);
        return x;
    }

    private static void sheetOfNoneToForty() {
        due.sentence("Promise 27", "A sheet has n numbers, all 0, of 8, 16 or 64 bits");
        for (int bits : BITS) {
            FugueNotes x = new FugueNotes();
            int[] sizes = {0, 1, 39, 40};
            for (int s = 0; s < 4; s++) {
                due.is(sizes[s] + " of " + bits, x.sheet(s, bits, sizes[s]), sizes[s]);
                rowIs(sizes[s] + " of " + bits, x, s, new long[sizes[s]]);
            }
        }
    }

    private static void sheetAllZero() {
        due.sentence("Promise 27", "all 0");
        FugueNotes x = withSheet(64, 1, 2, 3);
        x.sheet(0, 64, 3);
        rowIs("of as many", x, 0, 0, 0, 0);
        fill(x, 0, 1, 2, 3);
        x.sheet(0, 64, 1);
        x.sheet(0, 64, 3);
        rowIs("fewer, and as many again", x, 0, 0, 0, 0);
        fill(x, 0, 1, 2, 3);
        x.sheet(0, 0, 0);
        x.sheet(0, 8, 3);
        rowIs("missing, and there again", x, 0, 0, 0, 0);
    }

    private static void sheetMissing() {
        due.sentence("Promise 27", "bits 0: it is MISSING: n (0 if it is MISSING)");
        FugueNotes x = withSheet(64, 1, 2, 3);
        due.is("n 5", x.sheet(0, 0, 5), 0);
        due.is("missing", x.write(0, 0, 0), Due.MISSING);
        due.is("n 0", x.sheet(0, 0, 0), 0);
        due.is("n 40", x.sheet(0, 0, 40), 0);
        due.is("still missing", x.write(0, 0, 0), Due.MISSING);
        due.is("of none it is not missing", x.sheet(0, 8, 0), 0);
        due.is("there", x.lays(0, 0), 0);
    }

    private static void sheetBeyond() {
        due.sentence("Promise 27", "BEYOND: no such sheet, other bits.");
        FugueNotes x = new FugueNotes();
        due.bounds("s", v -> x.sheet(v, 8, 1), 0, 3);
        int[] others = {-64, -8, -1, 1, 7, 9, 15, 17, 32, 63, 65, 128, Integer.MIN_VALUE, Integer.MAX_VALUE};
        for (int bits : others) {
            due.is("bits " + bits, x.sheet(0, bits, 1), Due.BEYOND);
        }
        due.is("BEYOND", x.status(0), 6 + others.length);
    }

    private static void sheetSize() {
        due.sentence("Promise 27", "SIZE: n is below 0 (also with bits 0).");
        FugueNotes x = withSheet(8, 5);
        int[] all = {0, 8, 16, 64};
        for (int bits : all) {
            due.is("-1", x.sheet(0, bits, -1), Due.SIZE);
            due.is("the least", x.sheet(0, bits, Integer.MIN_VALUE), Due.SIZE);
        }
        rowIs("it stays", x, 0, 5);
        due.is("SIZE", x.status(6), 8);
    }

    private static void sheetTooLarge() {
        due.sentence("Promise 27", "BEYOND: n is above 40 (also with bits 0).");
        FugueNotes x = withSheet(8, 5);
        int[] all = {0, 8, 16, 64};
        for (int bits : all) {
            due.is("41", x.sheet(0, bits, 41), Due.BEYOND);
            due.is("the greatest", x.sheet(0, bits, Integer.MAX_VALUE), Due.BEYOND);
        }
        rowIs("it stays", x, 0, 5);
        due.is("40", x.sheet(0, 8, 40), 40);
    }

    private static void sheetOrder() {
        due.sentence("Promise 27", "BEYOND: no such sheet, other bits. SIZE: n is below 0");
        FugueNotes x = new FugueNotes();
        due.is("no such sheet, below 0", x.sheet(4, 8, -1), Due.BEYOND);
        due.is("other bits, below 0", x.sheet(0, 32, -1), Due.BEYOND);
        due.is("other bits, too large", x.sheet(0, 32, 41), Due.BEYOND);
        due.is("below 0", x.sheet(3, 64, -1), Due.SIZE);
        due.is("BEYOND", x.status(0), 3);
        due.is("SIZE", x.status(6), 1);
    }

    private static void writeWhatItWas() {
        due.sentence("Promise 28", "Number i of a sheet becomes v (its lowest bits): what it was.");
        for (int bits : BITS) {
            FugueNotes x = new FugueNotes();
            x.sheet(0, bits, 40);
            due.is("the first", x.write(0, 0, 1), 0);
            due.is("the last", x.write(0, 39, 2), 0);
            due.is("the first again", x.write(0, 0, 3), 1);
            due.is("the last again", x.write(0, 39, 4), 2);
            due.is("one between stays", x.write(0, 20, 5), 0);
        }
    }

    /** The document leaves open how the highest bit is told; it is the sign, as in Java's byte, short and long. */
    private static void writeLowestBits() {
        due.sentence("Promise 28", "(its lowest bits)");
        long[] values = {
            0, 127, 128, 255, 256, -1, -128, -129, 32767, 32768, 65535, 65536, -32768, -32769, 1L << 32, 1L << 63,
            Long.MAX_VALUE, 0x0123_4567_89AB_CDEFL,
        };
        long[] of8 = {0, 127, -128, -1, 0, -1, -128, 127, -1, 0, -1, 0, 0, -1, 0, 0, -1, -17};
        long[] of16 = {0, 127, 128, 255, 256, -1, -128, -129, 32767, -32768, -1, 0, -32768, 32767, 0, 0, -1, -12817};
        FugueNotes x = new FugueNotes();
        for (int s = 0; s < 3; s++) {
            x.sheet(s, BITS[s], 1);
        }
        for (int i = 0; i < values.length; i++) {
            for (int s = 0; s < 3; s++) {
                x.write(s, 0, values[i]);
            }
            due.is("8 of " + values[i], x.write(0, 0, 0), of8[i]);
            due.is("16 of " + values[i], x.write(1, 0, 0), of16[i]);
            due.is("64 of " + values[i], x.write(2, 0, 0), values[i]);
        }
    }

    private static void writeBeyondSheet() {
        due.sentence("Promise 28", "BEYOND: no such sheet.");
        FugueNotes x = new FugueNotes();
        for (int s = 0; s < 4; s++) {
            x.sheet(s, 8, 1);
        }
        due.bounds("s", v -> x.write(v, 0, 1), 0, 3);
        due.is("BEYOND", x.status(-1), 6);
    }

    private static void writeMissing() {
        due.sentence("Promise 28", "BEYOND: no such sheet. MISSING.");
        FugueNotes x = new FugueNotes();
        due.is("at first", x.write(3, 0, 1), Due.MISSING);
        x.sheet(3, 8, 1);
        due.is("there", x.write(3, 0, 1), 0);
        due.is("another one", x.write(2, 0, 1), Due.MISSING);
        x.sheet(3, 0, 1);
        due.is("missing again", x.write(3, 0, 1), Due.MISSING);
        due.is("MISSING", x.status(5), 3);
        due.is("no other one", x.status(-1), 3);
    }

    private static void writeBeyondNumber() {
        due.sentence("Promise 28", "BEYOND: no such number.");
        FugueNotes x = new FugueNotes();
        x.sheet(0, 64, 40);
        x.sheet(1, 64, 1);
        x.sheet(2, 64, 0);
        due.bounds("of forty", v -> x.write(0, v, 1), 0, 39);
        due.bounds("of one", v -> x.write(1, v, 1), 0, 0);
        due.is("of none", x.write(2, 0, 1), Due.BEYOND);
    }

    private static void writeOrder() {
        due.sentence("Promise 28", "BEYOND: no such sheet. MISSING. BEYOND: no such number.");
        FugueNotes x = new FugueNotes();
        due.is("no such sheet", x.write(4, -1, 0), Due.BEYOND);
        due.is("missing, no such number", x.write(0, -1, 0), Due.MISSING);
        due.is("missing, no such number", x.write(0, 40, 0), Due.MISSING);
    }

    private static FugueNotes withTwo(int bits, int size, int otherBits, int otherSize) {
        FugueNotes x = new FugueNotes();
        x.sheet(0, bits, size);
        x.sheet(1, otherBits, otherSize);
        for (int i = 0; i < size; i++) {
            x.write(0, i, i + 1);
        }
        return x;
    }

    private static void copyAll() {
        due.sentence("Promise 29", "n numbers of a sheet from one on come to another one from one on (as they all were): n.");
        for (int bits : BITS) {
            FugueNotes x = withTwo(bits, 40, bits, 40);
            due.is("none", x.copy(0, 0, 1, 0, 0), 0);
            due.is("the first for the last", x.copy(0, 0, 1, 39, 1), 1);
            due.is("it came", x.write(1, 39, 0), 1);
            due.is("the last for the first", x.copy(0, 39, 1, 0, 1), 1);
            due.is("it came", x.write(1, 0, 0), 40);
            due.is("all", x.copy(0, 0, 1, 0, 40), 40);
            due.is("the first", x.write(1, 0, 0), 1);
            due.is("the last", x.write(1, 39, 0), 40);
            due.is("there they stay", x.write(0, 39, 0), 40);
        }
    }

    private static void copyOntoItself() {
        due.sentence("Promise 29", "(as they all were)");
        FugueNotes x = withTwo(64, 5, 8, 0);
        due.is("forward", x.copy(0, 0, 0, 1, 4), 4);
        rowIs("forward", x, 0, 1, 1, 2, 3, 4);
        due.is("back", x.copy(0, 1, 0, 0, 4), 4);
        rowIs("back", x, 0, 1, 2, 3, 4, 4);
        due.is("where it is", x.copy(0, 0, 0, 0, 5), 5);
        rowIs("where it is", x, 0, 1, 2, 3, 4, 4);
    }

    private static void copyBeyondSheet() {
        due.sentence("Promise 29", "BEYOND: no such sheet (either).");
        FugueNotes x = new FugueNotes();
        for (int s = 0; s < 4; s++) {
            x.sheet(s, 8, 1);
        }
        due.bounds("s", v -> x.copy(v, 0, 1, 0, 1), 0, 3);
        due.bounds("t", v -> x.copy(1, 0, v, 0, 1), 0, 3);
        due.is("both", x.copy(4, 0, 4, 0, 1), Due.BEYOND);
        due.is("BEYOND", x.status(-1), 13);
    }

    private static void copyMissing() {
        due.sentence("Promise 29", "MISSING: one is.");
        FugueNotes x = withTwo(8, 2, 8, 2);
        due.is("the one", x.copy(2, 0, 0, 0, 1), Due.MISSING);
        due.is("the other", x.copy(0, 0, 2, 0, 1), Due.MISSING);
        due.is("both", x.copy(2, 0, 3, 0, 1), Due.MISSING);
        due.is("the same", x.copy(2, 0, 2, 0, 0), Due.MISSING);
        due.is("MISSING", x.status(5), 4);
        due.is("no other one", x.status(-1), 4);
    }

    private static void copyKind() {
        due.sentence("Promise 29", "KIND: they are not of as many bits.");
        for (int bits : BITS) {
            for (int other : BITS) {
                FugueNotes x = withTwo(bits, 2, other, 2);
                due.is(bits + " to " + other, x.copy(0, 0, 1, 0, 2), bits == other ? 2 : Due.KIND);
                due.is("none", x.copy(0, 0, 1, 0, 0), bits == other ? 0 : Due.KIND);
                due.is("KIND", x.status(2), bits == other ? 0 : 2);
            }
        }
    }

    private static void copyBeyondNumbers() {
        due.sentence("Promise 29", "BEYOND: one has not so many, or from, to or n is below 0.");
        FugueNotes x = withTwo(16, 5, 16, 3);
        due.bounds("from, of one", v -> x.copy(0, v, 1, 0, 1), 0, 4);
        due.bounds("to, of one", v -> x.copy(0, 0, 1, v, 1), 0, 2);
        due.bounds("from, of none", v -> x.copy(0, v, 1, 0, 0), 0, 5);
        due.bounds("to, of none", v -> x.copy(0, 0, 1, v, 0), 0, 3);
        due.bounds("n, the other has three", v -> x.copy(0, 0, 1, 0, v), 0, 3);
        due.bounds("n, the one has three", v -> x.copy(1, 0, 0, 0, v), 0, 3);
        int max = Integer.MAX_VALUE;
        due.is("the greatest from and n", x.copy(0, max, 1, 0, max), Due.BEYOND);
        due.is("the greatest to and n", x.copy(0, 0, 1, max, max), Due.BEYOND);
        due.is("what wraps around to 0", x.copy(0, max, 1, 0, -max), Due.BEYOND);
    }

    private static void copyOrder() {
        due.sentence("Promise 29", "BEYOND: no such sheet (either). MISSING: one is. KIND: they are not of as many bits. "
                + "BEYOND: one has not so many");
        FugueNotes x = withTwo(8, 2, 16, 2);
        due.is("missing, no such other", x.copy(2, 0, 4, 0, 1), Due.BEYOND);
        due.is("no such one, missing", x.copy(-1, 0, 2, 0, 1), Due.BEYOND);
        due.is("missing, not so many", x.copy(2, 0, 0, 9, 1), Due.MISSING);
        due.is("missing, below 0", x.copy(0, -1, 2, 0, 1), Due.MISSING);
        due.is("other bits, not so many", x.copy(0, 0, 1, 0, 3), Due.KIND);
        due.is("other bits, below 0", x.copy(0, -1, 1, -1, -1), Due.KIND);
        due.is("BEYOND", x.status(0), 2);
        due.is("MISSING", x.status(5), 2);
        due.is("KIND", x.status(2), 2);
    }

    private static void laysFromItsBegin() {
        due.sentence("Promise 30", "A SIDE's TUNE becomes numbers of a sheet, from its begin on");
        for (int bits : BITS) {
            for (int side = 0; side < 2; side++) {
                FugueNotes x = withSheet(bits, 0, 11, 5);
                Due.tune(x, side, TWELVE);
                due.is("how many", x.lays(0, side), 3);
                due.tuneIs("laid", x, side, 0, 11, 5);
                due.is("the other has none", x.side(1 - side, 0), 0);
                rowIs("the sheet stays", x, 0, 0, 11, 5);
            }
        }
    }

    private static void laysUpToTheFirst() {
        due.sentence("Promise 30", "up to the first that isn't 0 to 11");
        due.is("12", withSheet(8, 1, 12, 3).lays(0, 0), 1);
        due.is("-1", withSheet(8, 1, 2, -1, 3).lays(0, 0), 2);
        due.is("128 is told below 0", withSheet(8, 1, 128).lays(0, 0), 1);
        due.is("8 bits of 256 are 0", withSheet(8, 1, 256).lays(0, 0), 2);
        due.is("16 bits of 256 are not", withSheet(16, 1, 256).lays(0, 0), 1);
        due.is("2 to the 32nd and 5", withSheet(64, 1, (1L << 32) + 5).lays(0, 0), 1);
        due.is("the least", withSheet(64, Long.MIN_VALUE).lays(0, 0), 0);
        FugueNotes x = withSheet(64, 12);
        Due.tune(x, 1, TWELVE);
        due.is("the first of all", x.lays(0, 1), 0);
        due.tuneIs("no tune then", x, 1);
    }

    private static void laysTwelveAtMost() {
        due.sentence("Promise 30", "12 at most: how many");
        int[] sizes = {0, 1, 11, 12, 13, 40};
        for (int size : sizes) {
            FugueNotes x = withSheet(64, new long[size]);
            Due.tune(x, 0, 5, 5);
            due.is("of " + size, x.lays(0, 0), Math.min(size, 12));
            due.tuneIs("of " + size, x, 0, new int[Math.min(size, 12)]);
        }
        due.is("a 13th that isn't one", withSheet(8, 0, 1, 2, 3, 4, 5, 6, 7, 8, 9, 10, 11, 12).lays(0, 0), 12);
    }

    private static void laysFindings() {
        due.sentence("Promise 30", "BEYOND: no such sheet. MISSING. BEYOND: side.");
        FugueNotes x = withSheet(8, 1, 2, 3);
        due.is("missing", x.lays(3, 0), Due.MISSING);
        due.bounds("side", v -> x.lays(0, v), 0, 1);
        for (int s = 1; s < 4; s++) {
            x.sheet(s, 64, 0);
        }
        due.bounds("s", v -> x.lays(v, 0), 0, 3);
        due.is("MISSING", x.status(5), 1);
        due.is("BEYOND", x.status(0), 12);
    }

    private static void laysOrder() {
        due.sentence("Promise 30", "MISSING. BEYOND: side.");
        FugueNotes x = new FugueNotes();
        due.is("no such sheet, no side", x.lays(4, 2), Due.BEYOND);
        due.is("missing, no side", x.lays(0, 2), Due.MISSING);
    }

    private static void bookOfDays() {
        due.sentence("Promise 31", "A book: TENSION of a SIDE's TUNE ON 0, 1, 2, .. DAYS comes to a sheet");
        int[][] attaches = {{5, 0, 0, 0}, {0, 1, 0, 0}};
        for (int bits : BITS) {
            FugueNotes x = Due.affair(0, attaches, new int[] {0, 4}, new int[] {2, 6});
            x.sheet(2, bits, 6);
            fill(x, 2, 9, 9, 9, 9, 9, 9);
            due.is("six", x.book(2, 1), 6);
            // 2 6, 2 6, 6 3, 6 3, 3 7, 3 7.
            rowIs("side 1", x, 2, 1, 1, 0, 0, 1, 1);
            due.is("six", x.book(2, 0), 6);
            // 0 4, 6 3, 6 3, 3 7, 3 7, 7 4.
            rowIs("side 0", x, 2, 1, 0, 0, 1, 1, 0);
            due.is("the day stays", x.now(0), 0);
            due.is("wrote stays", x.count(2), 0);
        }
    }

    private static void bookAsManyAsItHas() {
        due.sentence("Promise 31", "as many as it has numbers: how many");
        int[][] attaches = {{5, 0, 3, 5}, {4, 1, 2, 9}};
        FugueNotes x = Due.affair(1, attaches, TWELVE, TWELVE);
        x.sheet(0, 8, 0);
        x.sheet(1, 8, 1);
        x.sheet(2, 64, 40);
        due.is("none", x.book(0, 0), 0);
        due.is("one", x.book(1, 0), 1);
        rowIs("one", x, 1, x.tension(0, 0));
        due.is("forty", x.book(2, 1), 40);
        for (int n = 0; n < 40; n++) {
            due.is(n + " on", x.write(2, n, 0), x.tension(1, n));
        }
    }

    private static void bookFindings() {
        due.sentence("Promise 31", "how many. BEYOND: no such sheet. MISSING. BEYOND: side.");
        FugueNotes x = withSheet(8, 1, 2, 3);
        due.is("missing", x.book(3, 0), Due.MISSING);
        due.bounds("side", v -> x.book(0, v), 0, 1);
        for (int s = 1; s < 4; s++) {
            x.sheet(s, 64, 0);
        }
        due.bounds("s", v -> x.book(v, 0), 0, 3);
        due.is("MISSING", x.status(5), 1);
        due.is("BEYOND", x.status(0), 12);
    }

    private static void bookOrder() {
        due.sentence("Promise 31", "MISSING. BEYOND: side.");
        FugueNotes x = withSheet(8, 7);
        due.is("no such sheet, no side", x.book(-1, 2), Due.BEYOND);
        due.is("missing, no side", x.book(1, 2), Due.MISSING);
        due.is("no side", x.book(0, 2), Due.BEYOND);
        rowIs("the sheet stays", x, 0, 7);
    }

    private static void readAllOfThem() {
        due.sentence("Promise 32", "numbers of a sheet are TONES of the ANSWER of an ATTACHE to the TUNE of the other SIDE "
                + "as it is, all of them");
        FugueNotes x = Due.affair(0, new int[][] {{0, 0, 0, 0}}, NO_TONES, new int[] {1, 4, 2});
        x.sheet(0, 8, 3);
        fill(x, 0, 1, 4, 2);
        due.is("all", x.read(0, 0), 1);
        x.sheet(0, 8, 2);
        fill(x, 0, 1, 4);
        due.is("too few", x.read(0, 0), 0);
        x.sheet(0, 8, 4);
        fill(x, 0, 1, 4, 2, 0);
        due.is("too many", x.read(0, 0), 0);
        x.sheet(0, 8, 0);
        due.is("none to three", x.read(0, 0), 0);
        x.tune(1, 0, 0);
        due.is("none to none, by all", x.read(0, 0), 72);
        x.sheet(0, 8, 40);
        due.is("forty", x.read(0, 0), 0);
        Due.tune(x, 1, TWELVE);
        due.is("forty to twelve", x.read(0, 0), 0);
    }

    private static void readAsItIs() {
        due.sentence("Promise 32", "to the TUNE of the other SIDE as it is");
        int[][] attaches = {{2, 1, 7, 0b100}};
        FugueNotes x = Due.affair(0, attaches, TWELVE, NO_TONES);
        x.sheet(0, 64, 12);
        for (int i = 0; i < 12; i++) {
            x.write(0, i, x.answer(0, i));
        }
        due.is("its own answer", x.read(0, 0), 1);
        x.set(0, 3, 0);
        due.is("not without its blot", x.read(0, 0), 0);
        x.set(0, 3, 0b100);
        x.write(0, 11, x.answer(0, 11) + 12);
        due.is("twelve more is no tone", x.read(0, 0), 0);
        x.write(0, 11, x.answer(0, 11) + (1L << 32));
        due.is("nor is 2 to the 32nd more", x.read(0, 0), 0);
        x.write(0, 11, x.answer(0, 11));
        due.is("its own again", x.read(0, 0), 1);
        due.is("its kind stays", x.of(0, 0), 2);
        due.is("its key stays", x.of(0, 2), 7);
    }

    private static void readPairs() {
        due.sentence("Promise 32", "how many pairs of a KIND and a KEY (0 to 11) make it just so");
        FugueNotes x = Due.affair(0, new int[][] {{0, 0, 0, 0}}, NO_TONES, new int[] {5});
        x.sheet(0, 8, 1);
        for (int tone = 0; tone < 12; tone++) {
            x.write(0, 0, tone);
            due.is("one tone, by every kind in one key", x.read(0, 0), 6);
        }
        x.write(0, 0, 12);
        due.is("12 is no tone", x.read(0, 0), 0);
        x.write(0, 0, -1);
        due.is("-1 is no tone", x.read(0, 0), 0);
        x.tune(1, 7, 0);
        x.sheet(0, 8, 7);
        due.is("seven 0: attache, mirror, crab, table", x.read(0, 0), 4);
        x.sheet(0, 8, 6);
        due.is("six 0 to seven: pedal", x.read(0, 0), 1);
        x.tune(1, 6, 0);
        due.is("six 0 to six: all but tenor", x.read(0, 0), 5);
    }

    private static void readFindings() {
        due.sentence("Promise 32", "make it just so. BEYOND: no such sheet. MISSING. BEYOND: attache.");
        FugueNotes x = Due.affair(0, new int[8][4], NO_TONES, NO_TONES);
        due.is("missing", x.read(0, 0), Due.MISSING);
        for (int s = 0; s < 4; s++) {
            x.sheet(s, 64, 0);
        }
        due.bounds("s", v -> x.read(v, 0), 0, 3);
        due.bounds("attache", v -> x.read(0, v), 0, 7);
        due.is("MISSING", x.status(5), 1);
        due.is("BEYOND", x.status(0), 12);
        due.is("of no attaches", withSheet(8).read(0, 0), Due.BEYOND);
    }

    private static void readOrder() {
        due.sentence("Promise 32", "MISSING. BEYOND: attache.");
        FugueNotes x = new FugueNotes();
        due.is("no such sheet, no such attache", x.read(4, 0), Due.BEYOND);
        due.is("missing, no such attache", x.read(0, 0), Due.MISSING);
    }
}
