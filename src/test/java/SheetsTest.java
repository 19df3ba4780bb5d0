/** Promises 27 to 32: sheet, write, copy, lays, book, read. */
public final class SheetsTest {
    private static final Due due = new Due();

    public static void main(String[] args) {
        sheet();
        write();
        lowestBits();
        copy();
        copyOntoItself();
        lays();
        book();
        read();
        due.end();
    }

    private static void sheet() {
        FugueNotes x = new FugueNotes();
        due.is("sheet(-1, 8, 1)", x.sheet(-1, 8, 1), Due.BEYOND);
        due.is("sheet(4, 8, 1)", x.sheet(4, 8, 1), Due.BEYOND);
        due.is("sheet(0, 32, 1)", x.sheet(0, 32, 1), Due.BEYOND);
        due.is("sheet(0, -8, 1)", x.sheet(0, -8, 1), Due.BEYOND);
        due.is("no such sheet before its size", x.sheet(4, 8, -1), Due.BEYOND);
        due.is("other bits before its size", x.sheet(0, 7, -1), Due.BEYOND);
        due.is("sheet(0, 8, -1)", x.sheet(0, 8, -1), Due.SIZE);
        due.is("sheet(0, 0, -1)", x.sheet(0, 0, -1), Due.SIZE);
        due.is("sheet(0, 8, 41)", x.sheet(0, 8, 41), Due.BEYOND);
        due.is("sheet(0, 0, 41)", x.sheet(0, 0, 41), Due.BEYOND);
        due.is("still missing", x.write(0, 0, 0), Due.MISSING);
        due.is("sheet(3, 64, 40)", x.sheet(3, 64, 40), 40);
        due.is("write(3, 39, 7)", x.write(3, 39, 7), 0);
        due.is("wrong size changes nothing", x.sheet(3, 8, 41), Due.BEYOND);
        due.is("still 7", x.write(3, 39, 8), 7);
        due.is("anew", x.sheet(3, 64, 40), 40);
        due.is("all 0", x.write(3, 39, 9), 0);
        due.is("write(3, 0, 7)", x.write(3, 0, 7), 0);
        due.is("anew", x.sheet(3, 64, 40), 40);
        due.is("the first is 0", x.write(3, 0, 0), 0);
        due.is("of none", x.sheet(3, 16, 0), 0);
        due.is("not missing", x.write(3, 0, 0), Due.BEYOND);
        due.is("missing again", x.sheet(3, 0, 5), 0);
        due.is("missing", x.write(3, 0, 0), Due.MISSING);
        due.is("grown", x.sheet(3, 64, 40), 40);
        due.is("all 0 again", x.write(3, 39, 0), 0);
        due.is("status(6)", x.status(6), 2);
        due.is("status(5)", x.status(5), 2);
        due.is("status(0)", x.status(0), 10);
    }

    private static void write() {
        FugueNotes x = new FugueNotes();
        x.sheet(1, 64, 2);
        due.is("write(1, 0, 5)", x.write(1, 0, 5), 0);
        due.is("write(1, 1, 6)", x.write(1, 1, 6), 0);
        due.is("write(1, 0, 7)", x.write(1, 0, 7), 5);
        due.is("write(1, 1, 8)", x.write(1, 1, 8), 6);
        due.is("write(1, 2, 0)", x.write(1, 2, 0), Due.BEYOND);
        due.is("write(1, -1, 0)", x.write(1, -1, 0), Due.BEYOND);
        due.is("write(4, 0, 0)", x.write(4, 0, 0), Due.BEYOND);
        due.is("write(-1, 0, 0)", x.write(-1, 0, 0), Due.BEYOND);
        due.is("write(0, 0, 0)", x.write(0, 0, 0), Due.MISSING);
        due.is("missing before its number", x.write(0, -1, 0), Due.MISSING);
        due.is("status(0)", x.status(0), 4);
        due.is("a number like a finding", x.write(1, 0, Due.FULL), 7);
        due.is("is none", x.write(1, 0, 0), Due.FULL);
        due.is("status(1)", x.status(1), 0);
        due.is("status(-1)", x.status(-1), 6);
    }

    private static void lowestBits() {
        FugueNotes x = new FugueNotes();
        x.sheet(0, 8, 1);
        x.sheet(1, 16, 1);
        x.sheet(2, 64, 1);
        long[] values = {127, 300, 0x1_0000_0005L, 70000, Long.MAX_VALUE, 128, 255, 32768, -1, -200, Long.MIN_VALUE};
        for (long v : values) {
            for (int s = 0; s < 3; s++) {
                x.write(s, 0, v);
            }
            due.is("8 bits of " + v, x.write(0, 0, 0), (byte) v);
            due.is("16 bits of " + v, x.write(1, 0, 0), (short) v);
            due.is("64 bits of " + v, x.write(2, 0, 0), v);
        }
    }

    private static void fill(FugueNotes x, int s, long... row) {
        for (int i = 0; i < row.length; i++) {
            x.write(s, i, row[i]);
        }
    }

    private static void holds(String what, FugueNotes x, int s, long... row) {
        for (int i = 0; i < row.length; i++) {
            due.is(what + ": " + i, x.write(s, i, row[i]), row[i]);
        }
    }

    private static void copy() {
        FugueNotes x = new FugueNotes();
        x.sheet(0, 16, 5);
        x.sheet(1, 16, 3);
        x.sheet(2, 8, 5);
        fill(x, 0, 1, 2, 3, 4, 5);
        due.is("copy(0, 2, 1, 1, 2)", x.copy(0, 2, 1, 1, 2), 2);
        holds("copied", x, 1, 0, 3, 4);
        holds("as before", x, 0, 1, 2, 3, 4, 5);
        due.is("none at the ends", x.copy(0, 5, 1, 3, 0), 0);
        due.is("all of it", x.copy(1, 0, 0, 2, 3), 3);
        holds("copied back", x, 0, 1, 2, 0, 3, 4);
        due.is("no such source", x.copy(4, 0, 1, 0, 1), Due.BEYOND);
        due.is("no such target", x.copy(3, 0, -1, 0, 1), Due.BEYOND);
        due.is("missing source", x.copy(3, 0, 1, 0, 1), Due.MISSING);
        due.is("missing target", x.copy(2, -1, 3, 0, 1), Due.MISSING);
        due.is("other bits", x.copy(0, -1, 2, 0, 1), Due.KIND);
        due.is("from -1", x.copy(0, -1, 1, 0, 1), Due.BEYOND);
        due.is("to -1", x.copy(0, 0, 1, -1, 1), Due.BEYOND);
        due.is("n -1", x.copy(0, 1, 1, 1, -1), Due.BEYOND);
        due.is("source too short", x.copy(0, 4, 1, 0, 2), Due.BEYOND);
        due.is("target too short", x.copy(0, 0, 1, 2, 2), Due.BEYOND);
        due.is("none behind the end", x.copy(0, 6, 1, 0, 0), Due.BEYOND);
        due.is("great numbers", x.copy(0, Integer.MAX_VALUE, 1, 0, Integer.MAX_VALUE), Due.BEYOND);
        due.is("great from", x.copy(0, Integer.MAX_VALUE, 1, 0, 1), Due.BEYOND);
        due.is("great to", x.copy(0, 0, 1, Integer.MAX_VALUE, 1), Due.BEYOND);
        due.is("least n", x.copy(0, 0, 1, 0, Integer.MIN_VALUE), Due.BEYOND);
        holds("unchanged", x, 0, 1, 2, 0, 3, 4);
        holds("unchanged", x, 1, 0, 3, 4);
        due.is("status(0)", x.status(0), 12);
        due.is("status(2)", x.status(2), 1);
        due.is("status(5)", x.status(5), 2);
    }

    private static void copyOntoItself() {
        FugueNotes x = new FugueNotes();
        x.sheet(0, 64, 5);
        fill(x, 0, 1, 2, 3, 4, 5);
        due.is("forward", x.copy(0, 0, 0, 1, 4), 4);
        holds("as they all were", x, 0, 1, 1, 2, 3, 4);
        due.is("back", x.copy(0, 2, 0, 0, 3), 3);
        holds("as they all were", x, 0, 2, 3, 4, 3, 4);
    }

    private static void lays() {
        FugueNotes x = new FugueNotes();
        due.is("no such sheet", x.lays(4, 0), Due.BEYOND);
        due.is("missing before its side", x.lays(0, 2), Due.MISSING);
        x.sheet(0, 8, 40);
        due.is("side 2", x.lays(0, 2), Due.BEYOND);
        due.is("side -1", x.lays(0, -1), Due.BEYOND);
        due.is("twelve at most", x.lays(0, 1), 12);
        fill(x, 0, 4, 11, 0, 12);
        due.is("up to 12", x.lays(0, 1), 3);
        due.tuneIs("laid", x, 1, 4, 11, 0);
        x.write(0, 1, -1);
        due.is("up to -1", x.lays(0, 1), 1);
        x.sheet(0, 64, 2);
        fill(x, 0, 4, 0x1_0000_0005L);
        due.is("up to one that is great", x.lays(0, 1), 1);
        due.tuneIs("laid", x, 1, 4);
        x.write(0, 0, 12);
        due.is("none", x.lays(0, 1), 0);
        due.tuneIs("none", x, 1);
        due.is("side 0 has none", x.side(0, 0), 0);
        due.is("status(0)", x.status(0), 3);
        due.is("status(5)", x.status(5), 1);
    }

    private static void book() {
        FugueNotes x = new FugueNotes();
        x.attache(5, 0);
        x.attache(0, 1);
        Due.tune(x, 0, 0, 4);
        Due.tune(x, 1, 2, 5);
        due.is("no such sheet", x.book(-1, 0), Due.BEYOND);
        due.is("missing before its side", x.book(0, 2), Due.MISSING);
        x.sheet(0, 8, 6);
        due.is("side 2", x.book(0, 2), Due.BEYOND);
        due.is("six", x.book(0, 0), 6);
        // 0 4, then 5 3, 5 3, 3 6, 3 6, 6 4.
        holds("book of side 0", x, 0, 1, 0, 0, 0, 0, 0);
        Due.tune(x, 1, 2, 6);
        due.is("six", x.book(0, 1), 6);
        // 2 6, 2 6, 6 3, 6 3, 3 7, 3 7.
        holds("book of side 1", x, 0, 1, 1, 0, 0, 1, 1);
        due.is("day stays", x.now(0), 0);
        due.is("wrote stays", x.count(2), 0);
        x.sheet(1, 16, 0);
        due.is("of none", x.book(1, 0), 0);
        x.sheet(2, 64, 40);
        due.is("of forty", x.book(2, 1), 40);
        for (int n = 0; n < 40; n++) {
            due.is("day " + n, x.write(2, n, 0), x.tension(1, n));
        }
        due.is("status(0)", x.status(0), 2);
        due.is("status(5)", x.status(5), 1);
    }

    private static void read() {
        FugueNotes x = new FugueNotes();
        x.attache(0, 0);
        due.is("no such sheet", x.read(4, 1), Due.BEYOND);
        due.is("missing before its attache", x.read(0, 1), Due.MISSING);
        x.sheet(0, 8, 1);
        due.is("read(0, 1)", x.read(0, 1), Due.BEYOND);
        due.is("read(0, -1)", x.read(0, -1), Due.BEYOND);
        due.is("to no tune nothing is written", x.read(0, 0), 0);
        x.sheet(0, 8, 0);
        due.is("nothing, by all", x.read(0, 0), 72);
        x.sheet(0, 8, 1);
        Due.tune(x, 1, 5);
        // To one tone every kind answers it, in one key each.
        due.is("one tone", x.read(0, 0), 6);
        x.write(0, 0, 12);
        due.is("no tone", x.read(0, 0), 0);
        Due.tune(x, 1, 1, 4, 2);
        x.sheet(0, 16, 3);
        fill(x, 0, 3, 6, 4);
        due.is("attache in key 2", x.read(0, 0), 1);
        fill(x, 0, 3, 0, 2);
        due.is("mirror in key 2", x.read(0, 0), 1);
        fill(x, 0, 9, 9, 9);
        due.is("pedal in key 8", x.read(0, 0), 1);
        x.set(0, 3, 0b010);
        due.is("pedal without its blot", x.read(0, 0), 0);
        fill(x, 0, 9, 3, 9);
        due.is("pedal with its blot", x.read(0, 0), 1);
        // The same backwards and forwards: attache and crab; mirror and table; pedal and tenor not.
        x.set(0, 3, 0);
        Due.tune(x, 1, 1, 3, 1);
        fill(x, 0, 2, 4, 2);
        due.is("attache and crab", x.read(0, 0), 2);
        x.sheet(0, 16, 2);
        fill(x, 0, 2, 4);
        due.is("all of them", x.read(0, 0), 0);
        readOfPedal(x);
        due.is("kind stays", x.of(0, 0), 0);
        due.is("key stays", x.of(0, 2), 0);
        due.is("status(0)", x.status(0), 3);
        due.is("status(5)", x.status(5), 1);
    }

    private static void readOfPedal(FugueNotes x) {
        Due.tune(x, 1, 3, 3, 3, 3, 3, 3, 3);
        x.sheet(0, 16, 7);
        fill(x, 0, 4, 4, 4, 4, 4, 4, 4);
        due.is("seven: attache, mirror, crab, table", x.read(0, 0), 4);
        x.sheet(0, 16, 6);
        fill(x, 0, 4, 4, 4, 4, 4, 4);
        due.is("six: pedal", x.read(0, 0), 1);
    }
}
