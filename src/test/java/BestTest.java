/** Promises 18 to 23: key, kind, blot, calm, swap, keys. */
public final class BestTest {
    private static final Due due = new Due();

    public static void main(String[] args) {
        key();
        kind();
        blot();
        calm();
        swap();
        keys();
        due.end();
    }

    private static FugueNotes pair(int kind0, int kind1) {
        FugueNotes x = new FugueNotes();
        x.attache(kind0, 0);
        x.attache(kind1, 1);
        return x;
    }

    private static void unchanged(String what, FugueNotes x, int wrote) {
        due.is(what + " changes no day", x.now(0), 0);
        due.is(what + " changes no wrote", x.count(2), wrote);
    }

    private static void key() {
        FugueNotes x = pair(0, 0);
        Due.tune(x, 1, 3, 5);
        due.is("5 and 7 are home at once", x.key(0), 7);
        due.is("of side 1 it hears 5 first", x.key(1), 7);
        Due.tune(x, 1, 3, 0);
        due.is("home already: the least", x.key(1), 0);
        due.is("key 0", x.key(0), 0);
        unchanged("key", x, 0);
        due.is("its own key stays", x.of(0, 2), 0);
        due.is("key(2)", x.key(2), Due.BEYOND);
        due.is("key(-1)", x.key(-1), Due.BEYOND);
        x.tune(1, 0, 0);
        due.is("no tune", x.key(0), Due.NONE);
        due.is("status(0)", x.status(0), 2);
        due.is("status(3)", x.status(3), 1);
        // Day 0 another one writes the 4 to be 0 by key 8; the least key is not the soonest.
        FugueNotes y = new FugueNotes();
        y.attache(0, 0);
        y.attache(0, 0);
        y.attache(0, 1);
        Due.tune(y, 1, 4);
        due.is("the second one", y.key(1), 8);
    }

    private static void kind() {
        FugueNotes x = pair(0, 0);
        Due.tune(x, 1, 0, 5, 2);
        // As crab 2 5 0 is home; attache, mirror (last 10) are not.
        due.is("crab", x.kind(0), 2);
        Due.tune(x, 1, 3, 1, 6);
        due.is("mirror", x.kind(0), 1);
        Due.tune(x, 1, 1, 1, 0);
        due.is("attache", x.kind(0), 0);
        // As table, twice 2 less 4; as mirror 8 less 2.
        Due.tune(x, 1, 4, 6, 2);
        due.is("table", x.kind(0), 4);
        // Tenor: backwards 5 11, the last place is odd. Mirror: 22 less 5.
        Due.tune(x, 1, 11, 5);
        due.is("tenor", x.kind(0), 5);
        Due.tune(x, 1, 0, 5, 2, 1, 3, 8, 6);
        x.set(0, 3, 0);
        due.is("crab of seven", x.kind(0), 2);
        x.set(0, 3, 1 << 6);
        due.is("place 6 blotted: attache", x.kind(0), 0);
        unchanged("kind", x, 0);
        due.is("its own kind stays", x.of(0, 0), 0);
        due.is("kind(2)", x.kind(2), Due.BEYOND);
        due.is("kind(-1)", x.kind(-1), Due.BEYOND);
        x.tune(1, 0, 0);
        due.is("no tune", x.kind(0), Due.NONE);
        due.is("status(0)", x.status(0), 2);
        due.is("status(3)", x.status(3), 1);
    }

    private static void blot() {
        FugueNotes x = pair(0, 0);
        Due.tune(x, 1, 1, 2, 6);
        due.is("blot at 2", x.blot(0, 0), 2);
        due.is("side 1 too", x.blot(0, 1), 2);
        due.is("by its own", x.blot(1, 1), 2);
        x.set(0, 3, 0b100);
        due.is("home as it is, no sooner", x.blot(0, 0), Due.NONE);
        Due.tune(x, 1, 1, 2, 0);
        due.is("home already", x.blot(0, 1), Due.NONE);
        due.is("must not blot", x.blot(0, 0), 2);
        unchanged("blot", x, 0);
        due.is("its own blots stay", x.of(0, 3), 0b100);
        Due.tune(x, 1, 1, 2, 5);
        due.is("no way", x.blot(0, 0), Due.NONE);
        due.is("blot(2, 0)", x.blot(2, 0), Due.BEYOND);
        due.is("blot(-1, 0)", x.blot(-1, 0), Due.BEYOND);
        due.is("blot(0, 2)", x.blot(0, 2), Due.BEYOND);
        due.is("blot(0, -1)", x.blot(0, -1), Due.BEYOND);
        due.is("status(0)", x.status(0), 4);
        due.is("status(3)", x.status(3), 3);
        blotSoonerThanAsItIs();
    }

    private static void blotSoonerThanAsItIs() {
        // One tone higher each second day: from 6 it is home on the 13th, blotted at once.
        FugueNotes x = pair(0, 0);
        x.set(0, 2, 1);
        Due.tune(x, 1, 5);
        due.is("home as it is", x.home(0), 13);
        due.is("sooner", x.blot(0, 0), 0);
        // Blotted on side 1, 6 1 8 3 10 5 0 come home on the 13th day as well.
        due.is("no sooner", x.blot(1, 0), Due.NONE);
        // As it is in 17 days, blotted at 0 in 5, at 1 in 11.
        int[][] attaches = {{2, 0, 9, 0}, {0, 1, 4, 0}};
        x = Due.affair(0, attaches, new int[] {10, 10}, new int[] {7, 4});
        due.is("in 17", x.home(0), 17);
        due.is("the soonest of two", x.blot(0, 0), 0);
        x.set(0, 3, 1);
        due.is("in 5", x.home(0), 5);
        x.set(0, 3, 2);
        due.is("in 11", x.home(0), 11);
    }

    private static void calm() {
        FugueNotes x = pair(0, 0);
        Due.tune(x, 0, 0, 6);
        Due.tune(x, 1, 1, 2, 6);
        due.is("as it is: key 0", x.calm(0, 0, 0), 1);
        due.is("keys change no leaps", x.calm(0, 0, 20), 1);
        due.is("calm(0, 0, 21)", x.calm(0, 0, 21), Due.BEYOND);
        due.is("calm(0, 0, -1)", x.calm(0, 0, -1), Due.BEYOND);
        due.is("calm(2, 0, 0)", x.calm(2, 0, 0), Due.BEYOND);
        due.is("calm(-1, 0, 0)", x.calm(-1, 0, 0), Due.BEYOND);
        due.is("calm(0, 2, 0)", x.calm(0, 2, 0), Due.BEYOND);
        due.is("calm(0, -1, 0)", x.calm(0, -1, 0), Due.BEYOND);
        due.is("status(0)", x.status(0), 6);
        unchanged("calm", x, 0);
        due.is("eleven wide leaps", calmOfTwelve(), 11);
    }

    private static int calmOfTwelve() {
        FugueNotes x = pair(0, 0);
        Due.tune(x, 1, 0, 6, 0, 6, 0, 6, 0, 6, 0, 6, 0, 6);
        return x.calm(0, 0, 1);
    }

    private static void swap() {
        FugueNotes x = new FugueNotes();
        due.is("none", x.swap(), Due.NONE);
        x.attache(0, 0);
        x.attache(0, 0);
        Due.tune(x, 0, 1);
        Due.tune(x, 1, 1);
        due.is("of one side alone", x.swap(), Due.NONE);
        x.attache(0, 1);
        due.is("alike already: the least", x.swap(), 2);
        Due.tune(x, 0, 2);
        x.set(2, 2, 5);
        x.set(0, 2, 1);
        // 0 and 2: side 0 is {1, 2}: 1 answers alike at once. 1 and 2: side 0 is {0, 2}, not so soon.
        due.is("0 for 2", x.swap(), 2);
        x.set(0, 2, 0);
        x.set(1, 2, 1);
        due.is("1 for 2", x.swap(), 12);
        due.is("sides stay", x.of(1, 1), 0);
        due.is("sides stay", x.of(2, 1), 1);
        unchanged("swap", x, 0);
        due.is("status(3)", x.status(3), 2);
        due.is("status(-1)", x.status(-1), 2);
    }

    private static void keys() {
        FugueNotes x = pair(0, 0);
        Due.tune(x, 0, 5);
        Due.tune(x, 1, 1, 0);
        due.is("not home now", x.keys(0, 0), 0);
        due.is("home now with any", x.keys(1, 0), 12);
        due.is("on the first day", x.keys(0, 1), 1);
        due.is("still", x.keys(0, 2), 1);
        // Key twice: 0 and 6.
        due.is("written twice", x.keys(0, 3), 2);
        due.is("thrice", x.keys(0, 5), 3);
        due.is("four times", x.keys(0, 7), 4);
        // Written 30 times: 30 keys are 0 for even ones.
        due.is("30 times", x.keys(0, 60), 6);
        due.is("keys(0, 61)", x.keys(0, 61), Due.BEYOND);
        due.is("keys(0, -1)", x.keys(0, -1), Due.BEYOND);
        due.is("keys(2, 0)", x.keys(2, 0), Due.BEYOND);
        due.is("keys(-1, 0)", x.keys(-1, 0), Due.BEYOND);
        due.is("status(0)", x.status(0), 4);
        unchanged("keys", x, 0);
    }
}
