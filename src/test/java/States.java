import java.util.LinkedHashMap;
import java.util.Map;

/** Objects in states that lie at the document's limits, and all that can be seen of one. */
final class States {
    static final int NEW = 0;
    static final int SOME = 1;
    static final int FULL = 2;
    static final int LAST_DAY = 3;
    static final String[] NAMES = {"new", "some", "full", "last day"};

    private States() {
    }

    /** The same each time, so that one can be held against its twin. */
    static FugueNotes make(int state) {
        switch (state) {
            case NEW: return new FugueNotes();
            case SOME: return some(5);
            case FULL: return full();
            default: return some(9999);
        }
    }

    private static FugueNotes some(int day) {
        int[][] attaches = {{2, 0, 5, 3}, {0, 1, 1, 0}, {5, 1, 11, 2048}};
        FugueNotes x = Due.affair(day == 9999 ? 9939 : day, attaches, new int[] {9, 1}, new int[] {3});
        x.set(1, 4, 17);
        x.image();
        Due.tune(x, 0, 0, 4, 2, 3, 7);
        Due.tune(x, 1, 6, 6, 1);
        x.turn(0, 3);
        x.set(2, 2, 4);
        x.set(0, 4, 9999);
        x.attache(1, 0);
        x.days(day == 9999 ? 60 : 2);
        Due.feed(x, "tune 1 8 2;crab of 1");
        x.sheet(0, 16, 3);
        x.write(0, 0, 4);
        x.write(0, 1, 11);
        x.write(0, 2, -300);
        x.sheet(1, 8, 4);
        x.write(1, 3, 12);
        x.sheet(2, 64, 0);
        return x;
    }

    private static FugueNotes full() {
        int[][] attaches = new int[8][4];
        for (int a = 0; a < 8; a++) {
            attaches[a] = new int[] {a % 6, a % 2, 11 - a, 4095 - a};
        }
        FugueNotes x = Due.affair(0, attaches, new int[] {0, 6}, new int[12]);
        x.image();
        for (int side = 0; side < 2; side++) {
            Due.tune(x, side, 7, 2, 11, 0, 5, 9, 1, 10, 3, 8, 4, 6);
        }
        for (int a = 0; a < 8; a++) {
            x.set(a, 4, 9999 - a);
        }
        Due.feed(x, "tune 0 1 2 3;tune 1 4 5 6" + " ".repeat(95));
        x.sheet(0, 64, 40);
        x.write(0, 0, Long.MIN_VALUE);
        x.write(0, 39, Long.MAX_VALUE);
        x.sheet(1, 8, 12);
        x.sheet(2, 8, 1);
        x.sheet(3, 16, 2);
        return x;
    }

    /** What status() tells, by "status -1" to "status 6". */
    static Map<String, Long> findings(FugueNotes x) {
        Map<String, Long> all = new LinkedHashMap<>();
        for (int which = -1; which < 7; which++) {
            all.put("status " + which, (long) x.status(which));
        }
        return all;
    }

    /** Some of it can only be seen by a change, so that the object is worn out then. */
    static Map<String, Long> see(FugueNotes x) {
        Map<String, Long> seen = new LinkedHashMap<>();
        seeAffair("", x, seen);
        seeSheets(x, seen);
        int kept = x.undo();
        seen.put("image", (long) kept);
        if (kept >= 0) {
            seeAffair("image: ", x, seen);
        }
        seen.put("image: tear", (long) x.tear());
        seen.put("tape", (long) x.count(1));
        seen.put("tape: told", (long) x.affair());
        seeTunes("tape: ", x, seen);
        seen.put("tape: attaches", (long) x.count(0));
        return seen;
    }

    private static void seeTunes(String where, FugueNotes x, Map<String, Long> seen) {
        for (int side = 0; side < 2; side++) {
            int n = x.side(side, 0);
            long tones = 0;
            for (int i = 0; i < n; i++) {
                tones = 16 * tones + x.tone(side, i);
            }
            seen.put(where + "tune " + side, 16 * tones + n);
        }
    }

    private static void seeAffair(String where, FugueNotes x, Map<String, Long> seen) {
        seeTunes(where, x, seen);
        seen.put(where + "day", (long) x.now(0));
        int attaches = x.count(0);
        seen.put(where + "attaches", (long) attaches);
        String[] names = {"kind", "side", "key", "blots", "wrote"};
        for (int a = 0; a < attaches; a++) {
            for (int what = 0; what < names.length; what++) {
                seen.put(where + names[what] + " of " + a, (long) x.of(a, what));
            }
        }
    }

    /** A sheet's bits are seen by what a great number becomes in it, and by the sheets that it can be copied to. */
    private static void seeSheets(FugueNotes x, Map<String, Long> seen) {
        for (int s = 0; s < 4; s++) {
            for (int t = 0; t < s; t++) {
                seen.put("sheet " + s + ": copied to " + t, (long) x.copy(s, 0, t, 0, 0));
            }
            long was = 0;
            int i = 0;
            for (; i <= 40 && was != Due.MISSING && was != Due.BEYOND; i++) {
                was = x.write(s, i, 0x7001_0203_0405_0607L);
                seen.put("sheet " + s + ": number " + i, was);
            }
            seen.put("sheet " + s + ": the first of its bits", x.write(s, 0, 0));
        }
    }
}
