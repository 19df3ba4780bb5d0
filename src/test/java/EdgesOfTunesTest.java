/** Promises 1 to 4: each sentence that names a boundary, by itself. */
public final class EdgesOfTunesTest {
    private static final int[] TWELVE = {7, 2, 11, 0, 5, 9, 1, 10, 3, 8, 4, 6};
    private static final Due due = new Due();

    public static void main(String[] args) {
        noTunes();
        noAttaches();
        emptyTape();
        noImage();
        tuneOfNoneToTwelve();
        tuneOfTheLowestGroups();
        tuneByRests();
        tuneHadSoMany();
        tuneBeyond();
        toneOfATune();
        toneBeyond();
        toneNone();
        toneOrder();
        sideHowMany();
        sideTension();
        sideHome();
        sideSet();
        sideAttaches();
        sideBeyond();
        due.end();
    }

    private static void noTunes() {
        due.sentence("Promise 1", "No TUNES");
        FugueNotes x = new FugueNotes();
        for (int side = 0; side < 2; side++) {
            due.is("how many", x.side(side, 0), 0);
            due.is("tone", x.tone(side, 0), Due.NONE);
            due.is("tension", x.side(side, 1), 0);
            due.is("home", x.side(side, 2), 0);
            due.is("set", x.side(side, 3), 0);
            due.is("on 60", x.on(side, 0, 60), Due.NONE);
        }
        due.is("unlike places", x.now(5), 0);
    }

    private static void noAttaches() {
        due.sentence("Promise 1", "no ATTACHES");
        FugueNotes x = new FugueNotes();
        due.is("how many", x.count(0), 0);
        due.is("of side 0", x.side(0, 4), 0);
        due.is("of side 1", x.side(1, 4), 0);
        due.is("whose turn", x.now(2), -1);
        due.is("number 0", x.of(0, 0), Due.BEYOND);
        due.is("the first", x.attache(0, 0), 0);
    }

    private static void emptyTape() {
        due.sentence("Promise 1", "THE TAPE is empty");
        due.is("bytes", new FugueNotes().count(1), 0);
        due.is("wiped", new FugueNotes().wipe(), 0);
        due.is("told", new FugueNotes().affair(), -1);
        due.is("fed", new FugueNotes().feed('a', 1), 1);
    }

    private static void noImage() {
        due.sentence("Promise 1", "no image is kept");
        due.is("undo", new FugueNotes().undo(), Due.NONE);
        due.is("tear", new FugueNotes().tear(), 0);
    }

    private static void tuneOfNoneToTwelve() {
        due.sentence("Promise 2", "A TUNE becomes n TONES (0 to 12)");
        FugueNotes x = new FugueNotes();
        for (int side = 0; side < 2; side++) {
            for (int n = 0; n <= 12; n++) {
                x.tune(side, n, Due.tones(TWELVE));
                due.is("n " + n, x.side(side, 0), n);
                due.is("behind it", x.tone(side, n), Due.NONE);
                if (n > 0) {
                    due.is("the last of it", x.tone(side, n - 1), TWELVE[n - 1]);
                }
            }
        }
    }

    private static void tuneOfTheLowestGroups() {
        due.sentence("Promise 2", "the 12 groups of four bits of a number, the lowest first");
        FugueNotes x = new FugueNotes();
        x.tune(0, 12, 0x6483_A195_0B27L);
        due.tuneIs("the lowest first", x, 0, TWELVE);
        x.tune(0, 12, 0xFFFF_6483_A195_0B27L);
        due.tuneIs("bits above them are not in it", x, 0, TWELVE);
        x.tune(0, 2, -1L ^ 0xFF ^ 0x0B0);
        due.tuneIs("of two, groups above are not in it", x, 0, 0, 11);
        x.tune(0, 12, 0x8000_0000_0000L);
        due.tuneIs("the highest bit of them", x, 0, 0, 0, 0, 0, 0, 0, 0, 0, 0, 0, 0, 8);
        x.tune(0, 12, Long.MIN_VALUE);
        due.tuneIs("the highest bit of all", x, 0, 0, 0, 0, 0, 0, 0, 0, 0, 0, 0, 0, 0);
    }

    private static void tuneByRests() {
        due.sentence("Promise 2", "(each by its rest of 12)");
        FugueNotes x = new FugueNotes();
        Due.tune(x, 1, 11, 12, 13, 14, 15, 0, 15, 14, 13, 12, 11, 15);
        due.tuneIs("12 to 15", x, 1, 11, 0, 1, 2, 3, 0, 3, 2, 1, 0, 11, 3);
    }

    private static void tuneHadSoMany() {
        due.sentence("Promise 2", "how many it had");
        FugueNotes x = new FugueNotes();
        due.is("none yet", x.tune(0, 12, 0), 0);
        due.is("the other none yet", x.tune(1, 1, 0), 0);
        due.is("twelve", x.tune(0, 0, 0), 12);
        due.is("none again", x.tune(0, 5, 0), 0);
        due.is("five", x.tune(0, 5, 0), 5);
        due.is("the other one", x.tune(1, 0, 0), 1);
    }

    private static void tuneBeyond() {
        due.sentence("Promise 2", "BEYOND.");
        FugueNotes x = new FugueNotes();
        due.bounds("side", v -> x.tune(v, 1, 0), 0, 1);
        due.bounds("n", v -> x.tune(0, v, 0), 0, 12);
        due.is("both", x.tune(2, 13, 0), Due.BEYOND);
        due.is("BEYOND", x.status(0), 13);
        due.is("no other one", x.status(-1), 13);
    }

    private static void toneOfATune() {
        due.sentence("Promise 3", "TONE of a TUNE.");
        FugueNotes x = new FugueNotes();
        Due.tune(x, 0, TWELVE);
        Due.tune(x, 1, 3);
        due.is("the first", x.tone(0, 0), 7);
        due.is("the last of twelve", x.tone(0, 11), 6);
        due.is("the only one", x.tone(1, 0), 3);
    }

    private static void toneBeyond() {
        due.sentence("Promise 3", "BEYOND: side, i below 0.");
        FugueNotes x = new FugueNotes();
        Due.tune(x, 0, 4);
        Due.tune(x, 1, 4);
        due.bounds("side", v -> x.tone(v, 0), 0, 1);
        due.is("i -1", x.tone(0, -1), Due.BEYOND);
        due.is("i least", x.tone(0, Integer.MIN_VALUE), Due.BEYOND);
    }

    private static void toneNone() {
        due.sentence("Promise 3", "NONE: it has not so many.");
        FugueNotes x = new FugueNotes();
        due.is("of none", x.tone(0, 0), Due.NONE);
        Due.tune(x, 0, TWELVE);
        due.is("a 13th", x.tone(0, 12), Due.NONE);
        due.is("the greatest", x.tone(0, Integer.MAX_VALUE), Due.NONE);
        x.tune(0, 11, 0);
        due.is("what it had before", x.tone(0, 11), Due.NONE);
        due.is("NONE", x.status(3), 4);
        due.is("no other one", x.status(-1), 4);
    }

    private static void toneOrder() {
        due.sentence("Promise 3", "BEYOND: side, i below 0. NONE: it has not so many.");
        FugueNotes x = new FugueNotes();
        due.is("no side, too many", x.tone(2, 99), Due.BEYOND);
        due.is("no side, below 0", x.tone(-1, -1), Due.BEYOND);
        due.is("below 0, of none", x.tone(0, -1), Due.BEYOND);
    }

    private static void sideHowMany() {
        due.sentence("Promise 4", "what 0 how many TONES");
        FugueNotes x = new FugueNotes();
        due.is("none", x.side(0, 0), 0);
        x.tune(0, 12, 0);
        due.is("twelve", x.side(0, 0), 12);
        due.is("the other none", x.side(1, 0), 0);
    }

    private static void sideTension() {
        due.sentence("Promise 4", "1 TENSION");
        FugueNotes x = new FugueNotes();
        Due.tune(x, 1, 0, 6, 0, 6, 0, 6, 0, 6, 0, 6, 0, 6);
        due.is("none", x.side(0, 1), 0);
        due.is("the most", x.side(1, 1), 11);
    }

    private static void sideHome() {
        due.sentence("Promise 4", "2 1 if it is HOME, else 0");
        FugueNotes x = new FugueNotes();
        Due.tune(x, 1, 0);
        due.is("of none", x.side(0, 2), 0);
        due.is("of 0", x.side(1, 2), 1);
        Due.tune(x, 1, 0, 11);
        due.is("of 0 11", x.side(1, 2), 0);
    }

    private static void sideSet() {
        due.sentence("Promise 4", "3 TONES that are in it, as a set");
        FugueNotes x = new FugueNotes();
        due.is("of none", x.side(0, 3), 0);
        Due.tune(x, 0, 0);
        due.is("0", x.side(0, 3), 1);
        Due.tune(x, 0, 11, 11, 11);
        due.is("one thrice", x.side(0, 3), 2048);
        Due.tune(x, 0, 15);
        due.is("15 is 3", x.side(0, 3), 8);
        Due.tune(x, 0, TWELVE);
        due.is("all", x.side(0, 3), 4095);
        x.tune(0, 0, -1);
        due.is("of none again", x.side(0, 3), 0);
    }

    private static void sideAttaches() {
        due.sentence("Promise 4", "4 how many ATTACHES");
        FugueNotes x = new FugueNotes();
        for (int a = 0; a < 8; a++) {
            due.is("so far", x.side(1, 4), a);
            x.attache(a % 6, 1);
        }
        due.is("eight", x.side(1, 4), 8);
        due.is("the other none", x.side(0, 4), 0);
        x.set(3, 1, 0);
        due.is("seven", x.side(1, 4), 7);
        due.is("the other one", x.side(0, 4), 1);
    }

    private static void sideBeyond() {
        due.sentence("Promise 4", "4 how many ATTACHES. BEYOND.");
        FugueNotes x = new FugueNotes();
        due.bounds("side", v -> x.side(v, 0), 0, 1);
        due.bounds("what", v -> x.side(0, v), 0, 4);
        due.is("BEYOND", x.status(0), 12);
        due.is("no other one", x.status(-1), 12);
    }
}
