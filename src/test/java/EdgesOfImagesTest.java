/** Promises 33 to 37: each sentence that names a boundary, by itself. */
public final class EdgesOfImagesTest {
    private static final int[] NO_TONES = {};
    private static final int[] TWELVE = {7, 2, 11, 0, 5, 9, 1, 10, 3, 8, 4, 6};
    private static final Due due = new Due();

    public static void main(String[] args) {
        imageOfNothing();
        imageOfAll();
        imageOfTheLastDay();
        imageWithoutTheTape();
        undoTheLatest();
        undoHowMany();
        undoNone();
        tear();
        countAttaches();
        countBytes();
        countWrote();
        countBlots();
        countBeyond();
        statusOfEach();
        statusUndoTakesNoneBack();
        statusBeyond();
        statusOfNone();
        due.end();
    }

    private static void imageOfNothing() {
        due.sentence("Promise 33", "All that section 1 tells (THE TAPE not) is kept: 1.");
        FugueNotes x = new FugueNotes();
        due.is("image", x.image(), 1);
        due.is("once more", x.image(), 1);
        for (int a = 0; a < 8; a++) {
            x.attache(a % 6, a % 2);
            x.set(a, 2, 11);
            x.set(a, 3, 4095);
            x.set(a, 4, 9999);
        }
        Due.tune(x, 0, TWELVE);
        Due.tune(x, 1, TWELVE);
        x.days(60);
        due.is("undo", x.undo(), 0);
        due.is("attaches", x.count(0), 0);
        due.is("number 0", x.of(0, 0), Due.BEYOND);
        due.tuneIs("side 0", x, 0);
        due.tuneIs("side 1", x, 1);
        due.is("day", x.now(0), 0);
        due.is("a new one is new", x.attache(2, 1), 0);
        int[] all = {2, 1, 0, 0, 0};
        for (int what = 0; what < 5; what++) {
            due.is("new of(0, " + what + ")", x.of(0, what), all[what]);
        }
    }

    private static void imageOfAll() {
        due.sentence("Promise 33", "All that section 1 tells");
        int[][] attaches = new int[8][4];
        for (int a = 0; a < 8; a++) {
            attaches[a] = new int[] {a % 6, a / 4, 11 - a, 4095 - a};
        }
        FugueNotes x = Due.affair(60, attaches, TWELVE, new int[] {3});
        for (int a = 0; a < 8; a++) {
            x.set(a, 4, 9999 - a);
        }
        due.is("image", x.image(), 1);
        for (int a = 0; a < 8; a++) {
            x.turn(a, 5 - a % 6);
            x.set(a, 1, 1 - a / 4);
            x.set(a, 2, a);
            x.set(a, 3, a);
            x.set(a, 4, a);
        }
        x.tune(0, 1, 5);
        x.tune(1, 12, -1);
        x.days(60);
        due.is("undo", x.undo(), 8);
        for (int a = 0; a < 8; a++) {
            int[] all = {a % 6, a / 4, 11 - a, 4095 - a, 9999 - a};
            for (int what = 0; what < 5; what++) {
                due.is("of(" + a + ", " + what + ")", x.of(a, what), all[what]);
            }
        }
        due.tuneIs("side 0", x, 0, TWELVE);
        due.tuneIs("side 1", x, 1, 3);
        due.is("day", x.now(0), 60);
    }

    private static void imageOfTheLastDay() {
        due.sentence("Promise 33", "is kept: 1");
        FugueNotes x = Due.atDay(9939);
        x.image();
        x.days(60);
        due.is("the last day", x.days(1), Due.STATE);
        x.undo();
        due.is("day", x.now(0), 9939);
        due.is("days go again", x.days(60), 0);
        x.image();
        due.is("at the last day", x.undo(), 0);
        due.is("day", x.now(0), 9999);
    }

    private static void imageWithoutTheTape() {
        due.sentence("Promise 33", "(THE TAPE not)");
        FugueNotes x = new FugueNotes();
        Due.feed(x, "tune 0 ");
        x.image();
        Due.feed(x, "5");
        x.undo();
        due.is("bytes", x.count(1), 8);
        due.is("told", x.affair(), 1);
        due.tuneIs("told", x, 0, 5);
        x.undo();
        due.is("the tape stays empty", x.count(1), 0);
        x.sheet(0, 8, 2);
        x.write(0, 1, 7);
        x.undo();
        due.is("sheets are of section 3", x.write(0, 1, 0), 7);
    }

    private static void undoTheLatest() {
        due.sentence("Promise 34", "It becomes what was kept latest (which stays)");
        FugueNotes x = new FugueNotes();
        Due.tune(x, 0, 1);
        x.image();
        Due.tune(x, 0, 2);
        x.image();
        Due.tune(x, 0, 3);
        for (int again = 0; again < 3; again++) {
            due.is("undo", x.undo(), 0);
            due.tuneIs("the latest", x, 0, 2);
            Due.tune(x, 0, 4);
            x.days(1);
        }
    }

    private static void undoHowMany() {
        due.sentence("Promise 34", "how many ATTACHES");
        FugueNotes x = new FugueNotes();
        x.image();
        due.is("none", x.undo(), 0);
        for (int a = 0; a < 8; a++) {
            x.attache(0, 0);
        }
        due.is("none again", x.undo(), 0);
        for (int a = 0; a < 8; a++) {
            x.attache(0, 0);
        }
        x.image();
        due.is("eight", x.undo(), 8);
        due.is("full again", x.attache(0, 0), Due.FULL);
    }

    private static void undoNone() {
        due.sentence("Promise 34", "NONE: nothing is kept.");
        FugueNotes x = new FugueNotes();
        due.is("at first", x.undo(), Due.NONE);
        Due.tune(x, 0, 4);
        due.is("still", x.undo(), Due.NONE);
        due.tuneIs("nothing changes", x, 0, 4);
        x.image();
        due.is("kept", x.undo(), 0);
        x.tear();
        due.is("torn", x.undo(), Due.NONE);
        due.tuneIs("nothing changes", x, 0, 4);
        due.is("NONE", x.status(3), 3);
        due.is("no other one", x.status(-1), 3);
    }

    private static void tear() {
        due.sentence("Promise 35", "Nothing is kept: 1 if something was, else 0.");
        FugueNotes x = new FugueNotes();
        due.is("at first", x.tear(), 0);
        x.image();
        x.image();
        x.undo();
        Due.tune(x, 0, 4);
        due.is("something", x.tear(), 1);
        due.is("all of it", x.tear(), 0);
        due.tuneIs("what there is stays", x, 0, 4);
        x.image();
        due.is("something anew", x.tear(), 1);
        due.is("no finding", x.status(-1), 0);
    }

    private static void countAttaches() {
        due.sentence("Promise 36", "0 ATTACHES");
        FugueNotes x = new FugueNotes();
        for (int a = 0; a < 8; a++) {
            due.is("so far", x.count(0), a);
            x.attache(0, a % 2);
        }
        x.attache(0, 0);
        due.is("eight", x.count(0), 8);
    }

    private static void countBytes() {
        due.sentence("Promise 36", "1 bytes of THE TAPE");
        FugueNotes x = new FugueNotes();
        due.is("none", x.count(1), 0);
        Due.feed(x, " ".repeat(120));
        due.is("120", x.count(1), 120);
        x.feed(0, 1);
        due.is("still", x.count(1), 120);
        x.affair();
        due.is("none", x.count(1), 0);
    }

    private static void countWrote() {
        due.sentence("Promise 36", "2 WROTE of all together");
        FugueNotes x = Due.affair(0, new int[8][4], NO_TONES, new int[] {1});
        due.is("none", x.count(2), 0);
        for (int a = 0; a < 8; a++) {
            x.set(a, 4, 9999);
        }
        due.is("the most", x.count(2), 79992);
        x.days(60);
        due.is("held", x.count(2), 79992);
        x.set(3, 4, 0);
        x.set(3, 1, 1);
        due.is("of both sides", x.count(2), 69993);
        due.is("of no attaches", new FugueNotes().count(2), 0);
    }

    private static void countBlots() {
        due.sentence("Promise 36", "3 BLOTS of all, counted each");
        FugueNotes x = Due.affair(0, new int[8][4], NO_TONES, NO_TONES);
        due.is("none", x.count(3), 0);
        x.set(7, 3, 1);
        due.is("the first place", x.count(3), 1);
        x.set(0, 3, 2048);
        due.is("the last place, of another", x.count(3), 2);
        for (int a = 0; a < 8; a++) {
            x.set(a, 3, 4095);
        }
        due.is("all", x.count(3), 96);
        due.is("of no attaches", new FugueNotes().count(3), 0);
    }

    private static void countBeyond() {
        due.sentence("Promise 36", "BEYOND: another what.");
        FugueNotes x = new FugueNotes();
        due.bounds("what", v -> x.count(v), 0, 3);
        due.is("BEYOND", x.status(0), 6);
        due.is("no other one", x.status(-1), 6);
    }

    private static void statusOfEach() {
        due.sentence("Promise 37", "which -1: all, 0 to 6: BEYOND to SIZE.");
        FugueNotes x = Due.atDay(9999);
        for (int a = 0; a < 8; a++) {
            x.attache(0, 0);
        }
        // One more of each than of the one before it.
        int[] seen = new int[7];
        for (int round = 0; round < 7; round++) {
            for (int which = 6; which >= round; which--) {
                findOne(x, which);
                seen[which]++;
            }
        }
        int all = 0;
        for (int which = 0; which < 7; which++) {
            due.is("which " + which, x.status(which), which + 1);
            all += seen[which];
        }
        due.is("all", x.status(-1), all);
    }

    private static void findOne(FugueNotes x, int which) {
        switch (which) {
            case 0: x.tone(2, 0); break;
            case 1: x.attache(0, 0); break;
            case 2: x.as(0, 1); break;
            case 3: x.tone(0, 0); break;
            case 4: x.days(1); break;
            case 5: x.write(0, 0, 0); break;
            default: x.sheet(0, 0, -1); break;
        }
    }

    private static void statusUndoTakesNoneBack() {
        due.sentence("Promise 37", "(undo() takes none back)");
        FugueNotes x = new FugueNotes();
        x.image();
        x.tone(2, 0);
        x.tone(0, 0);
        due.is("undo", x.undo(), 0);
        due.is("BEYOND", x.status(0), 1);
        due.is("NONE", x.status(3), 1);
        due.is("all", x.status(-1), 2);
        x.tear();
        x.wipe();
        x.affair();
        due.is("still", x.status(-1), 2);
    }

    private static void statusBeyond() {
        due.sentence("Promise 37", "BEYOND (counted from then on): another one.");
        FugueNotes x = new FugueNotes();
        due.is("-1", x.status(-1), 0);
        due.is("6", x.status(6), 0);
        due.is("-2", x.status(-2), Due.BEYOND);
        due.is("counted", x.status(0), 1);
        due.is("7", x.status(7), Due.BEYOND);
        due.is("counted", x.status(0), 2);
        due.is("the least", x.status(Integer.MIN_VALUE), Due.BEYOND);
        due.is("the greatest", x.status(Integer.MAX_VALUE), Due.BEYOND);
        due.is("all", x.status(-1), 4);
    }

    private static void statusOfNone() {
        due.sentence("Promise 37", "How many acts answered a finding ever");
        FugueNotes x = new FugueNotes();
        x.sheet(0, 64, 1);
        x.write(0, 0, Due.SIZE);
        due.is("a number that looks like one", x.write(0, 0, 0), Due.SIZE);
        due.is("a fault", x.affair(), -1);
        due.is("no turn", x.now(2), -1);
        for (int which = -1; which < 7; which++) {
            due.is("which " + which, x.status(which), 0);
        }
    }
}
