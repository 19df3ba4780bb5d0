/** Promises 1 to 4: a new object, tune, tone, side. */
public final class TunesTest {
    private static final Due due = new Due();

    public static void main(String[] args) {
        newObject();
        tune();
        tone();
        side();
        due.end();
    }

    private static void newObject() {
        FugueNotes x = new FugueNotes();
        for (int side = 0; side < 2; side++) {
            due.is("new side(" + side + ", 0)", x.side(side, 0), 0);
            due.is("new side(" + side + ", 1)", x.side(side, 1), 0);
            due.is("new side(" + side + ", 2)", x.side(side, 2), 0);
            due.is("new side(" + side + ", 3)", x.side(side, 3), 0);
            due.is("new side(" + side + ", 4)", x.side(side, 4), 0);
        }
        for (int what = 0; what < 4; what++) {
            due.is("new count(" + what + ")", x.count(what), 0);
        }
        due.is("new now(0)", x.now(0), 0);
        due.is("new now(1)", x.now(1), 0);
        due.is("new now(2)", x.now(2), -1);
        for (int which = -1; which < 7; which++) {
            due.is("new status(" + which + ")", x.status(which), 0);
        }
        due.is("new tear()", x.tear(), 0);
        due.is("new undo()", x.undo(), Due.NONE);
        for (int s = 0; s < 4; s++) {
            due.is("new write(" + s + ", 0, 1)", x.write(s, 0, 1), Due.MISSING);
        }
    }

    private static void tune() {
        FugueNotes x = new FugueNotes();
        due.is("tune of five", Due.tune(x, 0, 0, 4, 14, 3, 7), 0);
        due.tuneIs("by rests of 12", x, 0, 0, 4, 2, 3, 7);
        due.is("tune of twelve", x.tune(1, 12, 0x1234_BA98_7654_3210L), 0);
        due.tuneIs("twelve", x, 1, 0, 1, 2, 3, 4, 5, 6, 7, 8, 9, 10, 11);
        due.is("tune of all bits", x.tune(1, 12, -1L), 12);
        due.tuneIs("all bits", x, 1, 3, 3, 3, 3, 3, 3, 3, 3, 3, 3, 3, 3);
        due.is("tune of 12 and 13", Due.tune(x, 1, 12, 13), 12);
        due.tuneIs("12 and 13", x, 1, 0, 1);
        due.is("tune below 0 side", x.tune(-1, 1, 1), Due.BEYOND);
        due.is("tune side 2", x.tune(2, 1, 1), Due.BEYOND);
        due.is("tune n -1", x.tune(0, -1, 1), Due.BEYOND);
        due.is("tune n 13", x.tune(0, 13, 1), Due.BEYOND);
        due.tuneIs("wrong ones change nothing", x, 0, 0, 4, 2, 3, 7);
        due.is("tune of none", x.tune(0, 0, 5), 5);
        due.tuneIs("none", x, 0);
        due.is("status(0)", x.status(0), 4);
        due.is("status(-1)", x.status(-1), 4);
    }

    private static void tone() {
        FugueNotes x = new FugueNotes();
        Due.tune(x, 1, 9, 8);
        due.is("tone(1, 0)", x.tone(1, 0), 9);
        due.is("tone(1, 1)", x.tone(1, 1), 8);
        due.is("tone(1, 2)", x.tone(1, 2), Due.NONE);
        due.is("tone(1, 12)", x.tone(1, 12), Due.NONE);
        due.is("tone(1, max)", x.tone(1, Integer.MAX_VALUE), Due.NONE);
        due.is("tone(0, 0)", x.tone(0, 0), Due.NONE);
        due.is("tone(1, -1)", x.tone(1, -1), Due.BEYOND);
        due.is("tone(1, min)", x.tone(1, Integer.MIN_VALUE), Due.BEYOND);
        due.is("tone(2, 0)", x.tone(2, 0), Due.BEYOND);
        due.is("tone(-1, 0)", x.tone(-1, 0), Due.BEYOND);
        due.is("status(0)", x.status(0), 4);
        due.is("status(3)", x.status(3), 4);
    }

    private static void side() {
        FugueNotes x = new FugueNotes();
        Due.tune(x, 0, 0, 4, 2, 3, 7);
        due.is("side(0, 0)", x.side(0, 0), 5);
        due.is("side(0, 1)", x.side(0, 1), 2);
        due.is("side(0, 2)", x.side(0, 2), 0);
        due.is("side(0, 3)", x.side(0, 3), 0b10011101);
        // From 3 to 11 are 4 steps and from 1 to 10 are 3, round the nearer way.
        Due.tune(x, 0, 0, 3, 11, 5, 1, 10);
        due.is("leaps 3 4 6 4 3", x.side(0, 1), 3);
        // From 0 to 8 are 4 steps, from 8 to 11 are 3, from 11 to 2 are 3, from 2 to 9 are 5.
        Due.tune(x, 0, 0, 8, 11, 2, 9);
        due.is("leaps 4 3 3 5", x.side(0, 1), 2);
        Due.tune(x, 0, 0);
        due.is("one tone 0 is home", x.side(0, 2), 1);
        Due.tune(x, 0, 0, 1);
        due.is("last tone 1 isn't home", x.side(0, 2), 0);
        Due.tune(x, 0, 11, 11, 0);
        due.is("last tone 0 is home", x.side(0, 2), 1);
        due.is("set of 0 and 11", x.side(0, 3), 2049);
        x.attache(0, 1);
        x.attache(3, 1);
        x.attache(2, 0);
        due.is("side(0, 4)", x.side(0, 4), 1);
        due.is("side(1, 4)", x.side(1, 4), 2);
        due.is("side(0, 5)", x.side(0, 5), Due.BEYOND);
        due.is("side(0, -1)", x.side(0, -1), Due.BEYOND);
        due.is("side(2, 0)", x.side(2, 0), Due.BEYOND);
        due.is("side(-1, 0)", x.side(-1, 0), Due.BEYOND);
        due.is("status(0)", x.status(0), 4);
    }
}
