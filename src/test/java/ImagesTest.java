/** Promises 33 to 37: image, undo, tear, count, status. */
public final class ImagesTest {
    private static final Due due = new Due();

    public static void main(String[] args) {
        imageAndUndo();
        whatIsNotKept();
        tear();
        count();
        status();
        due.end();
    }

    private static void imageAndUndo() {
        FugueNotes x = new FugueNotes();
        due.is("nothing kept", x.undo(), Due.NONE);
        x.attache(4, 1);
        x.set(0, 2, 3);
        x.set(0, 3, 5);
        x.set(0, 4, 6);
        Due.tune(x, 0, 1, 2);
        Due.tune(x, 1, 3);
        x.days(1);
        due.is("image", x.image(), 1);
        changeAll(x);
        for (int again = 0; again < 2; again++) {
            due.is("undo", x.undo(), 1);
            int[] all = {4, 1, 3, 5, 6};
            for (int what = 0; what < all.length; what++) {
                due.is("of(0, " + what + ")", x.of(0, what), all[what]);
            }
            due.is("day", x.now(0), 1);
            due.tuneIs("side 0", x, 0, 1, 2);
            due.tuneIs("side 1", x, 1, 3);
            due.is("no second attache", x.of(1, 0), Due.BEYOND);
            changeAll(x);
        }
        due.is("a later image", x.image(), 1);
        x.attache(0, 0);
        due.is("the latest", x.undo(), 2);
        due.is("status stays", x.status(0), 2);
        newOnesBeginAnew();
    }

    /** What an attache was that undo() took away is not what a new one is. */
    private static void newOnesBeginAnew() {
        FugueNotes x = new FugueNotes();
        x.image();
        x.attache(5, 1);
        x.set(0, 2, 4);
        x.set(0, 3, 4);
        x.set(0, 4, 4);
        due.is("undo", x.undo(), 0);
        due.is("none", x.of(0, 0), Due.BEYOND);
        due.is("a new one", x.attache(1, 0), 0);
        int[] all = {1, 0, 0, 0, 0};
        for (int what = 0; what < all.length; what++) {
            due.is("new of(0, " + what + ")", x.of(0, what), all[what]);
        }
    }

    private static void changeAll(FugueNotes x) {
        x.turn(0, 2);
        x.set(0, 1, 0);
        x.set(0, 2, 9);
        x.set(0, 3, 4095);
        x.set(0, 4, 77);
        x.attache(0, 1);
        Due.tune(x, 0, 7, 7, 7);
        Due.tune(x, 1, 8, 8);
        x.days(3);
    }

    private static void whatIsNotKept() {
        FugueNotes x = new FugueNotes();
        x.sheet(0, 8, 2);
        x.feed('a', 1);
        x.image();
        x.sheet(0, 16, 3);
        x.write(0, 2, 4000);
        x.feed('b', 1);
        x.tone(5, 5);
        due.is("undo", x.undo(), 0);
        due.is("the tape stays", x.count(1), 2);
        due.is("sheets stay", x.write(0, 2, 0), 4000);
        due.is("status stays", x.status(0), 1);
    }

    private static void tear() {
        FugueNotes x = new FugueNotes();
        due.is("nothing", x.tear(), 0);
        x.image();
        x.image();
        x.attache(0, 0);
        due.is("something", x.tear(), 1);
        due.is("nothing then", x.tear(), 0);
        due.is("nothing to undo", x.undo(), Due.NONE);
        due.is("what is stays", x.count(0), 1);
        x.image();
        due.is("kept anew", x.undo(), 1);
        due.is("status(3)", x.status(3), 1);
    }

    private static void count() {
        FugueNotes x = new FugueNotes();
        x.attache(0, 0);
        x.attache(1, 1);
        x.set(0, 3, 4095);
        x.set(1, 3, 0b1001);
        x.set(0, 4, 9999);
        x.set(1, 4, 2);
        x.feed(0, 3);
        due.is("count(0)", x.count(0), 2);
        due.is("count(1)", x.count(1), 3);
        due.is("count(2)", x.count(2), 10001);
        due.is("count(3)", x.count(3), 14);
        due.is("count(4)", x.count(4), Due.BEYOND);
        due.is("count(-1)", x.count(-1), Due.BEYOND);
        due.is("status(0)", x.status(0), 2);
    }

    private static void status() {
        FugueNotes x = new FugueNotes();
        x.tone(2, 0);
        x.as(0, 0);
        x.attache(1, 0);
        x.as(0, 2);
        x.tone(0, 0);
        x.undo();
        x.alike();
        x.write(0, 0, 0);
        x.sheet(0, 8, -1);
        x.sheet(1, 0, -1);
        for (int i = 0; i < 30; i++) {
            x.feed(0, 4);
        }
        x.feed(0, 4);
        for (int i = 0; i < 166; i++) {
            x.days(60);
        }
        x.days(60);
        int[] each = {2, 1, 1, 3, 1, 1, 2};
        int all = 0;
        for (int which = 0; which < each.length; which++) {
            due.is("status(" + which + ")", x.status(which), each[which]);
            all += each[which];
        }
        due.is("status(-1)", x.status(-1), all);
        due.is("status(7)", x.status(7), Due.BEYOND);
        due.is("counted from then on", x.status(0), 3);
        due.is("status(-2)", x.status(-2), Due.BEYOND);
        due.is("counted from then on", x.status(-1), all + 2);
        due.is("a fault is no finding", x.affair(), -1);
        due.is("as before", x.status(-1), all + 2);
    }
}
