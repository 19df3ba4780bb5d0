/** Promises 5 to 10: attache, of, answer, set, turn, as. */
public final class AttachesTest {
    private static final Due due = new Due();

    public static void main(String[] args) {
        attache();
        of();
        answersOfKinds();
        answersWithKeyAndBlots();
        answerOfPedal();
        answer();
        set();
        turn();
        as();
        due.end();
    }

    private static void attache() {
        FugueNotes x = new FugueNotes();
        due.is("kind -1", x.attache(-1, 0), Due.BEYOND);
        due.is("kind 6", x.attache(6, 0), Due.BEYOND);
        due.is("side -1", x.attache(0, -1), Due.BEYOND);
        due.is("side 2", x.attache(0, 2), Due.BEYOND);
        due.is("none yet", x.count(0), 0);
        for (int a = 0; a < 8; a++) {
            due.is("attache " + a, x.attache(a % 6, a % 2), a);
        }
        due.is("a 9th", x.attache(0, 0), Due.FULL);
        due.is("a wrong 9th", x.attache(6, 0), Due.BEYOND);
        due.is("a 9th of no side", x.attache(0, 2), Due.BEYOND);
        due.is("eight", x.count(0), 8);
        due.is("kind of 7", x.of(7, 0), 1);
        due.is("status(1)", x.status(1), 1);
        due.is("status(0)", x.status(0), 6);
    }

    private static void of() {
        FugueNotes x = new FugueNotes();
        x.attache(3, 1);
        int[] fresh = {3, 1, 0, 0, 0, 0};
        for (int what = 0; what < 6; what++) {
            due.is("of(0, " + what + ")", x.of(0, what), fresh[what]);
        }
        x.set(0, 2, 11);
        x.set(0, 3, 4095);
        x.set(0, 4, 9999);
        Due.tune(x, 0, 1, 2, 3);
        Due.tune(x, 1, 1, 2, 3, 4);
        int[] later = {3, 1, 11, 4095, 9999, 3};
        for (int what = 0; what < 6; what++) {
            due.is("of(0, " + what + ")", x.of(0, what), later[what]);
        }
        due.is("of(0, -1)", x.of(0, -1), Due.BEYOND);
        due.is("of(0, 6)", x.of(0, 6), Due.BEYOND);
        due.is("of(1, 0)", x.of(1, 0), Due.BEYOND);
        due.is("of(-1, 0)", x.of(-1, 0), Due.BEYOND);
        due.is("status(0)", x.status(0), 4);
    }

    private static void answersOfKinds() {
        FugueNotes x = new FugueNotes();
        x.attache(0, 0);
        Due.tune(x, 0, 9, 9);
        Due.tune(x, 1, 1, 4, 2, 11);
        due.answerIs("attache", x, 0, 1, 4, 2, 11);
        x.turn(0, 1);
        due.answerIs("mirror", x, 0, 1, 10, 0, 3);
        x.turn(0, 2);
        due.answerIs("crab", x, 0, 11, 2, 4, 1);
        x.turn(0, 3);
        due.answerIs("pedal", x, 0, 1, 1, 1, 1);
        x.turn(0, 4);
        // Backwards it is 11 2 4 1; twice 11 less each.
        due.answerIs("table", x, 0, 11, 8, 6, 9);
        x.turn(0, 5);
        due.answerIs("tenor", x, 0, 11, 3, 4, 2);
    }

    private static void answersWithKeyAndBlots() {
        FugueNotes x = new FugueNotes();
        x.attache(0, 1);
        Due.tune(x, 0, 0, 5, 11);
        x.set(0, 2, 7);
        due.answerIs("key 7", x, 0, 7, 0, 6);
        x.set(0, 3, 0b101);
        due.answerIs("key 7, blots at 0 and 2", x, 0, 1, 0, 0);
        x.turn(0, 1);
        // Turned about 0 7 1, with key 7: 7 2 8.
        due.answerIs("mirror, key 7, blots", x, 0, 1, 2, 2);
        x.turn(0, 5);
        // Backwards 11 5 0, odd places one more: 11 6 0; with key 7: 6 1 7.
        due.answerIs("tenor, key 7, blots", x, 0, 0, 1, 1);
        x.turn(0, 3);
        due.answerIs("pedal, key 7, blots", x, 0, 1, 7, 1);
    }

    private static void answerOfPedal() {
        FugueNotes x = new FugueNotes();
        x.attache(3, 0);
        x.attache(0, 0);
        int[] lengths = {0, 1, 2, 3, 4, 5, 6, 6, 7, 8, 9, 10, 11};
        for (int n = 0; n <= 12; n++) {
            x.tune(1, n, 2);
            due.is("pedal to " + n, x.of(0, 5), lengths[n]);
            due.is("attache to " + n, x.of(1, 5), n);
        }
        for (int kind = 0; kind < 6; kind++) {
            x.turn(1, kind);
            due.is("kind " + kind + " to 12", x.of(1, 5), kind == 3 ? 11 : 12);
        }
    }

    private static void answer() {
        FugueNotes x = new FugueNotes();
        x.attache(1, 0);
        due.is("to no tune", x.answer(0, 0), Due.NONE);
        Due.tune(x, 1, 5);
        due.is("to one tone", x.answer(0, 0), 5);
        due.is("behind it", x.answer(0, 1), Due.NONE);
        due.is("far behind it", x.answer(0, Integer.MAX_VALUE), Due.NONE);
        due.is("answer(0, -1)", x.answer(0, -1), Due.BEYOND);
        due.is("answer(1, 0)", x.answer(1, 0), Due.BEYOND);
        due.is("answer(-1, 0)", x.answer(-1, 0), Due.BEYOND);
        x.set(0, 1, 1);
        due.is("to the other side", x.answer(0, 0), Due.NONE);
        due.is("status(3)", x.status(3), 4);
        due.is("status(0)", x.status(0), 3);
    }

    private static void set() {
        FugueNotes x = new FugueNotes();
        x.attache(0, 0);
        int[] most = {0, 1, 11, 4095, 9999};
        for (int what = 1; what <= 4; what++) {
            due.is("set " + what + " to its most", x.set(0, what, most[what]), 0);
            due.is("of " + what, x.of(0, what), most[what]);
            due.is("set " + what + " beyond", x.set(0, what, most[what] + 1), Due.BEYOND);
            due.is("set " + what + " below", x.set(0, what, -1), Due.BEYOND);
            due.is("still " + what, x.of(0, what), most[what]);
            due.is("set " + what + " to 0", x.set(0, what, 0), most[what]);
            due.is("then " + what, x.of(0, what), 0);
        }
        due.is("set(0, 0, 0)", x.set(0, 0, 0), Due.BEYOND);
        due.is("set(0, 5, 0)", x.set(0, 5, 0), Due.BEYOND);
        due.is("set(0, -1, 0)", x.set(0, -1, 0), Due.BEYOND);
        due.is("set(1, 1, 0)", x.set(1, 1, 0), Due.BEYOND);
        due.is("set(-1, 1, 0)", x.set(-1, 1, 0), Due.BEYOND);
        due.is("status(0)", x.status(0), 13);
    }

    private static void turn() {
        FugueNotes x = new FugueNotes();
        x.attache(2, 0);
        x.set(0, 2, 5);
        due.is("turn to 5", x.turn(0, 5), 2);
        due.is("turn to the same", x.turn(0, 5), 5);
        due.is("turn to 0", x.turn(0, 0), 5);
        due.is("kind is 0", x.of(0, 0), 0);
        due.is("key stays", x.of(0, 2), 5);
        due.is("turn to 6", x.turn(0, 6), Due.BEYOND);
        due.is("turn to -1", x.turn(0, -1), Due.BEYOND);
        due.is("turn(1, 0)", x.turn(1, 0), Due.BEYOND);
        due.is("turn(-1, 0)", x.turn(-1, 0), Due.BEYOND);
        due.is("status(0)", x.status(0), 4);
    }

    private static void as() {
        FugueNotes x = new FugueNotes();
        String[] above = {"0", "10", "20", "30", "410", "520"};
        for (int kind = 0; kind < 6; kind++) {
            x.attache(kind, 0);
            x.set(kind, 2, kind + 1);
            for (int other = 0; other < 6; other++) {
                boolean isOne = above[kind].indexOf('0' + other) >= 0;
                due.is("kind " + kind + " as " + other, x.as(kind, other), isOne ? kind + 1 : Due.KIND);
            }
        }
        due.is("status(2)", x.status(2), 36 - 13);
        due.is("as(0, 6)", x.as(0, 6), Due.BEYOND);
        due.is("as(0, -1)", x.as(0, -1), Due.BEYOND);
        due.is("as(6, 0)", x.as(6, 0), Due.BEYOND);
        due.is("as(-1, 0)", x.as(-1, 0), Due.BEYOND);
        due.is("status(0)", x.status(0), 4);
    }
}
