/** Promises 5 to 10: each sentence that names a boundary, by itself. */
public final class EdgesOfAttachesTest {
    private static final int[] NO_TONES = {};
    private static final int[] TWELVE = {7, 2, 11, 0, 5, 9, 1, 10, 3, 8, 4, 6};
    private static final Due due = new Due();

    public static void main(String[] args) {
        attacheNumbers();
        attacheBeyond();
        attacheFull();
        attacheOrder();
        ofAtFirst();
        ofLong();
        ofBeyond();
        answerToTheOtherSide();
        answerBeyond();
        answerNone();
        answerOrder();
        setBecomes();
        setSide();
        setKey();
        setBlots();
        setWrote();
        setBeyond();
        turnBecomes();
        turnToTheSame();
        turnBeyond();
        asKey();
        asBeyond();
        asKind();
        asOrder();
        due.end();
    }

    private static FugueNotes one(int kind, int side) {
        FugueNotes x = new FugueNotes();
        x.attache(kind, side);
        return x;
    }

    private static FugueNotes eight() {
        FugueNotes x = new FugueNotes();
        for (int a = 0; a < 8; a++) {
            x.attache(a % 6, a % 2);
        }
        return x;
    }

    private static void attacheNumbers() {
        due.sentence("Promise 5", "A new ATTACHE of a SIDE: its number.");
        FugueNotes x = new FugueNotes();
        for (int a = 0; a < 8; a++) {
            due.is("number", x.attache(a % 6, a % 2), a);
            due.is("kind", x.of(a, 0), a % 6);
            due.is("side", x.of(a, 1), a % 2);
        }
    }

    private static void attacheBeyond() {
        due.sentence("Promise 5", "BEYOND: kind, side.");
        FugueNotes x = new FugueNotes();
        due.bounds("kind", v -> x.attache(v, 0), 0, 5);
        due.bounds("side", v -> x.attache(0, v), 0, 1);
        due.is("only those that are taken came", x.count(0), 4);
        due.is("BEYOND", x.status(0), 12);
    }

    private static void attacheFull() {
        due.sentence("Promise 5", "FULL.");
        FugueNotes x = new FugueNotes();
        for (int a = 0; a < 7; a++) {
            x.attache(0, 0);
        }
        due.is("an 8th", x.attache(5, 1), 7);
        due.is("a 9th", x.attache(5, 1), Due.FULL);
        due.is("a 9th of the other side", x.attache(0, 0), Due.FULL);
        due.is("still eight", x.count(0), 8);
        due.is("FULL", x.status(1), 2);
        due.is("no other one", x.status(-1), 2);
    }

    private static void attacheOrder() {
        due.sentence("Promise 5", "BEYOND: kind, side. FULL.");
        FugueNotes x = eight();
        due.is("kind and full", x.attache(6, 0), Due.BEYOND);
        due.is("side and full", x.attache(0, -1), Due.BEYOND);
        due.is("full", x.attache(0, 0), Due.FULL);
    }

    private static void ofAtFirst() {
        due.sentence("Promise 6", "what 0 KIND, 1 SIDE, 2 KEY, 3 BLOTS, 4 WROTE");
        FugueNotes x = eight();
        for (int a = 0; a < 8; a++) {
            int[] all = {a % 6, a % 2, 0, 0, 0, 0};
            for (int what = 0; what < 6; what++) {
                due.is("of(" + a + ", " + what + ")", x.of(a, what), all[what]);
            }
        }
    }

    private static void ofLong() {
        due.sentence("Promise 6", "5 LONG now (to the TUNE of the other SIDE)");
        FugueNotes x = one(3, 1);
        due.is("to none", x.of(0, 5), 0);
        x.tune(1, 12, 0);
        due.is("not to its own", x.of(0, 5), 0);
        x.tune(0, 6, 0);
        due.is("six", x.of(0, 5), 6);
        x.tune(0, 7, 0);
        due.is("seven, less 1", x.of(0, 5), 6);
        x.tune(0, 12, 0);
        due.is("twelve, less 1", x.of(0, 5), 11);
        x.turn(0, 5);
        due.is("twelve", x.of(0, 5), 12);
        x.set(0, 1, 0);
        x.tune(1, 1, 0);
        due.is("the other side now", x.of(0, 5), 1);
    }

    private static void ofBeyond() {
        due.sentence("Promise 6", "5 LONG now (to the TUNE of the other SIDE). BEYOND.");
        due.is("of no attaches", new FugueNotes().of(0, 0), Due.BEYOND);
        FugueNotes x = one(0, 0);
        due.bounds("of one", v -> x.of(v, 0), 0, 0);
        due.bounds("what", v -> x.of(0, v), 0, 5);
        FugueNotes y = eight();
        due.bounds("of eight", v -> y.of(v, 5), 0, 7);
        due.is("BEYOND", x.status(-1), 12);
    }

    private static void answerToTheOtherSide() {
        due.sentence("Promise 7", "TONE i of its ANSWER to the TUNE of the other SIDE as it is.");
        int[][] attaches = {{0, 0, 1, 0}, {0, 1, 1, 0}};
        FugueNotes x = Due.affair(0, attaches, new int[] {4}, TWELVE);
        due.is("the first", x.answer(0, 0), 8);
        due.is("the last", x.answer(0, 11), 7);
        due.is("the only one", x.answer(1, 0), 5);
        due.tuneIs("nothing is written", x, 0, 4);
        due.is("wrote", x.of(0, 4), 0);
    }

    private static void answerBeyond() {
        due.sentence("Promise 7", "BEYOND: attache, i below 0.");
        FugueNotes x = eight();
        Due.tune(x, 0, 1);
        Due.tune(x, 1, 1);
        due.bounds("attache", v -> x.answer(v, 0), 0, 7);
        due.is("i -1", x.answer(0, -1), Due.BEYOND);
        due.is("i least", x.answer(0, Integer.MIN_VALUE), Due.BEYOND);
        due.is("of no attaches", new FugueNotes().answer(0, 0), Due.BEYOND);
    }

    private static void answerNone() {
        due.sentence("Promise 7", "NONE: it has not so many.");
        FugueNotes x = one(3, 0);
        due.is("to none", x.answer(0, 0), Due.NONE);
        x.tune(1, 12, 0);
        due.is("the last of eleven", x.answer(0, 10), 0);
        due.is("a pedal's 12th", x.answer(0, 11), Due.NONE);
        x.turn(0, 0);
        due.is("the last of twelve", x.answer(0, 11), 0);
        due.is("a 13th", x.answer(0, 12), Due.NONE);
        due.is("the greatest", x.answer(0, Integer.MAX_VALUE), Due.NONE);
        due.is("NONE", x.status(3), 4);
        due.is("no other one", x.status(-1), 4);
    }

    private static void answerOrder() {
        due.sentence("Promise 7", "BEYOND: attache, i below 0. NONE: it has not so many.");
        FugueNotes x = one(0, 0);
        due.is("no attache, too many", x.answer(1, 99), Due.BEYOND);
        due.is("below 0, to none", x.answer(0, -1), Due.BEYOND);
    }

    private static void setBecomes() {
        due.sentence("Promise 8", "of an ATTACHE becomes v: what it was");
        FugueNotes x = eight();
        int[] values = {0, 1, 7, 2730, 1234};
        for (int what = 1; what <= 4; what++) {
            x.set(7, 1, 0);
            due.is("was " + what, x.set(7, what, values[what]), 0);
            due.is("is " + what, x.of(7, what), values[what]);
            due.is("the same once more " + what, x.set(7, what, values[what]), values[what]);
            due.is("its kind stays", x.of(7, 0), 1);
            due.is("another one stays", x.of(6, what), 0);
        }
    }

    private static void setSide() {
        due.sentence("Promise 8", "SIDE (what 1)");
        FugueNotes x = one(0, 0);
        due.bounds("v", v -> x.set(0, 1, v), 0, 1);
        due.is("is 1", x.of(0, 1), 1);
    }

    private static void setKey() {
        due.sentence("Promise 8", "KEY (2)");
        FugueNotes x = one(0, 0);
        due.bounds("v", v -> x.set(0, 2, v), 0, 11);
        due.is("is 11", x.of(0, 2), 11);
    }

    private static void setBlots() {
        due.sentence("Promise 8", "BLOTS (3; 0 to 4095)");
        FugueNotes x = one(0, 0);
        due.bounds("v", v -> x.set(0, 3, v), 0, 4095);
        due.is("is 4095", x.of(0, 3), 4095);
    }

    /** The document leaves open whether more than 9999 is BEYOND or held; it is taken as BEYOND. */
    private static void setWrote() {
        due.sentence("Promise 8", "WROTE (4)");
        FugueNotes x = one(0, 0);
        due.bounds("v", v -> x.set(0, 4, v), 0, 9999);
        due.is("is 9999", x.of(0, 4), 9999);
    }

    private static void setBeyond() {
        due.sentence("Promise 8", "what it was. BEYOND.");
        FugueNotes x = eight();
        due.bounds("attache", v -> x.set(v, 2, 3), 0, 7);
        due.bounds("what", v -> x.set(0, v, 0), 1, 4);
        due.is("a kind is not set", x.set(0, 0, 1), Due.BEYOND);
        due.is("nor a LONG", x.set(0, 5, 1), Due.BEYOND);
        due.is("of no attaches", new FugueNotes().set(0, 1, 0), Due.BEYOND);
        due.is("BEYOND", x.status(-1), 14);
    }

    private static void turnBecomes() {
        due.sentence("Promise 9", "An ATTACHE becomes one of another KIND: what it was.");
        FugueNotes x = one(0, 1);
        x.set(0, 2, 11);
        x.set(0, 3, 4095);
        x.set(0, 4, 9999);
        int[] kinds = {5, 0, 3, 1, 4, 2, 0};
        int was = 0;
        for (int kind : kinds) {
            due.is("to " + kind, x.turn(0, kind), was);
            due.is("is " + kind, x.of(0, 0), kind);
            was = kind;
        }
        int[] rest = {0, 1, 11, 4095, 9999};
        for (int what = 1; what <= 4; what++) {
            due.is("stays " + what, x.of(0, what), rest[what]);
        }
    }

    /** The document leaves open whether the KIND must be another one; the same one is taken, too. */
    private static void turnToTheSame() {
        due.sentence("Promise 9", "one of another KIND");
        FugueNotes x = one(4, 0);
        due.is("to the same", x.turn(0, 4), 4);
        due.is("no finding", x.status(-1), 0);
    }

    private static void turnBeyond() {
        due.sentence("Promise 9", "what it was. BEYOND.");
        FugueNotes x = eight();
        due.bounds("attache", v -> x.turn(v, 1), 0, 7);
        due.bounds("kind", v -> x.turn(2, v), 0, 5);
        due.is("of no attaches", new FugueNotes().turn(0, 0), Due.BEYOND);
        due.is("BEYOND", x.status(-1), 12);
    }

    private static void asKey() {
        due.sentence("Promise 10", "An ATTACHE as one of a kind: KEY.");
        FugueNotes x = one(5, 0);
        due.is("at first", x.as(0, 5), 0);
        x.set(0, 2, 11);
        due.is("itself", x.as(0, 5), 11);
        due.is("the one above", x.as(0, 2), 11);
        due.is("the topmost", x.as(0, 0), 11);
        x.turn(0, 0);
        due.is("as what it is now", x.as(0, 0), 11);
        due.is("no more what it was", x.as(0, 5), Due.KIND);
    }

    private static void asBeyond() {
        due.sentence("Promise 10", "BEYOND: no such one, kind.");
        FugueNotes x = eight();
        due.bounds("attache", v -> x.as(v, 0), 0, 7);
        due.bounds("kind", v -> x.as(0, v), 0, 5);
        due.is("of no attaches", new FugueNotes().as(0, 0), Due.BEYOND);
        due.is("BEYOND", x.status(0), 12);
    }

    private static void asKind() {
        due.sentence("Promise 10", "KIND: it isn't of that kind, nor of one under it.");
        FugueNotes x = one(1, 0);
        due.is("a mirror is no table", x.as(0, 4), Due.KIND);
        due.is("a mirror is no crab", x.as(0, 2), Due.KIND);
        x.turn(0, 4);
        due.is("a table is a mirror", x.as(0, 1), 0);
        due.is("a table is an attache", x.as(0, 0), 0);
        due.is("a table is no crab", x.as(0, 2), Due.KIND);
        due.is("a table is no pedal", x.as(0, 3), Due.KIND);
        due.is("a table is no tenor", x.as(0, 5), Due.KIND);
        due.is("KIND", x.status(2), 5);
        due.is("no other one", x.status(-1), 5);
    }

    private static void asOrder() {
        due.sentence("Promise 10", "BEYOND: no such one, kind. KIND: it isn't of that kind");
        FugueNotes x = Due.affair(0, new int[][] {{0, 0, 0, 0}}, NO_TONES, NO_TONES);
        due.is("no such one, of no such kind", x.as(1, 6), Due.BEYOND);
        due.is("no such one", x.as(1, 5), Due.BEYOND);
        due.is("no such kind", x.as(0, 6), Due.BEYOND);
        due.is("not of that kind", x.as(0, 5), Due.KIND);
    }
}
