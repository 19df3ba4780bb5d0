import java.util.Map;
import java.util.TreeSet;

/**
 * "one that answers a finding changes nothing but status()", for every act and in states at the limits;
 * that questions change nothing at all; and that acts change only what the document says of them.
 * An object is held against a twin on which the call was not made.
 */
public final class RefusedTest {
    private interface Call {
        long on(FugueNotes x);
    }

    private static final int[] ALL = {States.NEW, States.SOME, States.FULL, States.LAST_DAY};
    private static final int[] WITH_ATTACHES = {States.SOME, States.FULL, States.LAST_DAY};
    private static final Due due = new Due();

    public static void main(String[] args) {
        refusedTunes();
        refusedAttaches();
        refusedDays();
        refusedBest();
        refusedText();
        refusedSheets();
        refusedImages();
        questions();
        tunesAndAttachesChangeOnly();
        daysChangeOnly();
        textChangesOnly();
        sheetsChangeOnly();
        imagesChangeOnly();
        due.end();
    }

    private static boolean isFinding(long answer) {
        return answer >= Due.SIZE && answer <= Due.BEYOND;
    }

    /** What is seen otherwise on one than on the other. */
    private static TreeSet<String> unlike(Map<String, Long> one, Map<String, Long> other) {
        TreeSet<String> names = new TreeSet<>(one.keySet());
        names.addAll(other.keySet());
        names.removeIf(name -> one.containsKey(name) && one.get(name).equals(other.get(name)));
        return names;
    }

    private static void refused(String what, int finding, int[] states, Call call) {
        for (int state : states) {
            String where = what + " (" + States.NAMES[state] + ")";
            FugueNotes x = States.make(state);
            FugueNotes twin = States.make(state);
            due.is(where, call.on(x), finding);
            countedOnce(where, finding, x, twin);
            TreeSet<String> changed = unlike(States.see(x), States.see(twin));
            due.holds(where + " changes " + changed, changed.isEmpty());
        }
    }

    private static void refused(String what, int finding, int state, Call call) {
        refused(what, finding, new int[] {state}, call);
    }

    private static void countedOnce(String where, long finding, FugueNotes x, FugueNotes twin) {
        Map<String, Long> now = States.findings(x);
        Map<String, Long> before = States.findings(twin);
        for (String which : now.keySet()) {
            boolean isIt = which.equals("status -1") || which.equals("status " + (Due.BEYOND - finding));
            due.is(where + ", " + which, now.get(which) - before.get(which), isIt ? 1 : 0);
        }
    }

    private static void refusedTunes() {
        due.sentence("Terms", "one that answers a finding changes nothing but status()");
        refused("tune side", Due.BEYOND, ALL, x -> x.tune(2, 3, 5));
        refused("tune side", Due.BEYOND, ALL, x -> x.tune(-1, 3, 5));
        refused("tune n", Due.BEYOND, ALL, x -> x.tune(0, 13, 5));
        refused("tune n", Due.BEYOND, ALL, x -> x.tune(1, -1, 5));
        refused("tone side", Due.BEYOND, ALL, x -> x.tone(2, 0));
        refused("tone i", Due.BEYOND, ALL, x -> x.tone(0, -1));
        refused("tone of none", Due.NONE, ALL, x -> x.tone(0, 12));
        refused("side", Due.BEYOND, ALL, x -> x.side(2, 0));
        refused("side what", Due.BEYOND, ALL, x -> x.side(0, 5));
    }

    private static void refusedAttaches() {
        due.sentence("Terms", "one that answers a finding changes nothing but status()");
        refused("attache kind", Due.BEYOND, ALL, x -> x.attache(6, 0));
        refused("attache side", Due.BEYOND, ALL, x -> x.attache(0, 2));
        refused("attache", Due.FULL, States.FULL, x -> x.attache(0, 0));
        refused("of", Due.BEYOND, ALL, x -> x.of(8, 0));
        refused("of what", Due.BEYOND, ALL, x -> x.of(0, 6));
        refused("answer", Due.BEYOND, ALL, x -> x.answer(8, 0));
        refused("answer i", Due.BEYOND, ALL, x -> x.answer(0, -1));
        refused("answer of none", Due.NONE, WITH_ATTACHES, x -> x.answer(0, 12));
        refused("set", Due.BEYOND, ALL, x -> x.set(8, 1, 0));
        refused("set what", Due.BEYOND, ALL, x -> x.set(0, 0, 1));
        refused("set what", Due.BEYOND, ALL, x -> x.set(0, 5, 1));
        refused("set side", Due.BEYOND, ALL, x -> x.set(0, 1, 2));
        refused("set key", Due.BEYOND, ALL, x -> x.set(0, 2, 12));
        refused("set blots", Due.BEYOND, ALL, x -> x.set(0, 3, 4096));
        refused("set wrote", Due.BEYOND, ALL, x -> x.set(0, 4, 10000));
        refused("set below", Due.BEYOND, ALL, x -> x.set(0, 4, -1));
        refused("turn", Due.BEYOND, ALL, x -> x.turn(8, 1));
        refused("turn kind", Due.BEYOND, ALL, x -> x.turn(0, 6));
        refused("as", Due.BEYOND, ALL, x -> x.as(8, 0));
        refused("as kind", Due.BEYOND, ALL, x -> x.as(0, -1));
        refused("as another", Due.KIND, WITH_ATTACHES, x -> x.as(0, 5));
    }

    private static void refusedDays() {
        due.sentence("Terms", "one that answers a finding changes nothing but status()");
        refused("days 0", Due.BEYOND, ALL, x -> x.days(0));
        refused("days 61", Due.BEYOND, ALL, x -> x.days(61));
        refused("days 1", Due.STATE, States.LAST_DAY, x -> x.days(1));
        refused("days 60", Due.STATE, States.LAST_DAY, x -> x.days(60));
        refused("now", Due.BEYOND, ALL, x -> x.now(6));
        refused("on side", Due.BEYOND, ALL, x -> x.on(2, 0, 1));
        refused("on i", Due.BEYOND, ALL, x -> x.on(0, 12, 1));
        refused("on n", Due.BEYOND, ALL, x -> x.on(0, 0, 61));
        refused("on none", Due.NONE, new int[] {States.NEW, States.SOME}, x -> x.on(0, 11, 60));
        refused("tension side", Due.BEYOND, ALL, x -> x.tension(2, 1));
        refused("tension n", Due.BEYOND, ALL, x -> x.tension(0, 61));
        refused("home side", Due.BEYOND, ALL, x -> x.home(-1));
        refused("home", Due.NONE, States.NEW, x -> x.home(0));
        refused("alike", Due.NONE, States.NEW, x -> x.alike());
        refused("again side", Due.BEYOND, ALL, x -> x.again(2));
        refused("again", Due.NONE, States.NEW, x -> x.again(1));
    }

    private static void refusedBest() {
        due.sentence("Terms", "one that answers a finding changes nothing but status()");
        refused("key", Due.BEYOND, ALL, x -> x.key(8));
        refused("kind", Due.BEYOND, ALL, x -> x.kind(-1));
        refused("blot", Due.BEYOND, ALL, x -> x.blot(8, 0));
        refused("blot side", Due.BEYOND, ALL, x -> x.blot(0, 2));
        refused("calm", Due.BEYOND, ALL, x -> x.calm(8, 0, 1));
        refused("calm side", Due.BEYOND, ALL, x -> x.calm(0, 2, 1));
        refused("calm n", Due.BEYOND, ALL, x -> x.calm(0, 0, 21));
        refused("swap", Due.NONE, States.NEW, x -> x.swap());
        refused("keys", Due.BEYOND, ALL, x -> x.keys(8, 1));
        refused("keys n", Due.BEYOND, ALL, x -> x.keys(0, 61));
    }

    private static void refusedText() {
        due.sentence("Terms", "one that answers a finding changes nothing but status()");
        refused("feed 0", Due.BEYOND, ALL, x -> x.feed('#', 0));
        refused("feed 5", Due.BEYOND, ALL, x -> x.feed('#', 5));
        refused("feed 1", Due.FULL, States.FULL, x -> x.feed('#', 1));
        refused("feed 4", Due.FULL, States.FULL, x -> x.feed(-1, 4));
    }

    private static void refusedSheets() {
        due.sentence("Terms", "one that answers a finding changes nothing but status()");
        refused("sheet", Due.BEYOND, ALL, x -> x.sheet(4, 8, 1));
        refused("sheet bits", Due.BEYOND, ALL, x -> x.sheet(0, 32, 1));
        refused("sheet below 0", Due.SIZE, ALL, x -> x.sheet(0, 8, -1));
        refused("sheet below 0, missing", Due.SIZE, ALL, x -> x.sheet(0, 0, -1));
        refused("sheet above 40", Due.BEYOND, ALL, x -> x.sheet(0, 64, 41));
        refused("sheet above 40, missing", Due.BEYOND, ALL, x -> x.sheet(0, 0, 41));
        refused("write", Due.BEYOND, ALL, x -> x.write(-1, 0, 9));
        refused("write", Due.MISSING, States.SOME, x -> x.write(3, 0, 9));
        refused("write i", Due.BEYOND, WITH_ATTACHES, x -> x.write(0, 40, 9));
        refused("write i", Due.BEYOND, WITH_ATTACHES, x -> x.write(0, -1, 9));
        refused("copy", Due.BEYOND, ALL, x -> x.copy(4, 0, 0, 0, 1));
        refused("copy", Due.BEYOND, ALL, x -> x.copy(0, 0, 4, 0, 1));
        refused("copy", Due.MISSING, States.SOME, x -> x.copy(3, 0, 0, 0, 1));
        refused("copy", Due.MISSING, States.SOME, x -> x.copy(0, 0, 3, 0, 1));
        refused("copy", Due.KIND, WITH_ATTACHES, x -> x.copy(0, 0, 1, 0, 1));
        refused("copy from", Due.BEYOND, WITH_ATTACHES, x -> x.copy(0, -1, 0, 0, 1));
        refused("copy to", Due.BEYOND, WITH_ATTACHES, x -> x.copy(0, 0, 0, 40, 1));
        refused("copy n", Due.BEYOND, WITH_ATTACHES, x -> x.copy(1, 1, 1, 0, 12));
        refused("lays", Due.BEYOND, ALL, x -> x.lays(4, 0));
        refused("lays", Due.MISSING, States.SOME, x -> x.lays(3, 0));
        refused("lays side", Due.BEYOND, WITH_ATTACHES, x -> x.lays(0, 2));
        refused("book", Due.BEYOND, ALL, x -> x.book(4, 0));
        refused("book", Due.MISSING, States.SOME, x -> x.book(3, 0));
        refused("book side", Due.BEYOND, WITH_ATTACHES, x -> x.book(0, 2));
        refused("read", Due.BEYOND, ALL, x -> x.read(4, 0));
        refused("read", Due.MISSING, States.SOME, x -> x.read(3, 0));
        refused("read attache", Due.BEYOND, WITH_ATTACHES, x -> x.read(0, 8));
    }

    private static void refusedImages() {
        due.sentence("Terms", "one that answers a finding changes nothing but status()");
        refused("undo", Due.NONE, States.NEW, x -> x.undo());
        refused("count", Due.BEYOND, ALL, x -> x.count(4));
        refused("count", Due.BEYOND, ALL, x -> x.count(-1));
        refused("status", Due.BEYOND, ALL, x -> x.status(7));
        refused("status", Due.BEYOND, ALL, x -> x.status(-2));
    }

    /** Where only what begins with one of these words is changed; a finding changes nothing. */
    private static void changesOnly(String what, int[] states, Call call, String... words) {
        for (int state : states) {
            String where = what + " (" + States.NAMES[state] + ")";
            FugueNotes x = States.make(state);
            FugueNotes twin = States.make(state);
            long answer = call.on(x);
            if (isFinding(answer)) {
                countedOnce(where, answer, x, twin);
            } else {
                due.holds(where + " counts none", unlike(States.findings(x), States.findings(twin)).isEmpty());
            }
            TreeSet<String> changed = unlike(States.see(x), States.see(twin));
            due.holds(where + " changes something", words.length == 0 || !changed.isEmpty());
            for (String word : words) {
                changed.removeIf(name -> name.startsWith(word));
            }
            due.holds(where + " changes " + changed + " as well", changed.isEmpty());
        }
    }

    private static void questions() {
        due.sentence("Terms 2", "nothing changes");
        for (int side = 0; side < 2; side++) {
            int s = side;
            changesOnly("tone", ALL, x -> x.tone(s, 0));
            changesOnly("side", ALL, x -> x.side(s, 3));
            changesOnly("on", ALL, x -> x.on(s, 0, 60));
            changesOnly("tension", ALL, x -> x.tension(s, 60));
            changesOnly("home", ALL, x -> x.home(s));
            changesOnly("again", ALL, x -> x.again(s));
            changesOnly("blot", ALL, x -> x.blot(2, s));
            changesOnly("calm", ALL, x -> x.calm(2, s, 20));
        }
        changesOnly("of", ALL, x -> x.of(0, 5));
        changesOnly("answer", ALL, x -> x.answer(0, 1));
        changesOnly("as", ALL, x -> x.as(0, 0));
        changesOnly("now", ALL, x -> x.now(2));
        changesOnly("alike", ALL, x -> x.alike());
        changesOnly("key", ALL, x -> x.key(2));
        changesOnly("kind", ALL, x -> x.kind(2));
        changesOnly("swap", ALL, x -> x.swap());
        changesOnly("keys", ALL, x -> x.keys(2, 60));
        changesOnly("read", ALL, x -> x.read(1, 0));
        changesOnly("count", ALL, x -> x.count(2));
        changesOnly("status", ALL, x -> x.status(-1));
        changesOnly("tear of none", new int[] {States.NEW}, x -> x.tear());
    }

    private static void tunesAndAttachesChangeOnly() {
        due.sentence("Promise 2", "A TUNE becomes n TONES (0 to 12)");
        changesOnly("tune 0", WITH_ATTACHES, x -> x.tune(0, 2, 0x5A), "tune 0");
        changesOnly("tune 1", WITH_ATTACHES, x -> x.tune(1, 0, 0), "tune 1");
        due.sentence("Promise 5", "A new ATTACHE of a SIDE: its number.");
        changesOnly("attache", new int[] {States.SOME, States.LAST_DAY}, x -> x.attache(5, 1), "attaches", "kind of 4",
                "side of 4", "key of 4", "blots of 4", "wrote of 4");
        due.sentence("Promise 8", "of an ATTACHE becomes v: what it was");
        changesOnly("set side", WITH_ATTACHES, x -> x.set(1, 1, 0), "side of 1");
        changesOnly("set key", WITH_ATTACHES, x -> x.set(1, 2, 7), "key of 1");
        changesOnly("set blots", WITH_ATTACHES, x -> x.set(1, 3, 7), "blots of 1");
        changesOnly("set wrote", WITH_ATTACHES, x -> x.set(1, 4, 7), "wrote of 1");
        due.sentence("Promise 9", "An ATTACHE becomes one of another KIND: what it was.");
        changesOnly("turn", WITH_ATTACHES, x -> x.turn(1, 3), "kind of 1");
    }

    private static void daysChangeOnly() {
        due.sentence("Terms 1", "its ANSWER to the TUNE of the other SIDE becomes its own SIDE's TUNE; WROTE is 1 more.");
        // It is day 7 and side 1's second one's turn; in the full one it is number 0's.
        changesOnly("days", new int[] {States.SOME}, x -> x.days(1), "tune 1", "wrote of 2", "day");
        changesOnly("days", new int[] {States.FULL}, x -> x.days(1), "tune 0", "day");
        changesOnly("days", new int[] {States.NEW}, x -> x.days(60), "day");
    }

    private static void textChangesOnly() {
        due.sentence("Promise 24", "THE TAPE gets the n lowest bytes of a number behind it");
        changesOnly("feed", new int[] {States.NEW, States.SOME, States.LAST_DAY}, x -> x.feed('#', 1), "tape");
        due.sentence("Promise 25", "THE TAPE is empty: how many it had.");
        changesOnly("wipe", WITH_ATTACHES, x -> x.wipe(), "tape");
        due.sentence("Promise 26", "whose ITEMS come to what there is, and empty then");
        changesOnly("affair", new int[] {States.SOME, States.LAST_DAY}, x -> x.affair(), "tape", "tune 1", "attaches",
                "kind of 4", "side of 4", "key of 4", "blots of 4", "wrote of 4");
        changesOnly("affair", new int[] {States.FULL}, x -> x.affair(), "tape", "tune 0", "tune 1");
        due.sentence("Promise 26", "(nothing changes but that THE TAPE is empty; no finding)");
        changesOnly("affair", new int[] {States.SOME, States.LAST_DAY}, x -> {
            x.feed('#', 1);
            return x.affair();
        }, "tape");
        changesOnly("affair of nothing", new int[] {States.NEW}, x -> x.affair());
    }

    private static void sheetsChangeOnly() {
        due.sentence("Promise 27", "A sheet has n numbers, all 0, of 8, 16 or 64 bits");
        changesOnly("sheet", WITH_ATTACHES, x -> x.sheet(3, 8, 5), "sheet 3");
        due.sentence("Promise 27", "bits 0: it is MISSING");
        changesOnly("sheet", WITH_ATTACHES, x -> x.sheet(2, 0, 5), "sheet 2", "sheet 3: copied to 2");
        due.sentence("Promise 28", "Number i of a sheet becomes v (its lowest bits): what it was.");
        changesOnly("write", WITH_ATTACHES, x -> x.write(1, 2, 77), "sheet 1: number 2");
        due.sentence("Promise 29", "n numbers of a sheet from one on come to another one from one on");
        changesOnly("copy", WITH_ATTACHES, x -> x.copy(0, 0, 0, 1, 2), "sheet 0: number 1", "sheet 0: number 2");
        due.sentence("Promise 30", "A SIDE's TUNE becomes numbers of a sheet");
        changesOnly("lays", WITH_ATTACHES, x -> x.lays(1, 0), "tune 0");
        changesOnly("lays", WITH_ATTACHES, x -> x.lays(1, 1), "tune 1");
        due.sentence("Promise 31", "comes to a sheet, as many as it has numbers");
        changesOnly("book", WITH_ATTACHES, x -> x.book(0, 1), "sheet 0: number");
    }

    private static void imagesChangeOnly() {
        due.sentence("Promise 33", "All that section 1 tells (THE TAPE not) is kept: 1.");
        // What the tape tells is seen on top of the image, so that it is seen otherwise as well.
        changesOnly("image", WITH_ATTACHES, x -> x.image(), "image", "tape: tune", "tape: attaches");
        due.sentence("Promise 34", "It becomes what was kept latest (which stays)");
        changesOnly("undo", WITH_ATTACHES, x -> x.undo(), "tune", "day", "attaches", "kind", "side", "key", "blots",
                "wrote");
        due.sentence("Promise 35", "Nothing is kept: 1 if something was, else 0.");
        changesOnly("tear", WITH_ATTACHES, x -> x.tear(), "image", "tape: tune", "tape: attaches");
    }
}
