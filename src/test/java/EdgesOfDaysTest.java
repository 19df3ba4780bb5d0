/** Promises 11 to 17: each sentence that names a boundary, by itself. */
public final class EdgesOfDaysTest {
    private static final int[] NO_TONES = {};
    private static final int[] TWELVE = {7, 2, 11, 0, 5, 9, 1, 10, 3, 8, 4, 6};
    private static final int[] TWELVE_WIDE = {0, 6, 0, 6, 0, 6, 0, 6, 0, 6, 0, 6};
    private static final Due due = new Due();

    public static void main(String[] args) {
        daysOneToSixty();
        daysTension();
        daysState();
        daysOrder();
        nowDay();
        nowSide();
        nowTurn();
        nowHome();
        nowAlike();
        nowUnlike();
        nowBeyond();
        onTones();
        onBeyond();
        onNone();
        onOrder();
        tensionOn();
        tensionBeyond();
        homeAtOnce();
        homeOnThe200thDay();
        homeFirst();
        homeBeyond();
        homeNone();
        alikeAtOnce();
        alikeOnThe200thDay();
        alikeNone();
        againNotAtOnce();
        againOnThe200thDay();
        againBehindADayOnWhichItWasNot();
        againBeyond();
        againNone();
        due.end();
    }

    /** Side 0 answers one tone higher, side 1 as it hears. */
    private static FugueNotes climbing(int tone) {
        int[][] attaches = {{0, 0, 1, 0}, {0, 1, 0, 0}};
        return Due.affair(0, attaches, NO_TONES, new int[] {tone});
    }

    private static void daysOneToSixty() {
        due.sentence("Promise 11", "n DAYS go (1 to 60)");
        FugueNotes x = new FugueNotes();
        due.bounds("n", v -> x.days(v), 1, 60);
        due.is("61 days have gone", x.now(0), 61);
        due.is("BEYOND", x.status(0), 6);
        FugueNotes y = climbing(0);
        y.days(60);
        due.tuneIs("30 times one higher", y, 0, 6);
        due.is("wrote", y.of(0, 4), 30);
        due.is("wrote", y.of(1, 4), 30);
    }

    private static void daysTension() {
        due.sentence("Promise 11", "TENSION of both TUNES together then");
        FugueNotes x = new FugueNotes();
        due.is("of none", x.days(1), 0);
        Due.tune(x, 1, TWELVE_WIDE);
        due.is("of one", x.days(1), 11);
        Due.tune(x, 0, TWELVE_WIDE);
        due.is("of both", x.days(1), 22);
        int[][] attaches = {{0, 0, 0, 0}};
        due.is("behind the days, not ahead of them", Due.affair(0, attaches, NO_TONES, TWELVE_WIDE).days(1), 22);
    }

    private static void daysState() {
        due.sentence("Promise 11", "STATE: DAY would be above 9999.");
        FugueNotes x = Due.atDay(9940);
        due.is("10000", x.days(60), Due.STATE);
        due.is("still", x.now(0), 9940);
        due.is("9999", x.days(59), 0);
        due.is("now", x.now(0), 9999);
        due.is("10000", x.days(1), Due.STATE);
        due.is("far above", x.days(60), Due.STATE);
        due.is("still", x.now(0), 9999);
        due.is("STATE", x.status(4), 3);
        due.is("no other one", x.status(-1), 3);
        due.is("60 days to the last", Due.atDay(9939).days(60), 0);
    }

    private static void daysOrder() {
        due.sentence("Promise 11", "BEYOND. STATE: DAY would be above 9999.");
        FugueNotes x = Due.atDay(9999);
        due.is("0", x.days(0), Due.BEYOND);
        due.is("61", x.days(61), Due.BEYOND);
        due.is("the greatest", x.days(Integer.MAX_VALUE), Due.BEYOND);
    }

    private static void nowDay() {
        due.sentence("Promise 12", "What 0 DAY");
        due.is("0", new FugueNotes().now(0), 0);
        due.is("9999", Due.atDay(9999).now(0), 9999);
    }

    private static void nowSide() {
        due.sentence("Promise 12", "1 the SIDE that writes");
        due.is("on 0", new FugueNotes().now(1), 0);
        due.is("on 1", Due.atDay(1).now(1), 1);
        due.is("on 9998", Due.atDay(9998).now(1), 0);
        due.is("on 9999", Due.atDay(9999).now(1), 1);
    }

    private static void nowTurn() {
        due.sentence("Promise 12", "2 the ATTACHE whose turn it is (-1: none)");
        FugueNotes x = new FugueNotes();
        due.is("no attaches", x.now(2), -1);
        x.attache(0, 1);
        due.is("none of this side", x.now(2), -1);
        x.attache(0, 0);
        due.is("number 1", x.now(2), 1);
        x.set(0, 1, 0);
        due.is("number 0", x.now(2), 0);
        x.days(1);
        due.is("none of side 1", x.now(2), -1);
        due.is("no finding", x.status(-1), 0);
    }

    private static void nowHome() {
        due.sentence("Promise 12", "3 SIDES that are HOME, as a set");
        int[][] tunes = {NO_TONES, {0}, {1}, {1, 0}, {0, 1}};
        for (int[] one : tunes) {
            for (int[] other : tunes) {
                FugueNotes x = new FugueNotes();
                Due.tune(x, 0, one);
                Due.tune(x, 1, other);
                due.is("as both tell", x.now(3), x.side(0, 2) + 2 * x.side(1, 2));
            }
        }
        FugueNotes x = new FugueNotes();
        due.is("neither", x.now(3), 0);
        Due.tune(x, 1, 5, 0);
        due.is("side 1", x.now(3), 2);
        Due.tune(x, 0, 0);
        due.is("both", x.now(3), 3);
        x.tune(1, 0, 0);
        due.is("side 0", x.now(3), 1);
    }

    private static void nowAlike() {
        due.sentence("Promise 12", "4 1 if both are ALIKE, else 0");
        FugueNotes x = new FugueNotes();
        due.is("of none", x.now(4), 0);
        Due.tune(x, 0, 11);
        Due.tune(x, 1, 11);
        due.is("of one", x.now(4), 1);
        Due.tune(x, 1, 11, 11);
        due.is("of one and two", x.now(4), 0);
    }

    private static void nowUnlike() {
        due.sentence("Promise 12", "5 at how many PLACES the TUNES are unlike "
                + "(those that one has beyond the other, too)");
        FugueNotes x = new FugueNotes();
        due.is("none and none", x.now(5), 0);
        Due.tune(x, 0, TWELVE);
        due.is("twelve and none", x.now(5), 12);
        Due.tune(x, 1, TWELVE);
        due.is("the same", x.now(5), 0);
        x.tune(1, 11, Due.tones(TWELVE));
        due.is("twelve and eleven", x.now(5), 1);
        Due.tune(x, 1, 6, 4, 8, 3, 10, 1, 9, 5, 0, 11, 2, 7);
        due.is("all unlike", x.now(5), 12);
        x.tune(0, 0, 0);
        due.is("none and twelve", x.now(5), 12);
        Due.tune(x, 0, 6);
        due.is("one and twelve", x.now(5), 11);
    }

    private static void nowBeyond() {
        due.sentence("Promise 12", "too). BEYOND.");
        FugueNotes x = new FugueNotes();
        due.bounds("what", v -> x.now(v), 0, 5);
        due.is("BEYOND", x.status(0), 6);
        due.is("no other one", x.status(-1), 6);
    }

    private static void onTones() {
        due.sentence("Promise 13", "TONE i (0 to 11) of the TUNE of a SIDE ON n DAYS (0 to 60).");
        int[][] attaches = {{0, 0, 1, 0}, {0, 1, 0, 0}};
        FugueNotes x = Due.affair(0, attaches, new int[] {5}, TWELVE);
        due.is("0 on", x.on(1, 11, 0), 6);
        due.is("0 on, the other", x.on(0, 0, 0), 5);
        due.is("1 on", x.on(0, 11, 1), 7);
        due.is("1 on, the other as it was", x.on(1, 0, 1), 7);
        due.is("60 on", x.on(1, 11, 60), 0);
        due.is("60 on, the first", x.on(0, 0, 60), 1);
    }

    private static void onBeyond() {
        due.sentence("Promise 13", "ON n DAYS (0 to 60). BEYOND.");
        int[][] attaches = {{0, 0, 1, 0}, {0, 1, 0, 0}};
        FugueNotes x = Due.affair(0, attaches, TWELVE, TWELVE);
        due.bounds("side", v -> x.on(v, 0, 0), 0, 1);
        due.bounds("i", v -> x.on(0, v, 0), 0, 11);
        due.bounds("n", v -> x.on(0, 0, v), 0, 60);
        due.is("BEYOND", x.status(0), 18);
        due.is("no other one", x.status(-1), 18);
    }

    private static void onNone() {
        due.sentence("Promise 13", "NONE: it has not so many.");
        int[][] attaches = {{3, 0, 0, 0}};
        FugueNotes x = Due.affair(0, attaches, new int[] {1}, TWELVE);
        due.is("0 on, of one", x.on(0, 1, 0), Due.NONE);
        due.is("1 on, the last of eleven", x.on(0, 10, 1), 7);
        due.is("1 on, of eleven", x.on(0, 11, 1), Due.NONE);
        due.is("the other has twelve", x.on(1, 11, 60), 6);
        due.is("of none", new FugueNotes().on(0, 0, 60), Due.NONE);
        due.is("NONE", x.status(3), 2);
    }

    private static void onOrder() {
        due.sentence("Promise 13", "BEYOND. NONE: it has not so many.");
        FugueNotes x = new FugueNotes();
        due.is("no side, none", x.on(2, 0, 0), Due.BEYOND);
        due.is("no place, none", x.on(0, 12, 0), Due.BEYOND);
        due.is("below 0, none", x.on(0, -1, 0), Due.BEYOND);
        due.is("too many days, none", x.on(0, 0, 61), Due.BEYOND);
        due.is("none", x.on(0, 11, 60), Due.NONE);
    }

    private static void tensionOn() {
        due.sentence("Promise 14", "TENSION of a SIDE's TUNE ON n DAYS (0 to 60).");
        int[][] attaches = {{3, 0, 0, 0}, {0, 1, 0, 0b10}};
        FugueNotes x = Due.affair(0, attaches, NO_TONES, TWELVE_WIDE);
        due.is("of none", x.tension(0, 0), 0);
        due.is("0 on", x.tension(1, 0), 11);
        due.is("1 on, the other as it was", x.tension(1, 1), 11);
        due.is("1 on, held", x.tension(0, 1), 0);
        due.is("2 on, blotted at 1", x.tension(1, 2), 2);
        due.is("60 on", x.tension(1, 60), 2);
        due.is("60 on, held", x.tension(0, 60), 0);
    }

    private static void tensionBeyond() {
        due.sentence("Promise 14", "TENSION of a SIDE's TUNE ON n DAYS (0 to 60). BEYOND.");
        FugueNotes x = new FugueNotes();
        due.bounds("side", v -> x.tension(v, 0), 0, 1);
        due.bounds("n", v -> x.tension(0, v), 0, 60);
        due.is("BEYOND", x.status(0), 12);
        due.is("no other one", x.status(-1), 12);
    }

    private static void homeAtOnce() {
        due.sentence("Promise 15", "In how many DAYS (0 to 200) ON a SIDE is HOME first.");
        FugueNotes x = climbing(0);
        due.is("0", x.home(1), 0);
        Due.tune(x, 1, 11);
        due.is("1", x.home(0), 1);
        due.is("2", x.home(1), 2);
    }

    /** The affair was found by a search: none so slow can be told in few words. */
    private static void homeOnThe200thDay() {
        due.sentence("Promise 15", "(0 to 200)");
        int[][] attaches = {
            {0, 0, 5, 0}, {5, 1, 7, 0}, {5, 0, 6, 0}, {4, 1, 8, 0}, {5, 1, 1, 3}, {1, 1, 9, 0}, {0, 0, 2, 0},
        };
        FugueNotes x = Due.affair(0, attaches, new int[] {4}, new int[] {9});
        due.is("in 201 days", x.home(0), Due.NONE);
        x.days(1);
        due.is("in 200 days", x.home(0), 200);
        x.days(1);
        due.is("in 199 days", x.home(0), 199);
        x.days(60);
        due.is("in 139 days", x.home(0), 139);
        x.days(60);
        x.days(60);
        x.days(19);
        due.is("on that day", x.home(0), 0);
    }

    private static void homeFirst() {
        due.sentence("Promise 15", "is HOME first");
        // One higher each second day: home in 1, 25, 49, .. days.
        due.is("of many the first", climbing(11).home(0), 1);
        due.is("the longest", climbing(0).home(0), 23);
    }

    private static void homeBeyond() {
        due.sentence("Promise 15", "BEYOND. NONE.");
        FugueNotes x = climbing(4);
        due.bounds("side", v -> x.home(v), 0, 1);
        due.is("BEYOND", x.status(-1), 6);
        FugueNotes y = new FugueNotes();
        due.is("no side, never", y.home(2), Due.BEYOND);
    }

    private static void homeNone() {
        due.sentence("Promise 15", "NONE.");
        FugueNotes x = new FugueNotes();
        due.is("no tune", x.home(0), Due.NONE);
        Due.tune(x, 0, 0, 1);
        due.is("none writes", x.home(0), Due.NONE);
        x.attache(0, 0);
        due.is("to no tune", x.home(0), Due.NONE);
        due.is("NONE", x.status(3), 3);
        due.is("no other one", x.status(-1), 3);
    }

    private static void alikeAtOnce() {
        due.sentence("Promise 16", "In how many DAYS (0 to 200) ON both are ALIKE first.");
        int[][] attaches = {{0, 0, 0, 0}};
        FugueNotes x = Due.affair(0, attaches, new int[] {1}, new int[] {1});
        due.is("0", x.alike(), 0);
        Due.tune(x, 0, 2);
        due.is("1", x.alike(), 1);
        x.days(1);
        due.is("on that day", x.alike(), 0);
        Due.tune(x, 0, 2);
        due.is("2", x.alike(), 2);
    }

    /** Found by a search as well. */
    private static void alikeOnThe200thDay() {
        due.sentence("Promise 16", "(0 to 200)");
        int[][] attaches = {
            {4, 0, 3, 0}, {5, 1, 2, 14}, {1, 0, 10, 0}, {0, 0, 11, 0}, {1, 1, 2, 0}, {0, 0, 2, 0}, {5, 0, 5, 0},
        };
        FugueNotes x = Due.affair(0, attaches, new int[] {0, 8}, new int[] {7, 6});
        due.is("in 201 days", x.alike(), Due.NONE);
        x.days(1);
        due.is("in 200 days", x.alike(), 200);
        x.days(1);
        due.is("in 199 days", x.alike(), 199);
    }

    private static void alikeNone() {
        due.sentence("Promise 16", "NONE.");
        FugueNotes x = new FugueNotes();
        due.is("no tunes are not alike", x.alike(), Due.NONE);
        Due.tune(x, 0, 1, 2);
        due.is("one and none", x.alike(), Due.NONE);
        Due.tune(x, 1, 1);
        due.is("a begin of the other", x.alike(), Due.NONE);
        due.is("NONE", x.status(3), 3);
        due.is("no other one", x.status(-1), 3);
    }

    private static void againNotAtOnce() {
        due.sentence("Promise 17", "In how many DAYS (1 to 200) ON a SIDE's TUNE is first what it is now again");
        // Key 6: on the first day another, behind the third the same.
        int[][] attaches = {{0, 0, 6, 0}, {0, 1, 0, 0}};
        FugueNotes x = Due.affair(0, attaches, new int[] {4}, new int[] {4});
        due.is("the soonest there is", x.again(0), 3);
        due.is("side 1", x.again(1), 4);
        x.days(1);
        due.is("what it is now", x.again(0), 4);
        due.is("side 1", x.again(1), 3);
        FugueNotes y = Due.affair(0, attaches, new int[] {1, 4}, new int[] {4});
        due.is("of as many tones alone", y.again(0), Due.NONE);
    }

    /** Found by a search as well. */
    private static void againOnThe200thDay() {
        due.sentence("Promise 17", "(1 to 200)");
        int[][] in200 = {
            {5, 0, 10, 0}, {1, 1, 9, 0}, {0, 0, 6, 0}, {4, 0, 6, 0}, {2, 0, 0, 0}, {0, 1, 5, 13}, {0, 1, 11, 15},
            {1, 0, 7, 0},
        };
        due.is("in 200 days", Due.affair(0, in200, new int[] {11, 1}, new int[] {1, 9}).again(1), 200);
        int[][] in201 = {
            {2, 0, 3, 0}, {0, 1, 6, 11}, {5, 1, 0, 0}, {2, 0, 3, 0}, {1, 0, 6, 5}, {5, 1, 10, 0}, {1, 1, 2, 14},
        };
        FugueNotes x = Due.affair(0, in201, new int[] {10, 5}, new int[] {3, 0});
        due.is("in 201 days", x.again(0), Due.NONE);
        for (int day = 0; day < 201; day++) {
            x.days(1);
        }
        due.tuneIs("it is so then", x, 0, 10, 5);
    }

    private static void againBehindADayOnWhichItWasNot() {
        due.sentence("Promise 17", "behind a DAY on which it was not");
        int[][] attaches = {{0, 1, 0, 0}, {0, 1, 1, 0}};
        FugueNotes x = Due.affair(0, attaches, new int[] {4}, new int[] {4});
        // Day 1 writes 4 as it was, day 3 writes 5, day 5 writes 4 again.
        due.is("side 1", x.again(1), 6);
        due.is("what always stays", x.again(0), Due.NONE);
        x.days(4);
        due.is("now it is 5", x.again(1), 4);
    }

    private static void againBeyond() {
        due.sentence("Promise 17", "on which it was not. BEYOND.");
        FugueNotes x = climbing(4);
        due.bounds("side", v -> x.again(v), 0, 1);
        due.is("BEYOND", x.status(0), 6);
        due.is("no side, never", new FugueNotes().again(-1), Due.BEYOND);
    }

    private static void againNone() {
        due.sentence("Promise 17", "BEYOND. NONE.");
        FugueNotes x = new FugueNotes();
        due.is("no tune stays none", x.again(0), Due.NONE);
        Due.tune(x, 0, 3);
        due.is("a tune stays", x.again(0), Due.NONE);
        x.attache(0, 1);
        due.is("no tune becomes one, never none again", x.again(1), Due.NONE);
        due.is("NONE", x.status(3), 3);
        due.is("no other one", x.status(-1), 3);
    }
}
