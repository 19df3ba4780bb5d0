/** Promises 18 to 23: each sentence that names a boundary, by itself. */
public final class EdgesOfBestTest {
    private static final int[] NO_TONES = {};
    private static final int[] TWELVE_WIDE = {0, 6, 0, 6, 0, 6, 0, 6, 0, 6, 0, 6};
    private static final Due due = new Due();

    public static void main(String[] args) {
        keyOfAll();
        keySoonest();
        keyLeast();
        keyOfTheLastOfEight();
        keyBeyond();
        keyNone();
        kindOfAll();
        kindLeast();
        kindWithin100Days();
        kindBeyond();
        kindNone();
        blotOfAllPlaces();
        blotOrNot();
        blotSoonerThanAsItIs();
        blotWithin100Days();
        blotLeast();
        blotBeyond();
        blotNone();
        calmDays();
        calmKeyAndTension();
        calmBeyond();
        swapLesserAndOther();
        swapWithin100Days();
        swapLeast();
        swapOfUnlikeSides();
        swapNone();
        keysOfTwelve();
        keysOnThatDay();
        keysBeyond();
        due.end();
    }

    private static FugueNotes pair(int kind0, int kind1, int... tune1) {
        int[][] attaches = {{kind0, 0, 0, 0}, {kind1, 1, 0, 0}};
        return Due.affair(0, attaches, NO_TONES, tune1);
    }

    private static FugueNotes eightOfSide0(int... tune1) {
        return Due.affair(0, new int[8][4], NO_TONES, tune1);
    }

    private static void keyOfAll() {
        due.sentence("Promise 18", "The KEY (0 to 11) of an ATTACHE with which its SIDE is HOME soonest");
        for (int tone = 0; tone < 12; tone++) {
            due.is("to " + tone, pair(0, 0, tone).key(0), (12 - tone) % 12);
        }
        FugueNotes x = pair(0, 0, 1);
        x.set(0, 2, 5);
        due.is("whatever it has", x.key(0), 11);
        due.is("which stays", x.of(0, 2), 5);
    }

    private static void keySoonest() {
        due.sentence("Promise 18", "is HOME soonest");
        // Key 4 is home in 5 days (4 8 0), key 6 in 3 (6 0), key 0 at once.
        FugueNotes x = pair(0, 0, 0);
        due.is("key 0 in 1 day", x.key(0), 0);
        Due.tune(x, 1, 6);
        due.is("6 is home in 1, others with 3 turns later", x.key(0), 6);
    }

    private static void keyLeast() {
        due.sentence("Promise 18", "of several the least");
        FugueNotes x = pair(0, 0, 1);
        Due.tune(x, 0, 0);
        x.set(0, 2, 7);
        due.is("home already with any", x.key(0), 0);
        // Another one brings it home on the first day, before its own turn.
        int[][] attaches = {{0, 0, 3, 0}, {0, 0, 4, 0}};
        due.is("home before its turn with any", Due.affair(0, attaches, NO_TONES, new int[] {9}).key(1), 0);
    }

    /** A key turns the tune at its ATTACHE's first turn: no key brings it home later than by then. */
    private static void keyOfTheLastOfEight() {
        due.sentence("Promise 18", "(within 100 DAYS)");
        FugueNotes x = eightOfSide0(5);
        due.is("its first turn is on day 14", x.key(7), 7);
        due.is("others", x.key(0), 7);
        x.set(7, 2, 7);
        due.is("home in 15", x.home(0), 15);
    }

    private static void keyBeyond() {
        due.sentence("Promise 18", "of several the least. BEYOND.");
        FugueNotes x = eightOfSide0(5);
        due.bounds("attache", v -> x.key(v), 0, 7);
        due.is("BEYOND", x.status(-1), 6);
        due.is("of no attaches", new FugueNotes().key(0), Due.BEYOND);
    }

    private static void keyNone() {
        due.sentence("Promise 18", "BEYOND. NONE.");
        FugueNotes x = pair(0, 0);
        due.is("no tunes", x.key(0), Due.NONE);
        FugueNotes y = new FugueNotes();
        y.attache(0, 0);
        Due.tune(y, 0, 5);
        due.is("to no tune", y.key(0), Due.NONE);
        due.is("NONE", x.status(3), 1);
        due.is("no other one", x.status(-1), 1);
    }

    private static void kindOfAll() {
        due.sentence("Promise 19", "The KIND as one of which its SIDE is HOME soonest");
        // Each tune is home on the first day as one kind, and as none less than it.
        int[][] tunes = {{5, 0}, {3, 6}, {0, 5}, {4, 6, 2}, {11, 5}};
        int[] kinds = {0, 1, 2, 4, 5};
        for (int i = 0; i < tunes.length; i++) {
            FugueNotes x = pair(3, 0, tunes[i]);
            due.is("kind " + kinds[i], x.kind(0), kinds[i]);
            due.is("its own stays", x.of(0, 0), 3);
            x.turn(0, kinds[i]);
            due.is("home on the first day", x.home(0), 1);
        }
        FugueNotes x = pair(0, 0, 0, 5, 2, 1, 3, 8, 4);
        x.set(0, 3, 1 << 6);
        // A pedal's last place is 5, all the others' is 6, and 6 is blotted.
        due.is("kind 3", x.kind(0), 3);
        due.is("its own stays", x.of(0, 0), 0);
    }

    private static void kindLeast() {
        due.sentence("Promise 19", "of several the least");
        for (int kind = 0; kind < 6; kind++) {
            due.is("to one tone all are alike", pair(kind, 0, 0).kind(0), 0);
        }
        FugueNotes x = pair(5, 0, 3);
        Due.tune(x, 0, 0);
        due.is("home already as any", x.kind(0), 0);
        // Crab and pedal are both home, attache and mirror are not.
        due.is("crab before pedal", pair(3, 0, 0, 5).kind(0), 2);
    }

    private static void kindWithin100Days() {
        due.sentence("Promise 19", "(within 100 DAYS)");
        // To one tone all kinds answer alike, but for their blots. The affair was found by a search.
        int[][] attaches = {
            {2, 0, 11, 0}, {5, 1, 5, 0}, {2, 0, 11, 0}, {5, 1, 9, 0}, {5, 1, 5, 11}, {5, 1, 7, 6}, {3, 0, 1, 0},
            {3, 1, 0, 0},
        };
        FugueNotes x = Due.affair(7, attaches, new int[] {1}, new int[] {4});
        due.is("home in 101", x.home(1), 101);
        due.is("in 101", x.kind(1), Due.NONE);
        x.days(1);
        due.is("home in 100", x.home(1), 100);
        due.is("in 100", x.kind(1), 0);
    }

    private static void kindBeyond() {
        due.sentence("Promise 19", "of several the least. BEYOND.");
        FugueNotes x = eightOfSide0(0);
        due.bounds("attache", v -> x.kind(v), 0, 7);
        due.is("BEYOND", x.status(-1), 6);
        due.is("of no attaches", new FugueNotes().kind(0), Due.BEYOND);
    }

    private static void kindNone() {
        due.sentence("Promise 19", "BEYOND. NONE.");
        FugueNotes x = pair(0, 0);
        due.is("no tunes", x.kind(0), Due.NONE);
        Due.tune(x, 1, 5);
        due.is("one tone that stays", x.kind(0), Due.NONE);
        due.is("NONE", x.status(3), 2);
        due.is("no other one", x.status(-1), 2);
    }

    private static void blotOfAllPlaces() {
        due.sentence("Promise 20", "The PLACE (0 to 11) that an ATTACHE must BLOT");
        for (int n = 1; n <= 12; n++) {
            int[] tune = new int[n];
            tune[n - 1] = 6;
            FugueNotes x = pair(0, 0, tune);
            due.is("of " + n, x.blot(0, 0), n - 1);
            due.is("of " + n + ", for the other side", x.blot(0, 1), n - 1);
            due.is("its own stay", x.of(0, 3), 0);
        }
    }

    private static void blotOrNot() {
        due.sentence("Promise 20", "(or not, if it does)");
        for (int n = 1; n <= 12; n++) {
            FugueNotes x = pair(0, 0, new int[n]);
            Due.tune(x, 0, 1);
            x.set(0, 3, 4095);
            due.is("of " + n, x.blot(0, 0), n - 1);
            due.is("its own stay", x.of(0, 3), 4095);
        }
    }

    private static void blotSoonerThanAsItIs() {
        due.sentence("Promise 20", "sooner than as it is");
        FugueNotes x = pair(0, 0, 0);
        due.is("home already", x.blot(0, 1), Due.NONE);
        due.is("home in 1 as it is", x.blot(0, 0), Due.NONE);
        // One higher each second day: from 6 it is home in 13 days; blotted at side 1, in 13 as well.
        x = pair(0, 0, 5);
        x.set(0, 2, 1);
        due.is("as it is", x.home(0), 13);
        due.is("as soon is no sooner", x.blot(1, 0), Due.NONE);
        due.is("in 1", x.blot(0, 0), 0);
    }

    private static void blotWithin100Days() {
        due.sentence("Promise 20", "so that a SIDE is HOME soonest (within 100 DAYS)");
        int[][] in101 = {
            {1, 0, 5, 0}, {4, 1, 7, 5}, {0, 0, 9, 0}, {1, 0, 10, 0}, {3, 1, 9, 0}, {5, 0, 9, 10}, {4, 1, 6, 0},
        };
        FugueNotes x = Due.affair(7, in101, new int[] {8}, new int[] {8});
        due.is("in 101", x.blot(6, 1), Due.NONE);
        due.is("one day on", onwards(x).blot(6, 1) >= 0 ? 1 : 0, 1);
        int[][] in100 = {
            {4, 0, 5, 0}, {3, 1, 0, 0}, {5, 0, 3, 6}, {5, 0, 4, 3}, {5, 1, 2, 15}, {1, 0, 0, 7}, {5, 0, 0, 0},
        };
        x = Due.affair(2, in100, new int[] {4}, new int[] {10});
        due.is("in 100", x.blot(1, 1), 0);
        x.set(1, 3, 1);
        due.is("home in 100 then", x.home(1), 100);
    }

    private static FugueNotes onwards(FugueNotes x) {
        x.days(1);
        return x;
    }

    private static void blotLeast() {
        due.sentence("Promise 20", "of several the least");
        // Side 1 writes backwards: what is blotted at 0 is last on the third day, and so is what is blotted at 1.
        FugueNotes x = pair(0, 2, 6, 5);
        due.is("never as it is", x.home(0), Due.NONE);
        due.is("0 or 1", x.blot(0, 0), 0);
        for (int place = 0; place < 2; place++) {
            x.set(0, 3, 1 << place);
            due.is("blotted at " + place, x.home(0), 3);
        }
        // As it is in 17 days, blotted at 0 in 5, at 1 in 11.
        int[][] attaches = {{2, 0, 9, 0}, {0, 1, 4, 0}};
        x = Due.affair(0, attaches, new int[] {10, 10}, new int[] {7, 4});
        due.is("the soonest", x.blot(0, 0), 0);
    }

    private static void blotBeyond() {
        due.sentence("Promise 20", "of several the least. BEYOND.");
        FugueNotes x = eightOfSide0(6);
        due.bounds("attache", v -> x.blot(v, 0), 0, 7);
        due.bounds("side", v -> x.blot(0, v), 0, 1);
        due.is("BEYOND", x.status(0), 12);
        due.is("of no attaches", new FugueNotes().blot(0, 0), Due.BEYOND);
    }

    private static void blotNone() {
        due.sentence("Promise 20", "BEYOND. NONE.");
        FugueNotes x = pair(0, 0);
        due.is("no tunes", x.blot(0, 0), Due.NONE);
        Due.tune(x, 1, 6, 5);
        due.is("the last is 5 or 11", x.blot(0, 0), Due.NONE);
        due.is("NONE", x.status(3), 2);
        due.is("no other one", x.status(-1), 2);
    }

    private static void calmDays() {
        due.sentence("Promise 21", "ON n DAYS (0 to 20)");
        int[][] attaches = {{0, 0, 0, 0b1010_1010_1010}, {0, 1, 0, 0}};
        FugueNotes x = Due.affair(0, attaches, new int[] {0, 4}, TWELVE_WIDE);
        due.is("0 on", x.calm(0, 0, 0), 1);
        due.is("0 on, the other", x.calm(0, 1, 0), 11);
        due.is("1 on", x.calm(0, 0, 1), 0);
        due.is("1 on, the other", x.calm(0, 1, 1), 11);
        due.is("2 on, the other", x.calm(0, 1, 2), 0);
        // Side 0 wrote last behind the 19th day, for the 10th time.
        due.is("19 on", x.calm(1, 0, 19), 11);
        due.is("20 on", x.calm(1, 1, 20), 11);
        due.is("20 on", x.calm(1, 0, 20), 11);
    }

    private static void calmKeyAndTension() {
        due.sentence("Promise 21", "100 times that KEY (of several the least), and the TENSION");
        FugueNotes x = pair(4, 5, TWELVE_WIDE);
        x.set(0, 2, 11);
        // A key moves a whole tune, so all are as calm and 0 is the least.
        for (int n = 0; n <= 20; n++) {
            due.is("side 0 " + n + " on", x.calm(0, 0, n), x.tension(0, n));
            due.is("side 1 " + n + " on", x.calm(0, 1, n), x.tension(1, n));
        }
        due.is("its own stays", x.of(0, 2), 11);
        due.is("of none", pair(0, 0).calm(1, 0, 20), 0);
    }

    private static void calmBeyond() {
        due.sentence("Promise 21", "and the TENSION. BEYOND.");
        FugueNotes x = eightOfSide0(6);
        due.bounds("attache", v -> x.calm(v, 0, 0), 0, 7);
        due.bounds("side", v -> x.calm(0, v, 0), 0, 1);
        due.bounds("n", v -> x.calm(0, 0, v), 0, 20);
        due.is("BEYOND", x.status(-1), 18);
        due.is("of no attaches", new FugueNotes().calm(0, 0, 0), Due.BEYOND);
    }

    private static void swapLesserAndOther() {
        due.sentence("Promise 22", "10 times the lesser and the other one");
        due.is("0 and 1", pair(0, 0, 4).swap(), 1);
        // On day 12 the seventh of side 0 writes: 7, whoever it is changed for. Number 6 alone answers alike.
        int[][] attaches = new int[8][4];
        for (int a = 0; a < 8; a++) {
            attaches[a][2] = a == 6 ? 0 : 1;
        }
        attaches[7][1] = 1;
        FugueNotes x = Due.affair(12, attaches, NO_TONES, new int[] {5});
        due.is("6 and 7", x.swap(), 67);
        due.is("sides stay", x.of(7, 1), 1);
        due.is("sides stay", x.of(6, 1), 0);
        x.set(6, 1, 1);
        x.set(7, 1, 0);
        due.is("alike in 2 then", x.alike(), 2);
    }

    private static void swapWithin100Days() {
        due.sentence("Promise 22", "let both be ALIKE soonest (within 100 DAYS)");
        // Both affairs were found by a search.
        int[][] in101 = {{5, 0, 4, 5}, {5, 1, 2, 15}, {5, 0, 8, 13}, {4, 0, 8, 8}, {2, 1, 10, 7}};
        FugueNotes x = Due.affair(0, in101, new int[] {2, 9}, new int[] {5, 6});
        due.is("in 101", x.swap(), Due.NONE);
        due.is("one of them in 101", soonestSwapped(x, 5), 101);
        int[][] in100 = {
            {1, 0, 8, 0}, {0, 1, 2, 0}, {0, 0, 8, 0}, {0, 0, 4, 0}, {1, 1, 2, 0}, {5, 1, 6, 0}, {4, 1, 0, 0},
        };
        x = Due.affair(4, in100, new int[] {9, 9}, new int[] {2, 9});
        int pair = x.swap();
        due.holds("a pair", pair >= 0);
        due.is("all of them in 100", soonestSwapped(x, 7), 100);
        due.is("this one in 100", alikeSwapped(x, pair / 10, pair % 10), 100);
    }

    private static int alikeSwapped(FugueNotes x, int lesser, int other) {
        int side = x.of(lesser, 1);
        int otherSide = x.of(other, 1);
        if (side < 0 || otherSide < 0 || side == otherSide) {
            return Due.NONE;
        }
        x.set(lesser, 1, otherSide);
        x.set(other, 1, side);
        int n = x.alike();
        x.set(lesser, 1, side);
        x.set(other, 1, otherSide);
        return n;
    }

    private static int soonestSwapped(FugueNotes x, int attaches) {
        int soonest = 201;
        for (int lesser = 0; lesser < attaches; lesser++) {
            for (int other = lesser + 1; other < attaches; other++) {
                int n = alikeSwapped(x, lesser, other);
                soonest = n < 0 ? soonest : Math.min(soonest, n);
            }
        }
        return soonest;
    }

    private static void swapLeast() {
        due.sentence("Promise 22", "of several the least");
        int[][] attaches = {{0, 0, 5, 0}, {0, 0, 1, 0}, {0, 1, 1, 0}, {0, 1, 1, 0}};
        FugueNotes x = Due.affair(0, attaches, new int[] {3}, new int[] {3});
        due.is("alike already with any", x.swap(), 2);
        x.set(0, 1, 1);
        x.set(2, 1, 0);
        // Sides are 1 0 0 1 now: 0 and 1, 0 and 2, 1 and 3, 2 and 3 are unlike.
        due.is("0 and 1", x.swap(), 1);
        // Changed 0 and 2: number 1 writes first, and not alike. Changed 1 and 2: number 0 does, alike.
        int[][] three = {{0, 0, 0, 0}, {0, 0, 1, 0}, {0, 1, 5, 0}};
        due.is("the soonest before the least", Due.affair(0, three, new int[] {2}, new int[] {1}).swap(), 12);
    }

    private static void swapOfUnlikeSides() {
        due.sentence("Promise 22", "(of unlike SIDES alone)");
        FugueNotes x = Due.affair(0, new int[8][4], new int[] {3}, new int[] {3});
        due.is("alike, all of one side", x.swap(), Due.NONE);
        x.set(7, 1, 1);
        due.is("one of the other", x.swap(), 7);
        x.set(0, 1, 1);
        due.is("0 and 1", x.swap(), 1);
        x.set(1, 1, 1);
        due.is("not 0 and 1", x.swap(), 2);
    }

    private static void swapNone() {
        due.sentence("Promise 22", "NONE.");
        FugueNotes x = new FugueNotes();
        due.is("no attaches", x.swap(), Due.NONE);
        x.attache(0, 0);
        due.is("one attache", x.swap(), Due.NONE);
        x.attache(0, 1);
        due.is("no tunes", x.swap(), Due.NONE);
        due.is("NONE", x.status(3), 3);
        due.is("no other one", x.status(-1), 3);
    }

    private static void keysOfTwelve() {
        due.sentence("Promise 23", "How many KEYS (of 12) of an ATTACHE let its SIDE be HOME");
        FugueNotes x = pair(0, 0, 5);
        due.is("of no tune", x.keys(0, 0), 0);
        Due.tune(x, 0, 5);
        due.is("none", x.keys(0, 0), 0);
        Due.tune(x, 0, 0);
        due.is("all", x.keys(0, 0), 12);
        due.is("one", x.keys(0, 1), 1);
    }

    private static void keysOnThatDay() {
        due.sentence("Promise 23", "ON n DAYS (0 to 60)");
        FugueNotes x = pair(0, 0, 0);
        // Written so many times, its key is there so many times.
        due.is("once", x.keys(0, 1), 1);
        due.is("once, still", x.keys(0, 2), 1);
        due.is("twice", x.keys(0, 3), 2);
        due.is("twelve times: home on that day, not before", x.keys(0, 23), 12);
        due.is("29 times", x.keys(0, 58), 1);
        due.is("30 times", x.keys(0, 59), 6);
        due.is("60 on", x.keys(0, 60), 6);
        due.is("60 on, the other", x.keys(1, 60), 6);
        due.is("its own stays", x.of(0, 2), 0);
    }

    private static void keysBeyond() {
        due.sentence("Promise 23", "ON n DAYS (0 to 60). BEYOND.");
        FugueNotes x = eightOfSide0(6);
        due.bounds("attache", v -> x.keys(v, 0), 0, 7);
        due.bounds("n", v -> x.keys(0, v), 0, 60);
        due.is("BEYOND", x.status(-1), 12);
        due.is("of no attaches", new FugueNotes().keys(0, 0), Due.BEYOND);
    }
}
