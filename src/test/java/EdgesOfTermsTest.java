/** The document's "Terms": each sentence that names a boundary, by itself. The text of an affair: EdgesOfTextTest. */
public final class EdgesOfTermsTest {
    private static final int[] NO_TONES = {};
    private static final int[] TWELVE = {7, 2, 11, 0, 5, 9, 1, 10, 3, 8, 4, 6};
    private static final Due due = new Due();

    public static void main(String[] args) {
        findings();
        findingsInLongs();
        orderOfFindings();
        quotientsAreCut();
        setsByBits();
        restsOfTwelveInATune();
        restsOfTwelveInAnswers();
        restsOfTwelveByDays();
        sidesAndTunes();
        day();
        sideThatWrites();
        attachesAtMostEight();
        keyBlotsWrote();
        wroteIsHeld();
        kindsUnderKinds();
        answerToNoTune();
        answerToOneTone();
        answerToTwelve();
        blotsBehindTheEnd();
        longs();
        pedalsAnswerEachOther();
        whoseTurn();
        turnOfEight();
        noneWhoseTurnItIs();
        toNoTuneNothing();
        leaps();
        tensionOfFewAndMany();
        home();
        alike();
        onChangesNothing();
        onBeyondTheLastDay();
        sheetsAtFirst();
        sheetsFull();
        due.end();
    }

    private static int rest(int v) {
        return ((v % 12) + 12) % 12;
    }

    private static void findings() {
        due.sentence("Terms", "-1000000001 BEYOND, -1000000002 FULL, -1000000003 KIND, -1000000004 NONE, "
                + "-1000000005 STATE, -1000000006 MISSING, -1000000007 SIZE");
        FugueNotes x = Due.atDay(9999);
        due.is("BEYOND", x.side(2, 0), -1000000001);
        for (int a = 0; a < 8; a++) {
            x.attache(0, 0);
        }
        due.is("FULL", x.attache(0, 0), -1000000002);
        due.is("KIND", x.as(0, 1), -1000000003);
        due.is("NONE", x.tone(0, 0), -1000000004);
        due.is("STATE", x.days(1), -1000000005);
        due.is("MISSING", x.lays(0, 0), -1000000006);
        due.is("SIZE", x.sheet(0, 8, -1), -1000000007);
    }

    private static void findingsInLongs() {
        due.sentence("Terms", "(in longs, too)");
        FugueNotes x = new FugueNotes();
        due.is("MISSING", x.write(0, 0, 0), -1000000006L);
        due.is("BEYOND", x.write(4, 0, 0), -1000000001L);
        x.sheet(0, 64, 1);
        due.is("no such number", x.write(0, 1, 0), -1000000001L);
    }

    private static void orderOfFindings() {
        due.sentence("Terms", "Each act tells its findings in the order in which they are asked");
        FugueNotes x = Due.atDay(9999);
        for (int a = 0; a < 8; a++) {
            x.attache(0, 0);
        }
        due.is("attache: BEYOND, FULL", x.attache(6, 0), Due.BEYOND);
        due.is("attache: BEYOND, FULL", x.attache(0, 2), Due.BEYOND);
        due.is("tone: BEYOND, NONE", x.tone(2, 0), Due.BEYOND);
        due.is("answer: BEYOND, NONE", x.answer(8, 0), Due.BEYOND);
        due.is("as: BEYOND, KIND", x.as(8, 1), Due.BEYOND);
        due.is("as: BEYOND, KIND", x.as(0, 6), Due.BEYOND);
        due.is("days: BEYOND, STATE", x.days(61), Due.BEYOND);
        due.is("days: BEYOND, STATE", x.days(0), Due.BEYOND);
        due.is("on: BEYOND, NONE", x.on(0, 0, 61), Due.BEYOND);
        due.is("on: BEYOND, NONE", x.on(2, 0, 0), Due.BEYOND);
        due.is("sheet: BEYOND, SIZE", x.sheet(4, 8, -1), Due.BEYOND);
        due.is("sheet: BEYOND, SIZE", x.sheet(0, 9, -1), Due.BEYOND);
        due.is("write: MISSING, BEYOND", x.write(0, 40, 0), Due.MISSING);
        due.is("lays: MISSING, BEYOND", x.lays(0, 2), Due.MISSING);
        due.is("book: MISSING, BEYOND", x.book(0, 2), Due.MISSING);
        due.is("read: MISSING, BEYOND", x.read(0, 8), Due.MISSING);
        for (int i = 0; i < 30; i++) {
            x.feed(0, 4);
        }
        due.is("feed: BEYOND, FULL", x.feed(0, 5), Due.BEYOND);
        due.is("BEYOND", x.status(0), 13);
        due.is("MISSING", x.status(5), 4);
        due.is("no other one", x.status(-1), 17);
    }

    private static void quotientsAreCut() {
        due.sentence("Terms", "Quotients are cut");
        FugueNotes x = new FugueNotes();
        for (int a = 0; a < 6; a++) {
            x.attache(0, a % 2);
        }
        // DAY by 2: 0 0 1 1 2 2 3 3; the first, second and third of a side are 0 2 4 and 1 3 5.
        int[] turns = {0, 1, 2, 3, 4, 5, 0, 1, 2};
        for (int day = 0; day < turns.length; day++) {
            due.is("turn of day " + day, x.now(2), turns[day]);
            x.days(1);
        }
    }

    private static void setsByBits() {
        due.sentence("Terms", "Sets are told by bits");
        FugueNotes x = new FugueNotes();
        x.attache(0, 0);
        for (int v = 0; v < 12; v++) {
            Due.tune(x, 0, v, v);
            Due.tune(x, 1, 5, 5, 5, 5, 5, 5, 5, 5, 5, 5, 5, 5);
            due.is("tone " + v + " alone", x.side(0, 3), 1 << v);
            x.set(0, 3, 1 << v);
            for (int i = 0; i < 12; i++) {
                due.is("blot " + v + ", place " + i, x.answer(0, i), i == v ? 11 : 5);
            }
        }
        Due.tune(x, 0, TWELVE);
        due.is("all tones", x.side(0, 3), 4095);
    }

    private static void restsOfTwelveInATune() {
        due.sentence("Terms 1", "TONES 0 to 11 (all reckoned by rests of 12, from 0 to 11)");
        FugueNotes x = new FugueNotes();
        for (int group = 0; group < 16; group++) {
            x.tune(0, 1, group);
            due.is("group " + group, x.tone(0, 0), group < 12 ? group : group - 12);
        }
    }

    private static void restsOfTwelveInAnswers() {
        due.sentence("Terms 1", "(At BLOTS all 6 more.)");
        for (int kind = 0; kind < 6; kind++) {
            for (int first = 0; first < 12; first++) {
                answersFrom(kind, first);
            }
        }
    }

    /** To two tones, in every key, with and without blots: whatever wraps around twelve. */
    private static void answersFrom(int kind, int first) {
        for (int second = 0; second < 12; second++) {
            FugueNotes x = new FugueNotes();
            x.attache(kind, 1);
            Due.tune(x, 0, first, second);
            int[][] plain = {
                {first, second}, {first, 2 * first - second}, {second, first}, {first, first},
                {second, 2 * second - first}, {second, first + 1},
            };
            for (int key = 0; key < 12; key++) {
                x.set(0, 2, key);
                x.set(0, 3, key % 2 == 0 ? 1 : 2);
                for (int i = 0; i < 2; i++) {
                    int six = key % 2 == i ? 6 : 0;
                    due.is("kind " + kind + " to " + first + " " + second + " in " + key + " at " + i,
                            x.answer(0, i), rest(plain[kind][i] + key + six));
                }
            }
        }
    }

    private static void restsOfTwelveByDays() {
        due.sentence("Terms 1", "its ANSWER to the TUNE of the other SIDE becomes its own SIDE's TUNE");
        int[][] attaches = {{0, 0, 11, 0}, {1, 1, 11, 4095}};
        FugueNotes x = Due.affair(0, attaches, NO_TONES, new int[] {0, 11});
        x.days(1);
        due.tuneIs("0 11 and key 11", x, 0, 11, 10);
        x.days(1);
        // Turned about 11 0; with key 11: 10 11; all 6 more.
        due.tuneIs("mirrored, in key 11, all blotted", x, 1, 4, 5);
    }

    private static void sidesAndTunes() {
        due.sentence("Terms 1", "SIDES 0 and 1, each with a TUNE: a row of 0 to 12 TONES (none at first)");
        FugueNotes x = new FugueNotes();
        due.is("side 0 at first", x.side(0, 0), 0);
        due.is("side 1 at first", x.side(1, 0), 0);
        due.is("12 of side 0", Due.tune(x, 0, TWELVE), 0);
        due.is("side 1 still none", x.side(1, 0), 0);
        due.tuneIs("12", x, 0, TWELVE);
        due.is("13", x.tune(0, 13, 0), Due.BEYOND);
        due.is("a third side", x.tune(2, 1, 0), Due.BEYOND);
        due.is("side -1", x.tune(-1, 1, 0), Due.BEYOND);
    }

    private static void day() {
        due.sentence("Terms 1", "DAY: 0 at first (9999 at most)");
        due.is("at first", new FugueNotes().now(0), 0);
        FugueNotes x = Due.atDay(9999);
        due.is("at most", x.now(0), 9999);
        due.is("a day more", x.days(1), Due.STATE);
        due.is("still", x.now(0), 9999);
    }

    private static void sideThatWrites() {
        due.sentence("Terms 1", "On a DAY SIDE (rest of DAY by 2) writes");
        int[] days = {0, 1, 2, 3, 9998, 9999};
        for (int day : days) {
            due.is("day " + day, Due.atDay(day).now(1), day % 2);
        }
        for (int day = 0; day < 4; day++) {
            int[][] attaches = {{0, 0, 1, 0}, {0, 1, 2, 0}};
            FugueNotes x = Due.affair(day, attaches, new int[] {4}, new int[] {8});
            x.days(1);
            due.tuneIs("side 0 behind day " + day, x, 0, day % 2 == 0 ? 9 : 4);
            due.tuneIs("side 1 behind day " + day, x, 1, day % 2 == 0 ? 8 : 6);
        }
    }

    private static void attachesAtMostEight() {
        due.sentence("Terms 1", "ATTACHES 0, 1, .. (at most 8), each of a SIDE");
        FugueNotes x = new FugueNotes();
        due.is("none: number 0", x.of(0, 0), Due.BEYOND);
        due.is("none: how many", x.count(0), 0);
        for (int a = 0; a < 8; a++) {
            due.is("number", x.attache(0, a / 4), a);
            due.is("its side", x.of(a, 1), a / 4);
            due.is("no next one", x.of(a + 1, 1), Due.BEYOND);
        }
        due.is("a 9th", x.attache(0, 0), Due.FULL);
        due.is("how many", x.count(0), 8);
        due.is("of side 0", x.side(0, 4), 4);
        due.is("of side 1", x.side(1, 4), 4);
    }

    private static void keyBlotsWrote() {
        due.sentence("Terms 1", "each with a KEY (0 to 11; 0 at first), BLOTS (a set of PLACES 0 to 11; none at first), "
                + "WROTE (how often; 0 at first, held to 9999)");
        FugueNotes x = new FugueNotes();
        int[] most = {0, 0, 11, 4095, 9999};
        for (int kind = 0; kind < 6; kind++) {
            x.attache(kind, 0);
            for (int what = 2; what <= 4; what++) {
                due.is("kind " + kind + ", " + what + " at first", x.of(kind, what), 0);
                due.is("the most", x.set(kind, what, most[what]), 0);
                due.is("the most is kept", x.of(kind, what), most[what]);
                due.is("more", x.set(kind, what, most[what] + 1), Due.BEYOND);
            }
        }
    }

    private static void wroteIsHeld() {
        due.sentence("Terms 1", "held to 9999");
        int[] before = {0, 9997, 9998, 9999};
        int[] behind = {1, 9998, 9999, 9999};
        for (int i = 0; i < before.length; i++) {
            int[][] attaches = {{0, 0, 0, 0}};
            FugueNotes x = Due.affair(0, attaches, NO_TONES, new int[] {3});
            x.set(0, 4, before[i]);
            x.days(1);
            due.is("behind " + before[i], x.of(0, 4), behind[i]);
            due.tuneIs("written all the same", x, 0, 3);
        }
    }

    private static void kindsUnderKinds() {
        due.sentence("Terms 1", "0 ATTACHE, 1 MIRROR under ATTACHE, 2 CRAB under ATTACHE, 3 PEDAL under ATTACHE, "
                + "4 TABLE under MIRROR, 5 TENOR under CRAB");
        int[][] under = {
            {1, 0, 0, 0, 0, 0}, {1, 1, 0, 0, 0, 0}, {1, 0, 1, 0, 0, 0}, {1, 0, 0, 1, 0, 0}, {1, 1, 0, 0, 1, 0},
            {1, 0, 1, 0, 0, 1},
        };
        for (int kind = 0; kind < 6; kind++) {
            FugueNotes x = new FugueNotes();
            x.attache(kind, 0);
            for (int as = 0; as < 6; as++) {
                due.is(kind + " as " + as, x.as(0, as), under[kind][as] == 1 ? 0 : Due.KIND);
            }
        }
    }

    private static void answerToNoTune() {
        due.sentence("Terms 1", "ANSWER (its TONE at PLACE i to a TUNE t of n TONES)");
        for (int kind = 0; kind < 6; kind++) {
            FugueNotes x = new FugueNotes();
            x.attache(kind, 0);
            x.set(0, 3, 4095);
            due.answerIs("kind " + kind + " to none", x, 0);
            Due.tune(x, 0, 1, 2, 3);
            due.answerIs("kind " + kind + " not to its own side's", x, 0);
        }
    }

    private static void answerToOneTone() {
        due.sentence("Terms 1", "ATTACHE: t at i, and KEY.");
        for (int kind = 0; kind < 6; kind++) {
            for (int tone = 0; tone < 12; tone++) {
                int[][] attaches = {{kind, 0, 5, 0}};
                FugueNotes x = Due.affair(0, attaches, NO_TONES, new int[] {tone});
                due.answerIs("kind " + kind + " to " + tone, x, 0, rest(tone + 5));
            }
        }
    }

    private static void answerToTwelve() {
        due.sentence("Terms 1", "MIRROR: as ATTACHE to the TUNE whose TONES are twice the first one less each. "
                + "CRAB: as ATTACHE to t backwards. PEDAL: t at 0, and KEY. TABLE: as MIRROR to t backwards. "
                + "TENOR: as CRAB, and 1 at odd PLACES.");
        int[][] answers = {
            {7, 2, 11, 0, 5, 9, 1, 10, 3, 8, 4, 6},
            // 14 less each.
            {7, 0, 3, 2, 9, 5, 1, 4, 11, 6, 10, 8},
            {6, 4, 8, 3, 10, 1, 9, 5, 0, 11, 2, 7},
            {7, 7, 7, 7, 7, 7, 7, 7, 7, 7, 7},
            // Backwards, 12 less each.
            {6, 8, 4, 9, 2, 11, 3, 7, 0, 1, 10, 5},
            {6, 5, 8, 4, 10, 2, 9, 6, 0, 0, 2, 8},
        };
        for (int kind = 0; kind < 6; kind++) {
            int[][] attaches = {{kind, 1, 0, 0}};
            FugueNotes x = Due.affair(0, attaches, TWELVE, NO_TONES);
            due.answerIs("kind " + kind + " to twelve", x, 0, answers[kind]);
        }
    }

    private static void blotsBehindTheEnd() {
        due.sentence("Terms 1", "BLOTS (a set of PLACES 0 to 11; none at first)");
        int[][] attaches = {{0, 0, 0, 0b1111_1111_1100}};
        FugueNotes x = Due.affair(0, attaches, NO_TONES, new int[] {1, 2});
        due.answerIs("blots where no tone is", x, 0, 1, 2);
        Due.tune(x, 1, 1, 2, 3);
        due.answerIs("the third is blotted", x, 0, 1, 2, 9);
        attaches[0][3] = 2048;
        x = Due.affair(0, attaches, NO_TONES, TWELVE);
        due.is("place 10", x.answer(0, 10), 4);
        due.is("the last place", x.answer(0, 11), 0);
        attaches[0][0] = 3;
        x = Due.affair(0, attaches, NO_TONES, TWELVE);
        due.is("a pedal has no place 11", x.answer(0, 11), Due.NONE);
    }

    private static void longs() {
        due.sentence("Terms 1", "ATTACHE: n. MIRROR: as ATTACHE. CRAB: as ATTACHE. PEDAL: as ATTACHE, less 1, "
                + "if n is above 6. TABLE: as MIRROR. TENOR: as CRAB. (Others as the KIND above.)");
        int[] ofPedal = {0, 1, 2, 3, 4, 5, 6, 6, 7, 8, 9, 10, 11};
        for (int kind = 0; kind < 6; kind++) {
            FugueNotes x = new FugueNotes();
            x.attache(kind, 0);
            for (int n = 0; n <= 12; n++) {
                x.tune(1, n, 0);
                int length = kind == 3 ? ofPedal[n] : n;
                due.is("kind " + kind + " to " + n, x.of(0, 5), length);
                due.is("behind it", x.answer(0, length), Due.NONE);
            }
        }
    }

    private static void pedalsAnswerEachOther() {
        due.sentence("Terms 1", "less 1, if n is above 6");
        int[][] attaches = {{3, 0, 0, 0}, {3, 1, 0, 0}};
        FugueNotes x = Due.affair(0, attaches, NO_TONES, TWELVE);
        int[] lengths = {11, 10, 9, 8, 7, 6, 6, 6, 6};
        for (int day = 0; day < lengths.length; day++) {
            x.days(1);
            due.is("behind day " + day, x.side(day % 2, 0), lengths[day]);
        }
    }

    private static void whoseTurn() {
        due.sentence("Terms 1", "of its ATTACHES, by numbers, the one whose place among them is the rest of (DAY by 2) "
                + "by how many they are");
        int[][] attaches = {{0, 1, 0, 0}, {0, 0, 0, 0}, {0, 1, 0, 0}, {0, 0, 0, 0}, {0, 0, 0, 0}};
        int[] turns = {1, 0, 3, 2, 4, 0, 1, 2, 3, 0};
        for (int day = 0; day < turns.length; day++) {
            FugueNotes x = Due.affair(day, attaches, new int[] {1}, new int[] {2});
            due.is("turn of day " + day, x.now(2), turns[day]);
            x.days(1);
            for (int a = 0; a < attaches.length; a++) {
                due.is("wrote of " + a + " on day " + day, x.of(a, 4), a == turns[day] ? 1 : 0);
            }
        }
        FugueNotes x = Due.affair(4, attaches, NO_TONES, NO_TONES);
        x.set(1, 1, 1);
        due.is("two are left, by numbers", x.now(2), 3);
        x.set(0, 1, 0);
        due.is("a lesser one comes", x.now(2), 4);
    }

    private static void turnOfEight() {
        due.sentence("Terms 1", "the rest of (DAY by 2) by how many they are");
        int[][] attaches = new int[8][4];
        for (int day = 0; day <= 34; day += 2) {
            due.is("day " + day, Due.affair(day, attaches, NO_TONES, NO_TONES).now(2), day / 2 % 8);
        }
        // 9999 by 2 is 4999; its rest by 8 is 7, by 7 is 1.
        for (int a = 0; a < 8; a++) {
            attaches[a][1] = 1;
        }
        FugueNotes x = Due.affair(9999, attaches, NO_TONES, NO_TONES);
        due.is("on the last day", x.now(2), 7);
        x.set(0, 1, 0);
        due.is("of seven", x.now(2), 2);
    }

    private static void noneWhoseTurnItIs() {
        due.sentence("Terms 1", "If there is one");
        int[][] attaches = {{0, 1, 5, 0}};
        FugueNotes x = Due.affair(0, attaches, new int[] {1}, new int[] {2});
        due.is("none of side 0", x.now(2), -1);
        due.is("its day goes", x.days(1), 0);
        due.is("day", x.now(0), 1);
        due.tuneIs("side 0", x, 0, 1);
        due.tuneIs("side 1", x, 1, 2);
        due.is("none wrote", x.count(2), 0);
        x.days(1);
        due.tuneIs("then side 1 writes", x, 1, 6);
        due.is("one wrote", x.of(0, 4), 1);
    }

    private static void toNoTuneNothing() {
        due.sentence("Terms 1", "(To no TUNE nothing is written, and nothing changes.) DAY is 1 more.");
        for (int kind = 0; kind < 6; kind++) {
            int[][] attaches = {{kind, 0, 3, 4095}};
            FugueNotes x = Due.affair(0, attaches, new int[] {4, 9, 2}, NO_TONES);
            due.is("it is its turn", x.now(2), 0);
            due.is("kind " + kind, x.days(1), 2);
            due.tuneIs("its tune stays", x, 0, 4, 9, 2);
            due.tuneIs("the other too", x, 1);
            due.is("wrote", x.of(0, 4), 0);
            due.is("day", x.now(0), 1);
        }
    }

    private static void leaps() {
        due.sentence("Terms 1", "LEAP between two TONES: how many steps apart, round the nearer way (0 to 6).");
        // From a tone to the one so many steps above it: 4 to 8 steps are 4 or more by the nearer way.
        int[] wide = {0, 0, 0, 0, 1, 1, 1, 1, 1, 0, 0, 0};
        FugueNotes x = new FugueNotes();
        for (int one = 0; one < 12; one++) {
            for (int up = 0; up < 12; up++) {
                Due.tune(x, 1, one, (one + up) % 12);
                due.is("from " + one + " up " + up, x.side(1, 1), wide[up]);
            }
        }
    }

    private static void tensionOfFewAndMany() {
        due.sentence("Terms 1", "TENSION of a TUNE: LEAPS of 4 or more between TONES that follow one another.");
        FugueNotes x = new FugueNotes();
        due.is("of none", x.side(0, 1), 0);
        Due.tune(x, 0, 6);
        due.is("of one", x.side(0, 1), 0);
        Due.tune(x, 0, 0, 3, 6, 9, 0);
        due.is("leaps of 3", x.side(0, 1), 0);
        Due.tune(x, 0, 0, 4, 8, 0);
        due.is("leaps of 4", x.side(0, 1), 3);
        Due.tune(x, 0, 0, 1, 6);
        due.is("not from the first to the last", x.side(0, 1), 1);
        Due.tune(x, 0, 0, 2, 4);
        due.is("only those that follow", x.side(0, 1), 0);
        Due.tune(x, 0, 0, 6, 0, 6, 0, 6, 0, 6, 0, 6, 0, 6);
        due.is("of twelve", x.side(0, 1), 11);
        Due.tune(x, 0, 0);
        due.is("of one again", x.side(0, 1), 0);
    }

    private static void home() {
        due.sentence("Terms 1", "HOME: a TUNE of 1 TONE or more, whose last TONE is 0.");
        FugueNotes x = new FugueNotes();
        due.is("of none", x.side(0, 2), 0);
        for (int tone = 0; tone < 12; tone++) {
            Due.tune(x, 0, tone);
            due.is("of one " + tone, x.side(0, 2), tone == 0 ? 1 : 0);
        }
        Due.tune(x, 0, 0, 0, 0, 0, 0, 0, 0, 0, 0, 0, 0, 1);
        due.is("the twelfth is 1", x.side(0, 2), 0);
        Due.tune(x, 0, 1, 1, 1, 1, 1, 1, 1, 1, 1, 1, 1, 0);
        due.is("the twelfth is 0", x.side(0, 2), 1);
        x.tune(0, 0, 0);
        due.is("of none again", x.side(0, 2), 0);
    }

    private static void alike() {
        due.sentence("Terms 1", "ALIKE: both TUNES are the same, of 1 TONE or more.");
        FugueNotes x = new FugueNotes();
        due.is("none and none", x.now(4), 0);
        Due.tune(x, 0, 0);
        due.is("one and none", x.now(4), 0);
        Due.tune(x, 1, 0);
        due.is("one and one", x.now(4), 1);
        Due.tune(x, 1, 0, 0);
        due.is("one and two", x.now(4), 0);
        Due.tune(x, 0, 0, 0);
        due.is("two and two", x.now(4), 1);
        Due.tune(x, 1, 1, 0);
        due.is("the first is unlike", x.now(4), 0);
        Due.tune(x, 0, TWELVE);
        Due.tune(x, 1, TWELVE);
        due.is("twelve and twelve", x.now(4), 1);
        x.tune(1, 12, Due.tones(TWELVE) ^ 1L << 44);
        due.is("the twelfth is unlike", x.now(4), 0);
        x.tune(1, 11, Due.tones(TWELVE));
        due.is("twelve and eleven", x.now(4), 0);
    }

    private static void onChangesNothing() {
        due.sentence("Terms 2", "ON: n DAYS go on with all as it is; nothing changes.");
        int[][] attaches = {{0, 0, 1, 0}, {0, 1, 1, 0}};
        FugueNotes x = Due.affair(3, attaches, new int[] {1}, new int[] {2});
        x.set(0, 4, 9998);
        due.is("on 60", x.on(0, 0, 60), rest(1 + 60));
        due.is("on none", x.on(0, 0, 0), 1);
        due.is("day", x.now(0), 3);
        due.is("wrote of 0", x.of(0, 4), 9998);
        due.is("wrote of 1", x.of(1, 4), 0);
        due.tuneIs("side 0", x, 0, 1);
        due.tuneIs("side 1", x, 1, 2);
    }

    /** The document leaves it open: ON only looks ahead, and tells no STATE. */
    private static void onBeyondTheLastDay() {
        due.sentence("Terms 2", "n DAYS go on with all as it is");
        int[][] attaches = {{0, 0, 1, 0}, {0, 1, 0, 0}};
        FugueNotes x = Due.affair(9999, attaches, new int[] {4}, NO_TONES);
        due.is("DAY 9999, 1 on", x.on(1, 0, 1), 4);
        due.is("2 on: side 0 writes", x.on(0, 0, 2), 5);
        due.is("60 on", x.on(0, 0, 60), rest(4 + 30));
        due.is("home", x.home(0), 2 * 8);
        due.is("alike", x.alike(), 1);
        due.is("again", x.again(0), 24);
        due.is("still the last day", x.days(1), Due.STATE);
    }

    private static void sheetsAtFirst() {
        due.sentence("Terms 3", "SHEETS 0 to 3 are rows of at most 40 numbers of 8, 16 or 64 bits, or MISSING (at first).");
        FugueNotes x = new FugueNotes();
        for (int s = 0; s < 4; s++) {
            due.is("write " + s, x.write(s, 0, 0), Due.MISSING);
            due.is("lays " + s, x.lays(s, 0), Due.MISSING);
            due.is("book " + s, x.book(s, 0), Due.MISSING);
            due.is("read " + s, x.read(s, 0), Due.MISSING);
            due.is("copy " + s, x.copy(s, 0, s, 0, 0), Due.MISSING);
        }
        due.is("a fifth", x.write(4, 0, 0), Due.BEYOND);
        due.is("sheet -1", x.write(-1, 0, 0), Due.BEYOND);
    }

    private static void sheetsFull() {
        due.sentence("Terms 3", "rows of at most 40 numbers of 8, 16 or 64 bits");
        FugueNotes x = new FugueNotes();
        int[] bits = {8, 16, 64, 64};
        for (int s = 0; s < 4; s++) {
            due.is("40 of sheet " + s, x.sheet(s, bits[s], 40), 40);
            due.is("the first", x.write(s, 0, 100 + s), 0);
            due.is("the last", x.write(s, 39, 110 + s), 0);
            due.is("a 41st", x.write(s, 40, 1), Due.BEYOND);
        }
        for (int s = 0; s < 4; s++) {
            due.is("the first of " + s, x.write(s, 0, 0), 100 + s);
            due.is("the last of " + s, x.write(s, 39, 0), 110 + s);
        }
    }
}
