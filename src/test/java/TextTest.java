/** Promises 24 to 26: feed, wipe, affair. */
public final class TextTest {
    private static final Due due = new Due();

    public static void main(String[] args) {
        feed();
        wipe();
        items();
        spaces();
        numbers();
        faultsOfAttaches();
        faultsOfTunes();
        faultsOfBytes();
        endsTooEarly();
        ninth();
        faultChangesNothing();
        longest();
        due.end();
    }

    private static void feed() {
        FugueNotes x = new FugueNotes();
        due.is("feed 0", x.feed('a', 0), Due.BEYOND);
        due.is("feed -1", x.feed('a', -1), Due.BEYOND);
        due.is("feed 5", x.feed('a', 5), Due.BEYOND);
        due.is("no byte", x.count(1), 0);
        due.is("feed tune", x.feed(0x74756e65, 4), 4);
        due.is("the lowest three, the highest first", x.feed(0x7F203120, 3), 7);
        due.is("the lowest two", x.feed(0x7F7F3720, 2), 9);
        due.is("the lowest one", x.feed(0x7F7F7F35, 1), 10);
        due.is("affair", x.affair(), 1);
        due.tuneIs("fed", x, 1, 7, 5);
        for (int i = 1; i <= 29; i++) {
            due.is("feed " + i, x.feed(-1, 4), 4 * i);
        }
        due.is("three of four free", x.feed(0, 3), 119);
        due.is("two of one free", x.feed(0, 2), Due.FULL);
        due.is("wrong n first", x.feed(0, 5), Due.BEYOND);
        due.is("one of one free", x.feed(0, 1), 120);
        due.is("full", x.feed(0, 1), Due.FULL);
        due.is("120", x.count(1), 120);
        due.is("status(1)", x.status(1), 2);
        due.is("status(0)", x.status(0), 4);
    }

    private static void wipe() {
        FugueNotes x = new FugueNotes();
        due.is("wipe of none", x.wipe(), 0);
        Due.feed(x, "abc");
        due.is("wipe", x.wipe(), 3);
        due.is("wipe again", x.wipe(), 0);
        due.is("what is wiped is not told", Due.tell(x, "tune 0 4"), 1);
    }

    private static void items() {
        FugueNotes x = new FugueNotes();
        String text = "mirror of 1 key 11 blot 3;tune 0 1 2 3;table of 0 blot 11 ; tenor of 1 key 0";
        due.is("four items", Due.tell(x, text), 4);
        due.is("the tape is empty", x.count(1), 0);
        due.is("three more", x.count(0), 3);
        int[][] all = {{1, 1, 11, 8, 0}, {4, 0, 0, 2048, 0}, {5, 1, 0, 0, 0}};
        for (int a = 0; a < all.length; a++) {
            for (int what = 0; what < 5; what++) {
                due.is("of(" + a + ", " + what + ")", x.of(a, what), all[a][what]);
            }
        }
        due.tuneIs("told", x, 0, 1, 2, 3);
        due.is("others", Due.tell(x, "attache of 0;crab of 0;pedal of 1;mirror of 1"), 4);
        int[] kinds = {1, 4, 5, 0, 2, 3, 1};
        for (int a = 0; a < kinds.length; a++) {
            due.is("kind of " + a, x.of(a, 0), kinds[a]);
        }
        due.is("the later tune stands", Due.tell(x, "tune 0 5;tune 1 11 0;tune 0 6 7"), 3);
        due.tuneIs("later", x, 0, 6, 7);
        due.tuneIs("other", x, 1, 11, 0);
        due.is("twelve", Due.tell(x, "tune 1 0 1 2 3 4 5 6 7 8 9 10 11"), 1);
        due.tuneIs("twelve", x, 1, 0, 1, 2, 3, 4, 5, 6, 7, 8, 9, 10, 11);
        due.is("no finding", x.status(-1), 0);
    }

    private static void spaces() {
        FugueNotes x = new FugueNotes();
        due.is("no blanks", Due.tell(x, "pedal of1key5blot7;tune1 3 4;crab of0"), 3);
        due.is("key", x.of(0, 2), 5);
        due.is("blots", x.of(0, 3), 128);
        due.is("side of crab", x.of(1, 1), 0);
        due.is("many blanks", Due.tell(x, "  tune   0  1   2  "), 1);
        due.tuneIs("blanks", x, 0, 1, 2);
        due.is("blanks end words", Due.tell(x, "tu ne 0 1"), -1);
        due.is("words run together", Due.tell(x, "pedalof 1"), -1);
        due.is("of run together", Due.tell(x, "pedal ofkey 1"), -7);
        due.is("blanks end numbers", Due.tell(x, "tune 0 1 1"), 1);
        due.tuneIs("1 1", x, 0, 1, 1);
        due.is("a tab is no blank", Due.tell(x, "tune\t0 1"), -5);
        due.is("a line's end is no blank", Due.tell(x, "tune 0 1\n"), -9);
    }

    private static void numbers() {
        FugueNotes x = new FugueNotes();
        due.is("zeros ahead", Due.tell(x, "tune 01 007 0000000000011"), 1);
        due.tuneIs("7 11", x, 1, 7, 11);
        due.is("12", Due.tell(x, "tune 0 12"), -8);
        due.is("999", Due.tell(x, "tune 0 999"), -8);
        due.is("1000", Due.tell(x, "tune 0 1 1000"), -10);
        due.is("2 to the 32nd and 1", Due.tell(x, "tune 0 4294967297"), -8);
        due.is("2 to the 64th and 1", Due.tell(x, "tune 18446744073709551617 0"), -6);
        due.is("below 0", Due.tell(x, "tune 0 -1"), -8);
    }

    private static void faultsOfAttaches() {
        FugueNotes x = new FugueNotes();
        due.is("another word", Due.tell(x, "fox of 1"), -1);
        due.is("a longer word", Due.tell(x, "attaches of 1"), -1);
        due.is("a begin of a word", Due.tell(x, "attach of 1"), -1);
        due.is("another first letter", Due.tell(x, "drab of 1"), -1);
        due.is("another last letter", Due.tell(x, "craz of 1"), -1);
        due.is("z is a letter", Due.tell(x, "crabz of 1"), -1);
        due.is("a is a letter", Due.tell(x, "crab ofa 1"), -6);
        due.is("a number first", Due.tell(x, " 7"), -2);
        due.is("a sign first", Due.tell(x, ";"), -1);
        due.is("of first", Due.tell(x, "of 1"), -1);
        due.is("no of", Due.tell(x, "crab 1"), -6);
        due.is("of of", Due.tell(x, "crab of of 1"), -9);
        due.is("of 2", Due.tell(x, "crab of 2"), -9);
        due.is("of ;", Due.tell(x, "crab of ;"), -9);
        due.is("of 1 1", Due.tell(x, "crab of 1 1"), -11);
        due.is("another word behind", Due.tell(x, "crab of 1 keys 1"), -11);
        due.is("key 12", Due.tell(x, "crab of 1 key 12"), -15);
        due.is("key of", Due.tell(x, "crab of 1 key of"), -15);
        due.is("key 1 1", Due.tell(x, "crab of 1 key 1 1"), -17);
        due.is("key key", Due.tell(x, "crab of 1 key 1 key 2"), -17);
        due.is("blot 12", Due.tell(x, "crab of 1 blot 12"), -16);
        due.is("blot blot", Due.tell(x, "crab of 1 blot 1 blot 2"), -18);
        due.is("blot before key", Due.tell(x, "crab of 1 blot 1 key 2"), -18);
        due.is("no sign between", Due.tell(x, "crab of 1 crab of 0"), -11);
        due.is("two signs", Due.tell(x, "crab of 1;;crab of 0"), -11);
        due.is("none came", x.count(0), 0);
        due.is("no finding", x.status(-1), 0);
    }

    private static void faultsOfTunes() {
        FugueNotes x = new FugueNotes();
        due.is("side 2", Due.tell(x, "tune 2 1"), -6);
        due.is("no side", Due.tell(x, "tune of 1"), -6);
        due.is("no tones", Due.tell(x, "tune 1;tune 0 1"), -7);
        due.is("a word for a tone", Due.tell(x, "tune 1 key"), -8);
        due.is("tone 12", Due.tell(x, "tune 1 3 12 4"), -10);
        due.is("a word behind", Due.tell(x, "tune 1 3 key 4"), -10);
        due.is("a 13th", Due.tell(x, "tune 1 1 1 1 1 1 1 1 1 1 1 1 1 2;"), -32);
        due.is("a 13th that is too great", Due.tell(x, "tune 1 1 1 1 1 1 1 1 1 1 1 1 1 77"), -32);
        due.is("a 12th that is too great", Due.tell(x, "tune 1 1 1 1 1 1 1 1 1 1 1 1 12 2"), -30);
        due.is("no tone came", x.side(1, 0), 0);
    }

    private static void faultsOfBytes() {
        FugueNotes x = new FugueNotes();
        due.is("a great letter", Due.tell(x, "Tune 1 1"), -1);
        due.is("a great letter within", Due.tell(x, "tuNe 1 1"), -1);
        due.is("behind a word", Due.tell(x, "tune# 1"), -5);
        due.is("behind a number", Due.tell(x, "tune 1 1."), -9);
        due.is("behind all", Due.tell(x, "tune 1 1 ,"), -10);
        due.is("the first fault counts", Due.tell(x, "tune 2 #"), -6);
        int[] others = {0, 9, 10, 13, 31, 47, 58, 96, 123, 127, 128, 160, 255};
        for (int b : others) {
            Due.feed(x, "tune 1 1");
            x.feed(b, 1);
            due.is("byte " + b, x.affair(), -9);
        }
        due.is("no tone came", x.side(1, 0), 0);
    }

    private static void endsTooEarly() {
        FugueNotes x = new FugueNotes();
        String[] early = {
            "", "   ", "tune", "tune ", "tune 1", "tune 1  ", "tune 1 1;", "tune 1 1 ; ", "crab", "crab of",
            "crab of ", "crab of 1 key", "crab of 1 key 1 blot", "crab of 1 blot  ", "crab of 1;",
        };
        for (String text : early) {
            due.is("early: " + text, Due.tell(x, text), -1 - text.length());
        }
        due.is("none came", x.count(0), 0);
        due.is("no tone came", x.side(1, 0), 0);
        due.is("no finding", x.status(-1), 0);
    }

    private static void ninth() {
        FugueNotes x = new FugueNotes();
        for (int a = 0; a < 7; a++) {
            x.attache(0, 0);
        }
        due.is("two of one free", Due.tell(x, "crab of 1;pedal of 1"), -11);
        due.is("still seven", x.count(0), 7);
        due.is("one of one free", Due.tell(x, "crab of 1;tune 1 2"), 2);
        due.is("its own place, not a later fault's", Due.tell(x, "tune 1 3; crab ff"), -11);
        due.is("another word", Due.tell(x, "tune 1 3; cra"), -11);
        due.tuneIs("stays", x, 1, 2);
        due.is("a tune can come", Due.tell(x, "tune 1 3"), 1);
        due.is("eight", x.count(0), 8);
        due.is("no finding", x.status(-1), 0);
    }

    private static void faultChangesNothing() {
        FugueNotes x = new FugueNotes();
        x.attache(3, 1);
        Due.tune(x, 0, 1, 2);
        due.is("fault at the end", Due.tell(x, "tune 0 5;crab of 0 key 3;tune 1 7;crab of 3"), -43);
        due.is("the tape is empty", x.count(1), 0);
        due.is("one attache", x.count(0), 1);
        due.tuneIs("side 0", x, 0, 1, 2);
        due.tuneIs("side 1", x, 1);
        due.is("a new one begins anew", x.attache(0, 0), 1);
        due.is("its key", x.of(1, 2), 0);
        due.is("its blots", x.of(1, 3), 0);
    }

    private static void longest() {
        FugueNotes x = new FugueNotes();
        StringBuilder text = new StringBuilder("tune0 1");
        for (int i = 1; i < 15; i++) {
            text.append(";tune0 1");
        }
        text.append(' ');
        due.is("120 bytes", Due.feed(x, text.toString()), 120);
        due.is("15 items", x.affair(), 15);
        for (int i = 0; i < 30; i++) {
            x.feed(0x3b3b3b3b, 4);
        }
        due.is("120 signs", x.affair(), -1);
        for (int i = 0; i < 30; i++) {
            x.feed(0x39393939, 4);
        }
        due.is("120 digits", x.affair(), -1);
        for (int i = 0; i < 30; i++) {
            x.feed(0x20202020, 4);
        }
        due.is("120 blanks", x.affair(), -121);
    }
}
