/** THE TEXT of an AFFAIR and promises 24 to 26: each sentence that names a boundary, by itself. */
public final class EdgesOfTextTest {
    private static final String[] KINDS = {"attache", "mirror", "crab", "pedal", "table", "tenor"};
    private static final String TWELVE = "tune 0 0 1 2 3 4 5 6 7 8 9 10 11";
    private static final Due due = new Due();

    public static void main(String[] args) {
        tapeAtMost120();
        tokensAsLongAsCanBe();
        wordsOfLetters();
        numbersOfDigits();
        numbersAtMost999();
        blanksBetween();
        textOfItems();
        namesOfKinds();
        sideOfAnItem();
        keyOfAnItem();
        blotOfAnItem();
        keyAheadOfBlot();
        tuneOfASide();
        tuneOfOneToTwelve();
        tonesOfATune();
        placeOfTheFirst();
        numberThatMayNotBe();
        thirteenthTone();
        anotherWord();
        byteThatBeginsNoToken();
        kindForANinth();
        endsTooEarly();
        feedTheLowestBytes();
        feedHowMany();
        feedBeyond();
        feedFull();
        feedOrder();
        wipe();
        affairComesToWhatThereIs();
        affairHowManyItems();
        affairFault();
        affairFaultChangesNothing();
        due.end();
    }

    private static int told(String text) {
        return Due.tell(new FugueNotes(), text);
    }

    private static FugueNotes withAttaches(int number) {
        return Due.affair(0, new int[number][4], new int[0], new int[0]);
    }

    private static void tapeAtMost120() {
        due.sentence("Terms 1", "THE TAPE (bytes, at most 120)");
        StringBuilder text = new StringBuilder(TWELVE);
        while (text.length() < 119) {
            text.append(' ');
        }
        FugueNotes x = new FugueNotes();
        due.is("119 bytes", Due.feed(x, text.toString()), 119);
        due.is("120 bytes", x.feed(' ', 1), 120);
        due.is("121 bytes", x.feed(' ', 1), Due.FULL);
        due.is("all of it is told", x.affair(), 1);
        due.is("119 and a fault", Due.feed(x, text.toString()), 119);
        due.is("at the 120th", x.feed('#', 1), 120);
        due.is("its place", x.affair(), -120);
        due.is("119 and a sign", Due.feed(x, text.toString()), 119);
        x.feed(';', 1);
        due.is("ends too early, of 120", x.affair(), -121);
    }

    private static void tokensAsLongAsCanBe() {
        due.sentence("Terms 1", "TOKENS, each as long as can be");
        due.is("crabof is one word", told("crabof 1"), -1);
        due.is("ofkey is one word", told("crab of1 keyblot 1"), -10);
        due.is("11 is one number", told("tune 11 1"), -6);
        due.is("a word and a number are two", told("crab of1key2blot3"), 1);
        due.is("a number and a word are two", told("tune0 1;tune1 2"), 2);
    }

    private static void wordsOfLetters() {
        due.sentence("Terms 1", "WORDS (letters a to z)");
        due.is("a to z is one word", told("abcdefghijklmnopqrstuvwxyz"), -1);
        due.is("a behind a word", told("tunea 0 1"), -1);
        due.is("z behind a word", told("tunez 0 1"), -1);
        due.is("what is ahead of a", told("tune` 0 1"), -5);
        due.is("what is behind z", told("tune{ 0 1"), -5);
        due.is("A behind a word", told("tuneA 0 1"), -5);
        due.is("Z ahead of a word", told("Ztune 0 1"), -1);
    }

    private static void numbersOfDigits() {
        due.sentence("Terms 1", "NUMBERS (digits");
        FugueNotes x = new FugueNotes();
        due.is("all digits", Due.tell(x, "tune 1 0 1 2 3 4 5 6 7 8 9"), 1);
        due.tuneIs("all", x, 1, 0, 1, 2, 3, 4, 5, 6, 7, 8, 9);
        due.is("what is ahead of 0", told("tune 0 1/"), -9);
        due.is("what is behind 9", told("tune 0 1:"), -9);
        due.is("a sign ahead", told("tune 0 +1"), -8);
        due.is("below 0", told("tune 0 -1"), -8);
    }

    /** Nowhere may a NUMBER be above 11, so that 999 and 1000 are both the fault, at their first digit. */
    private static void numbersAtMost999() {
        due.sentence("Terms 1", "999 at most");
        due.is("999", told("tune 0 999"), -8);
        due.is("1000", told("tune 0 1000"), -8);
        due.is("2 to the 32nd", told("tune 0 4294967296"), -8);
        due.is("2 to the 64th", told("tune 0 18446744073709551616"), -8);
        due.is("1000, for a side", told("crab of 1000"), -9);
        due.is("1000, for a key", told("crab of 1 key 1000"), -15);
        due.is("1000, for a blot", told("crab of 1 blot 1000"), -16);
        FugueNotes x = new FugueNotes();
        due.is("zeros ahead", Due.tell(x, "tune 0001 0000000000000000000011"), 1);
        due.tuneIs("11", x, 1, 11);
    }

    private static void blanksBetween() {
        due.sentence("Terms 1", "SIGN ; ; blanks may stand between");
        due.is("none", told("crab of1;tune0 1"), 2);
        due.is("many", told("   crab   of   1   ;   tune   0   1   "), 2);
        due.is("within a word", told("cr ab of 1"), -1);
        due.is("within a number", told("tune 0 1 1"), 1);
        due.is("none but 32: a tab", told("tune\t0 1"), -5);
        due.is("none but 32: a line's end", told("tune 0 1\n"), -9);
        due.is("none but 32: 160", told("tune" + (char) 160 + "0 1"), -5);
        due.is("none but 32: 0", told("tune" + (char) 0 + "0 1"), -5);
    }

    private static void textOfItems() {
        due.sentence("Terms 1", "TEXT: ITEM { ; ITEM }.");
        due.is("one", told("tune 0 1"), 1);
        due.is("two", told("tune 0 1;tune 0 1"), 2);
        due.is("none", told(""), -1);
        due.is("none ahead of a sign", told("; tune 0 1"), -1);
        due.is("none between", told("tune 0 1;;tune 0 1"), -10);
        due.is("none behind", told("tune 0 1;"), -10);
        due.is("no sign between", told("tune 0 1 tune 0 1"), -10);
        due.is("a sign alone", told(";"), -1);
    }

    private static void namesOfKinds() {
        due.sentence("Terms 1", "the name of a KIND (attache mirror crab pedal table tenor)");
        FugueNotes x = new FugueNotes();
        for (int kind = 0; kind < 6; kind++) {
            String name = KINDS[kind];
            due.is(name, Due.tell(x, name + " of 0"), 1);
            due.is("its kind", x.of(kind, 0), kind);
            due.is("shorter", told(name.substring(0, name.length() - 1) + " of 0"), -1);
            due.is("longer", told(name + "s of 0"), -1);
            due.is("its begin missing", told(name.substring(1) + " of 0"), -1);
            due.is("a great letter", told(name.substring(0, 1).toUpperCase() + name.substring(1) + " of 0"), -1);
        }
    }

    private static void sideOfAnItem() {
        due.sentence("Terms 1", "of, a NUMBER (0, 1: the SIDE)");
        FugueNotes x = new FugueNotes();
        due.is("0", Due.tell(x, "crab of 0"), 1);
        due.is("1", Due.tell(x, "crab of 1"), 1);
        due.is("side", x.of(0, 1), 0);
        due.is("side", x.of(1, 1), 1);
        due.is("2", told("crab of 2"), -9);
        due.is("no of", told("crab 1"), -6);
        due.is("no number", told("crab of key 1"), -9);
        due.is("two numbers", told("crab of 1 1"), -11);
    }

    private static void keyOfAnItem() {
        due.sentence("Terms 1", "perhaps key and a NUMBER (0 to 11)");
        FugueNotes x = new FugueNotes();
        due.is("three", Due.tell(x, "crab of 0; crab of 0 key 0; crab of 0 key 11"), 3);
        due.is("without", x.of(0, 2), 0);
        due.is("0", x.of(1, 2), 0);
        due.is("11", x.of(2, 2), 11);
        due.is("12", told("crab of 0 key 12"), -15);
        due.is("no number", told("crab of 0 key ;"), -15);
        due.is("twice", told("crab of 0 key 1 key 1"), -17);
    }

    private static void blotOfAnItem() {
        due.sentence("Terms 1", "perhaps blot and a NUMBER (0 to 11): one more");
        FugueNotes x = new FugueNotes();
        due.is("three", Due.tell(x, "crab of 0; crab of 0 blot 0; crab of 0 key 5 blot 11"), 3);
        due.is("without", x.of(0, 3), 0);
        due.is("0", x.of(1, 3), 1);
        due.is("11", x.of(2, 3), 2048);
        due.is("with a key", x.of(2, 2), 5);
        due.is("one more each", x.count(0), 3);
        due.is("none has written", x.count(2), 0);
        due.is("12", told("crab of 0 blot 12"), -16);
        due.is("no number", told("crab of 0 blot blot"), -16);
        due.is("twice", told("crab of 0 blot 1 blot 2"), -18);
    }

    private static void keyAheadOfBlot() {
        due.sentence("Terms 1", "perhaps key and a NUMBER (0 to 11), perhaps blot and a NUMBER (0 to 11)");
        due.is("key, blot", told("crab of 0 key 1 blot 2"), 1);
        due.is("blot, key", told("crab of 0 blot 2 key 1"), -18);
    }

    private static void tuneOfASide() {
        due.sentence("Terms 1", "tune, a NUMBER (a SIDE)");
        FugueNotes x = new FugueNotes();
        due.is("both", Due.tell(x, "tune 0 5; tune 1 6"), 2);
        due.tuneIs("0", x, 0, 5);
        due.tuneIs("1", x, 1, 6);
        due.is("2", told("tune 2 5"), -6);
        due.is("no number", told("tune of 0 5"), -6);
    }

    private static void tuneOfOneToTwelve() {
        due.sentence("Terms 1", "1 to 12 NUMBERS (0 to 11): its TUNE");
        FugueNotes x = new FugueNotes();
        due.is("twelve", Due.tell(x, TWELVE), 1);
        due.tuneIs("twelve", x, 0, 0, 1, 2, 3, 4, 5, 6, 7, 8, 9, 10, 11);
        due.is("one", Due.tell(x, "tune 0 11"), 1);
        due.tuneIs("one", x, 0, 11);
        due.is("none, at its end", told("tune 0"), -7);
        due.is("none, at a sign", told("tune 0;"), -7);
        due.is("none, at a word", told("tune 0 tune"), -8);
        due.is("thirteen", told(TWELVE + " 0"), -34);
    }

    private static void tonesOfATune() {
        due.sentence("Terms 1", "NUMBERS (0 to 11)");
        due.is("0", told("tune 0 0"), 1);
        due.is("11", told("tune 0 11"), 1);
        due.is("12, the first", told("tune 0 12"), -8);
        due.is("12, the second", told("tune 0 11 12"), -11);
        due.is("12, the twelfth", told("tune 0 0 1 2 3 4 5 6 7 8 9 10 12"), -31);
    }

    private static void placeOfTheFirst() {
        due.sentence("Terms 1", "FAULT: the place (from 0) of the first byte of the first TOKEN that can't stand there");
        due.is("at 0", told("of"), -1);
        due.is("at 1", told(" of"), -2);
        due.is("the first of two", told("crab of 2 key 12"), -9);
        due.is("the first byte of it", told("tune 0 123"), -8);
        due.is("a fault ahead of a byte that begins none", told("tune 2 #"), -6);
        due.is("a fault ahead of an early end", told("tune 2"), -6);
    }

    private static void numberThatMayNotBe() {
        due.sentence("Terms 1", "a NUMBER that may not be");
        due.is("for a word", told("1 of 0"), -1);
        due.is("for of", told("crab 0"), -6);
        due.is("for a sign", told("crab of 0 0"), -11);
        due.is("behind a key", told("crab of 0 key 1 2"), -17);
        due.is("behind a blot", told("crab of 0 blot 1 2"), -18);
    }

    private static void thirteenthTone() {
        due.sentence("Terms 1", "or is a 13th TONE");
        due.is("that could be one", told(TWELVE + " 5;tune 1 1"), -34);
        due.is("that could be none", told(TWELVE + " 12"), -34);
        due.is("a word behind the twelfth", told(TWELVE + " of"), -34);
        due.is("a sign behind the twelfth", told(TWELVE + " ;tune 1 1"), 2);
    }

    private static void anotherWord() {
        due.sentence("Terms 1", "another WORD");
        due.is("for an item", told("fugue of 0"), -1);
        due.is("key for an item", told("key 1"), -1);
        due.is("for of", told("crab off 0"), -6);
        due.is("for key", told("crab of 0 keys 1"), -11);
        due.is("for blot", told("crab of 0 key 1 blots 2"), -17);
        due.is("of behind it", told("crab of 0 of"), -11);
        due.is("behind blot", told("crab of 0 blot 2 of"), -18);
        for (String name : KINDS) {
            misspelt("", name, " of 0");
        }
        misspelt("", "tune", " 0 1");
        misspelt("crab ", "of", " 0");
        misspelt("crab of 0 ", "key", " 1");
        misspelt("crab of 0 ", "blot", " 1");
        misspelt("crab of 0 key 1 ", "blot", " 1");
    }

    /** A word that is another one by a single letter, wherever it stands. */
    private static void misspelt(String ahead, String word, String behind) {
        due.is(ahead + word + behind, told(ahead + word + behind), 1);
        for (int i = 0; i < word.length(); i++) {
            char[] letters = word.toCharArray();
            letters[i] = letters[i] == 'z' ? 'a' : (char) (letters[i] + 1);
            String other = new String(letters);
            due.is(ahead + other + behind, told(ahead + other + behind), -1 - ahead.length());
        }
    }

    private static void byteThatBeginsNoToken() {
        due.sentence("Terms 1", "a byte that begins no TOKEN");
        for (int b = 0; b < 256; b++) {
            boolean begins = b >= 'a' && b <= 'z' || b >= '0' && b <= '9' || b == ';' || b == ' ';
            FugueNotes x = new FugueNotes();
            Due.feed(x, "tune 0 1 ");
            x.feed(b, 1);
            Due.feed(x, "  ");
            int answer = b >= '0' && b <= '9' || b == ' ' ? 1 : b == ';' ? -13 : -10;
            due.is("byte " + b + (begins ? "" : ", which begins none"), x.affair(), answer);
        }
    }

    private static void kindForANinth() {
        due.sentence("Terms 1", "the name of a KIND for a 9th: its own");
        due.is("an 8th", Due.tell(withAttaches(7), "crab of 0"), 1);
        due.is("a 9th", Due.tell(withAttaches(8), "crab of 0"), -1);
        due.is("a 9th with a fault behind it", Due.tell(withAttaches(8), " tenor of 2"), -2);
        due.is("a 9th with nothing behind it", Due.tell(withAttaches(8), "crab"), -1);
        due.is("an 8th and a 9th", Due.tell(withAttaches(7), "crab of 0; crab of 0"), -12);
        due.is("tunes may come", Due.tell(withAttaches(8), "tune 0 1; tune 1 2"), 2);
        due.is("behind tunes", Due.tell(withAttaches(8), "tune 0 1; tune 1 2; pedal of 0"), -21);
        FugueNotes x = new FugueNotes();
        due.is("eight", Due.tell(x, "crab of 0;crab of 0;crab of 0;crab of 0;crab of 0;crab of 0;crab of 0;crab of 0"), 8);
        due.is("count", x.count(0), 8);
        due.is("nine", told("crab of 0;crab of 0;crab of 0;crab of 0;crab of 0;crab of 0;crab of 0;crab of 0;mirror"), -81);
    }

    private static void endsTooEarly() {
        due.sentence("Terms 1", "or how many bytes there are if it ends too early");
        String[] early = {
            "", " ", "    ", "crab", "crab ", "crab of", "crab of 0 key", "crab of 0 blot", "crab of 0 key 1 blot ",
            "tune", "tune 0", "tune 0  ", "crab of 0;", "tune 0 1 ; ",
        };
        for (String text : early) {
            due.is("'" + text + "'", told(text), -1 - text.length());
        }
        String[] inTime = {"crab of 0", "crab of 0 key 1", "crab of 0 blot 1", "tune 0 1", "tune 0 1  "};
        for (String text : inTime) {
            due.is("'" + text + "'", told(text), 1);
        }
    }

    private static void feedTheLowestBytes() {
        due.sentence("Promise 24", "the n lowest bytes of a number behind it, the highest of these first (n 1 to 4)");
        FugueNotes x = new FugueNotes();
        x.feed('t' << 24 | 'u' << 16 | 'n' << 8 | 'e', 4);
        x.feed('#' << 24 | ' ' << 16 | '0' << 8 | ' ', 3);
        x.feed('#' << 24 | '#' << 16 | '7' << 8 | ' ', 2);
        x.feed('#' << 24 | '#' << 16 | '#' << 8 | '5', 1);
        due.is("told", x.affair(), 1);
        due.tuneIs("in this order", x, 0, 7, 5);
        x.feed(-1, 1);
        due.is("255 begins no token", x.affair(), -1);
        x.feed(0x80207475, 4);
        due.is("128 first", x.affair(), -1);
    }

    private static void feedHowMany() {
        due.sentence("Promise 24", "how many it has");
        FugueNotes x = new FugueNotes();
        int[] behind = {1, 3, 6, 10};
        for (int n = 1; n <= 4; n++) {
            due.is("n " + n, x.feed(0, n), behind[n - 1]);
            due.is("bytes", x.count(1), behind[n - 1]);
        }
    }

    private static void feedBeyond() {
        due.sentence("Promise 24", "BEYOND: n.");
        FugueNotes x = new FugueNotes();
        due.bounds("n", v -> x.feed(0, v), 1, 4);
        due.is("only those that are taken came", x.count(1), 5);
        due.is("BEYOND", x.status(0), 6);
        due.is("no other one", x.status(-1), 6);
    }

    private static void feedFull() {
        due.sentence("Promise 24", "FULL.");
        for (int n = 1; n <= 4; n++) {
            FugueNotes x = new FugueNotes();
            Due.feed(x, " ".repeat(120 - n));
            due.is(n + " of " + n + " free", x.feed(0, n), 120);
            due.is("the tape is full", x.feed(0, 1), Due.FULL);
            x.wipe();
            Due.feed(x, " ".repeat(121 - n));
            due.is(n + " of " + (n - 1) + " free", x.feed(0, n), Due.FULL);
            due.is("none of them came", x.count(1), 121 - n);
            due.is("FULL", x.status(1), 2);
            due.is("no other one", x.status(-1), 2);
        }
    }

    private static void feedOrder() {
        due.sentence("Promise 24", "BEYOND: n. FULL.");
        FugueNotes x = new FugueNotes();
        Due.feed(x, " ".repeat(120));
        due.is("0 of none free", x.feed(0, 0), Due.BEYOND);
        due.is("5 of none free", x.feed(0, 5), Due.BEYOND);
        due.is("1 of none free", x.feed(0, 1), Due.FULL);
    }

    private static void wipe() {
        due.sentence("Promise 25", "THE TAPE is empty: how many it had.");
        FugueNotes x = new FugueNotes();
        due.is("none", x.wipe(), 0);
        Due.feed(x, "#");
        due.is("one", x.wipe(), 1);
        due.is("empty", x.count(1), 0);
        Due.feed(x, "#".repeat(120));
        due.is("120", x.wipe(), 120);
        due.is("empty", x.wipe(), 0);
        due.is("nothing of it is left", Due.tell(x, "tune 0 1"), 1);
        due.is("no finding", x.status(-1), 0);
    }

    private static void affairComesToWhatThereIs() {
        due.sentence("Promise 26", "whose ITEMS come to what there is, and empty then");
        int[][] attaches = {{3, 1, 4, 5}};
        FugueNotes x = Due.affair(3, attaches, new int[] {1, 2}, new int[] {3, 4});
        due.is("two items", Due.tell(x, "tune 1 9;tenor of 0 key 1 blot 2"), 2);
        due.is("the tape", x.count(1), 0);
        due.is("two attaches", x.count(0), 2);
        int[][] all = {{3, 1, 4, 5, 0}, {5, 0, 1, 4, 0}};
        for (int a = 0; a < 2; a++) {
            for (int what = 0; what < 5; what++) {
                due.is("of(" + a + ", " + what + ")", x.of(a, what), all[a][what]);
            }
        }
        due.tuneIs("side 0 stays", x, 0, 1, 2);
        due.tuneIs("side 1", x, 1, 9);
        due.is("the day stays", x.now(0), 3);
    }

    private static void affairHowManyItems() {
        due.sentence("Promise 26", "how many ITEMS");
        due.is("one", told("tune 0 1"), 1);
        // The most that 120 bytes can hold.
        due.is("fifteen", told("tune0 1" + ";tune0 1".repeat(14)), 15);
    }

    private static void affairFault() {
        due.sentence("Promise 26", "With a FAULT: -1 less its place");
        due.is("place 0", told("#"), -1);
        due.is("place 119", told(" ".repeat(119) + "#"), -120);
        due.is("120 bytes that end too early", told(" ".repeat(120)), -121);
    }

    private static void affairFaultChangesNothing() {
        due.sentence("Promise 26", "(nothing changes but that THE TAPE is empty; no finding)");
        int[][] attaches = {{3, 1, 4, 5}};
        FugueNotes x = Due.affair(3, attaches, new int[] {1, 2}, new int[] {3, 4});
        due.is("a fault in the last item", Due.tell(x, "tune 0 9;tenor of 0 key 1;tune 1 8;crab of 2"), -44);
        due.is("the tape", x.count(1), 0);
        due.is("attaches", x.count(0), 1);
        due.tuneIs("side 0", x, 0, 1, 2);
        due.tuneIs("side 1", x, 1, 3, 4);
        due.is("the day", x.now(0), 3);
        due.is("no finding", x.status(-1), 0);
        due.is("once more, of nothing", x.affair(), -1);
        due.is("no finding", x.status(-1), 0);
    }
}
