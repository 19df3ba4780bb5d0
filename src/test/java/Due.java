import java.util.function.IntToLongFunction;

/** Compares answers with what is due, and counts those that are not. */
final class Due {
    static final int BEYOND = -1000000001;
    static final int FULL = -1000000002;
    static final int KIND = -1000000003;
    static final int NONE = -1000000004;
    static final int STATE = -1000000005;
    static final int MISSING = -1000000006;
    static final int SIZE = -1000000007;

    private int asked = 0;
    private int wrong = 0;
    private int sentences = 0;
    private String sentence = "";
    private int askedBefore = -1;

    void is(String what, long got, long want) {
        asked++;
        if (got != want) {
            wrong++;
            System.out.println(sentence + what + " answered " + got + ", due is " + want);
        }
    }

    void holds(String what, boolean so) {
        is(what, so ? 1 : 0, 1);
    }

    /** The least and the most are taken, whatever is outside is BEYOND. */
    void bounds(String what, IntToLongFunction call, int least, int most) {
        int[] inside = {least, most};
        int[] outside = {least - 1, most + 1, Integer.MIN_VALUE, Integer.MAX_VALUE, least - 65536, most + 65536};
        for (int v : inside) {
            holds(what + " " + v + " is taken", call.applyAsLong(v) != BEYOND);
        }
        for (int v : outside) {
            is(what + " " + v, call.applyAsLong(v), BEYOND);
        }
    }

    /** What is asked from here on stands for these words of the document; a sentence nothing is asked for is wrong. */
    void sentence(String where, String words) {
        leaveSentence();
        sentences++;
        sentence = where + ", \"" + words + "\": ";
        askedBefore = asked;
    }

    private void leaveSentence() {
        if (asked == askedBefore) {
            wrong++;
            System.out.println(sentence + "nothing was asked");
        }
    }

    void end() {
        leaveSentence();
        System.out.println(asked + " asked" + (sentences == 0 ? "" : " for " + sentences + " sentences") + ", "
                + wrong + " wrong");
        if (wrong != 0 || asked == 0) {
            System.exit(1);
        }
    }

    /** The groups of four bits that tune() takes, from the tones. */
    static long tones(int... row) {
        long packed = 0;
        for (int i = 0; i < row.length; i++) {
            packed |= (long) row[i] << (4 * i);
        }
        return packed;
    }

    static int tune(FugueNotes x, int side, int... row) {
        return x.tune(side, row.length, tones(row));
    }

    void tuneIs(String what, FugueNotes x, int side, int... row) {
        is(what + ": length", x.side(side, 0), row.length);
        for (int i = 0; i < row.length; i++) {
            is(what + ": tone " + i, x.tone(side, i), row[i]);
        }
    }

    void answerIs(String what, FugueNotes x, int attache, int... row) {
        is(what + ": long", x.of(attache, 5), row.length);
        for (int i = 0; i < row.length; i++) {
            is(what + ": answer " + i, x.answer(attache, i), row[i]);
        }
        is(what + ": answer behind its end", x.answer(attache, row.length), NONE);
    }

    /** An object on a day on which nothing was there to write. */
    static FugueNotes atDay(int day) {
        FugueNotes x = new FugueNotes();
        for (int left = day; left > 0; left -= 60) {
            x.days(Math.min(left, 60));
        }
        return x;
    }

    /** An object at a day, with attaches told each by kind, side, key and blots. */
    static FugueNotes affair(int day, int[][] attaches, int[] tune0, int[] tune1) {
        FugueNotes x = atDay(day);
        for (int a = 0; a < attaches.length; a++) {
            x.attache(attaches[a][0], attaches[a][1]);
            x.set(a, 2, attaches[a][2]);
            x.set(a, 3, attaches[a][3]);
        }
        tune(x, 0, tune0);
        tune(x, 1, tune1);
        return x;
    }

    /** Four bytes a call, as an object has only 512 calls. */
    static int feed(FugueNotes x, String text) {
        int has = 0;
        for (int i = 0; i < text.length(); i += 4) {
            String part = text.substring(i, Math.min(i + 4, text.length()));
            int bytes = 0;
            for (int b = 0; b < part.length(); b++) {
                bytes = bytes << 8 | part.charAt(b);
            }
            has = x.feed(bytes, part.length());
        }
        return has;
    }

    static int tell(FugueNotes x, String text) {
        feed(x, text);
        return x.affair();
    }
}
