/** Promises 11 to 17: days, now, on, tension, home, alike, again. */
public final class DaysTest {
    private static final Due due = new Due();

    public static void main(String[] args) {
        sidesWriteInTurn();
        attachesWriteInTurn();
        noTuneNothingWritten();
        days();
        lastDay();
        wroteIsHeld();
        now();
        on();
        tension();
        home();
        alike();
        again();
        aheadOfTheLastDay();
        due.end();
    }

    private static void sidesWriteInTurn() {
        FugueNotes x = new FugueNotes();
        x.attache(0, 0);
        x.attache(2, 1);
        x.set(0, 2, 1);
        Due.tune(x, 0, 7);
        Due.tune(x, 1, 0, 5, 1);
        due.is("day 0: side 0 writes 1 6 2", x.days(1), 2 + 2);
        due.tuneIs("side 0", x, 0, 1, 6, 2);
        due.tuneIs("side 1", x, 1, 0, 5, 1);
        due.is("now day 1", x.now(0), 1);
        due.is("side 1 writes", x.now(1), 1);
        due.is("day 1: side 1 writes 2 6 1", x.days(1), 2 + 2);
        due.tuneIs("side 0", x, 0, 1, 6, 2);
        due.tuneIs("side 1", x, 1, 2, 6, 1);
        due.is("wrote 0", x.of(0, 4), 1);
        due.is("wrote 1", x.of(1, 4), 1);
    }

    private static void attachesWriteInTurn() {
        FugueNotes x = new FugueNotes();
        int[] sides = {1, 0, 0, 1, 0};
        for (int a = 0; a < sides.length; a++) {
            x.attache(0, sides[a]);
        }
        Due.tune(x, 0, 1);
        Due.tune(x, 1, 1);
        int[] writers = {1, 0, 2, 3, 4, 0, 1, 3, 2, 0, 4, 3, 1};
        for (int day = 0; day < writers.length; day++) {
            due.is("writer of day " + day, x.now(2), writers[day]);
            x.days(1);
        }
        int[] wrote = {3, 3, 2, 3, 2};
        for (int a = 0; a < wrote.length; a++) {
            due.is("wrote of " + a, x.of(a, 4), wrote[a]);
        }
        due.is("all", x.count(2), writers.length);
    }

    private static void noTuneNothingWritten() {
        FugueNotes x = new FugueNotes();
        x.attache(0, 0);
        Due.tune(x, 0, 3, 4);
        due.is("two days", x.days(2), 0);
        due.is("day 2", x.now(0), 2);
        due.tuneIs("its own tune stays", x, 0, 3, 4);
        due.is("wrote", x.of(0, 4), 0);
    }

    private static void days() {
        FugueNotes x = new FugueNotes();
        due.is("days(0)", x.days(0), Due.BEYOND);
        due.is("days(-1)", x.days(-1), Due.BEYOND);
        due.is("days(61)", x.days(61), Due.BEYOND);
        due.is("days(min)", x.days(Integer.MIN_VALUE), Due.BEYOND);
        due.is("days(max)", x.days(Integer.MAX_VALUE), Due.BEYOND);
        due.is("no day gone", x.now(0), 0);
        Due.tune(x, 0, 0, 6);
        Due.tune(x, 1, 0, 4, 0, 3);
        due.is("days(60)", x.days(60), 3);
        due.is("days(1)", x.days(1), 3);
        due.is("day 61", x.now(0), 61);
        due.is("status(0)", x.status(0), 5);
    }

    private static void lastDay() {
        FugueNotes x = Due.atDay(9998);
        due.is("two days more", x.days(2), Due.STATE);
        due.is("wrong days first", x.days(61), Due.BEYOND);
        due.is("still 9998", x.now(0), 9998);
        due.is("one day more", x.days(1), 0);
        due.is("9999", x.now(0), 9999);
        due.is("none more", x.days(1), Due.STATE);
        due.is("side 1 writes", x.now(1), 1);
        due.is("status(4)", x.status(4), 2);
        due.is("status(0)", x.status(0), 1);
    }

    private static void wroteIsHeld() {
        FugueNotes x = new FugueNotes();
        x.attache(0, 0);
        Due.tune(x, 1, 5);
        x.set(0, 4, 9998);
        x.days(1);
        due.is("9999", x.of(0, 4), 9999);
        x.days(4);
        due.is("held", x.of(0, 4), 9999);
    }

    private static void now() {
        FugueNotes x = new FugueNotes();
        due.is("none is home", x.now(3), 0);
        due.is("no tunes aren't alike", x.now(4), 0);
        due.is("no tunes are not unlike", x.now(5), 0);
        Due.tune(x, 0, 1, 2, 0);
        due.is("side 0 home", x.now(3), 1);
        due.is("three beyond", x.now(5), 3);
        Due.tune(x, 1, 1, 3, 0, 0, 0);
        due.is("both home", x.now(3), 3);
        due.is("not alike", x.now(4), 0);
        due.is("one unlike, two beyond", x.now(5), 3);
        Due.tune(x, 0, 1, 3, 0, 0, 4);
        due.is("side 1 home", x.now(3), 2);
        due.is("one unlike", x.now(5), 1);
        Due.tune(x, 1, 1, 3, 0, 0, 4);
        due.is("alike", x.now(4), 1);
        due.is("none unlike", x.now(5), 0);
        Due.tune(x, 1, 1, 3, 0, 0);
        due.is("a begin isn't alike", x.now(4), 0);
        x.attache(0, 1);
        due.is("side 0 has none", x.now(2), -1);
        x.days(1);
        due.is("side 1 has one", x.now(2), 0);
        due.is("now(-1)", x.now(-1), Due.BEYOND);
        due.is("now(6)", x.now(6), Due.BEYOND);
        due.is("status(-1)", x.status(-1), 2);
    }

    /** Side 0 answers one tone higher, side 1 as it hears. */
    private static FugueNotes climbing() {
        FugueNotes x = new FugueNotes();
        x.attache(0, 0);
        x.attache(0, 1);
        x.set(0, 2, 1);
        Due.tune(x, 0, 9);
        Due.tune(x, 1, 3, 7);
        return x;
    }

    private static void on() {
        FugueNotes x = climbing();
        due.is("on(0, 0, 0)", x.on(0, 0, 0), 9);
        due.is("on(0, 1, 0)", x.on(0, 1, 0), Due.NONE);
        due.is("on(0, 0, 1)", x.on(0, 0, 1), 4);
        due.is("on(0, 1, 1)", x.on(0, 1, 1), 8);
        due.is("on(1, 0, 1)", x.on(1, 0, 1), 3);
        due.is("on(1, 0, 2)", x.on(1, 0, 2), 4);
        due.is("on(1, 0, 60)", x.on(1, 0, 60), (3 + 30) % 12);
        due.is("on(0, 1, 59)", x.on(0, 1, 59), (7 + 30) % 12);
        due.is("on(0, 11, 60)", x.on(0, 11, 60), Due.NONE);
        due.is("on(-1, 0, 0)", x.on(-1, 0, 0), Due.BEYOND);
        due.is("on(2, 0, 0)", x.on(2, 0, 0), Due.BEYOND);
        due.is("on(0, -1, 0)", x.on(0, -1, 0), Due.BEYOND);
        due.is("on(0, 12, 0)", x.on(0, 12, 0), Due.BEYOND);
        due.is("on(0, 0, -1)", x.on(0, 0, -1), Due.BEYOND);
        due.is("on(0, 0, 61)", x.on(0, 0, 61), Due.BEYOND);
        due.is("nothing changes: day", x.now(0), 0);
        due.is("nothing changes: wrote", x.count(2), 0);
        due.tuneIs("nothing changes", x, 0, 9);
        due.is("status(0)", x.status(0), 6);
        due.is("status(3)", x.status(3), 2);
    }

    private static void tension() {
        FugueNotes x = climbing();
        due.is("tension(0, 0)", x.tension(0, 0), 0);
        due.is("tension(0, 1)", x.tension(0, 1), 1);
        due.is("tension(1, 0)", x.tension(1, 0), 1);
        due.is("tension(1, 60)", x.tension(1, 60), 1);
        due.is("tension(1, 61)", x.tension(1, 61), Due.BEYOND);
        due.is("tension(1, -1)", x.tension(1, -1), Due.BEYOND);
        due.is("tension(2, 0)", x.tension(2, 0), Due.BEYOND);
        due.is("tension(-1, 0)", x.tension(-1, 0), Due.BEYOND);
        due.is("nothing changes: day", x.now(0), 0);
        due.is("status(-1)", x.status(-1), 4);
    }

    private static void home() {
        FugueNotes x = climbing();
        // Side 0 writes 8 on day 0 and one more each second day: 0 on day 8, which is the 9th.
        due.is("home(0)", x.home(0), 9);
        due.is("home(1)", x.home(1), 10);
        Due.tune(x, 1, 5, 0);
        due.is("at once", x.home(1), 0);
        x.set(0, 2, 0);
        due.is("side 0 hears it", x.home(0), 1);
        Due.tune(x, 1, 0, 5);
        due.is("never", x.home(0), Due.NONE);
        due.is("home(2)", x.home(2), Due.BEYOND);
        due.is("home(-1)", x.home(-1), Due.BEYOND);
        due.is("nothing changes: day", x.now(0), 0);
        due.is("status(3)", x.status(3), 1);
        due.is("status(0)", x.status(0), 2);
        homeByDays();
    }

    /** Against days that go by in earnest. */
    private static void homeByDays() {
        int atLast = 0;
        for (int writers = 1; writers <= 7; writers++) {
            for (int tone = 1; tone < 12; tone++) {
                for (int key = 0; key < 12; key++) {
                    FugueNotes x = slowlyHome(writers, tone, key);
                    int soonest = soonestByDays(x, 0, 201);
                    due.is("slowly home", slowlyHome(writers, tone, key).home(0), soonest > 200 ? Due.NONE : soonest);
                    atLast = Math.max(atLast, soonest > 200 ? 0 : soonest);
                }
            }
        }
        due.is("some take long", atLast > 60 ? 1 : 0, 1);
    }

    private static FugueNotes slowlyHome(int writers, int tone, int key) {
        FugueNotes x = new FugueNotes();
        for (int a = 0; a < writers; a++) {
            x.attache(0, 0);
        }
        x.attache(0, 1);
        x.set(writers - 1, 2, key);
        Due.tune(x, 1, tone);
        return x;
    }

    private static int soonestByDays(FugueNotes x, int side, int limit) {
        int n = 0;
        while (n < limit && x.side(side, 2) == 0) {
            x.days(1);
            n++;
        }
        return n;
    }

    private static void alike() {
        FugueNotes x = climbing();
        // Day 0: side 0 writes; day 1: side 1 writes the same.
        due.is("behind two days", x.alike(), 2);
        x.set(1, 2, 1);
        due.is("never", x.alike(), Due.NONE);
        x.set(1, 2, 0);
        Due.tune(x, 0, 3, 7);
        due.is("at once", x.alike(), 0);
        due.is("nothing changes: day", x.now(0), 0);
        due.is("no tunes", new FugueNotes().alike(), Due.NONE);
        FugueNotes y = new FugueNotes();
        Due.tune(y, 0, 1, 2);
        Due.tune(y, 1, 1);
        due.is("a begin is never alike", y.alike(), Due.NONE);
        due.is("status(3)", x.status(3), 1);
    }

    private static void again() {
        FugueNotes x = climbing();
        due.is("never of one tone", x.again(0), Due.NONE);
        // Side 1 is one higher each second day: 12 times.
        due.is("again(1)", x.again(1), 24);
        x.days(1);
        // Side 0 wrote on the day before.
        due.is("again(0) from day 1", x.again(0), 24);
        due.is("again(1) from day 1", x.again(1), 23);
        x.set(0, 2, 0);
        x.days(2);
        due.is("what stays was never otherwise", x.again(0), Due.NONE);
        due.is("again(2)", x.again(2), Due.BEYOND);
        due.is("again(-1)", x.again(-1), Due.BEYOND);
        due.is("status(3)", x.status(3), 2);
        due.is("status(0)", x.status(0), 2);
        due.is("no tune", new FugueNotes().again(0), Due.NONE);
        againBehindADayOnWhichItWasNot();
        againAfterManyDays();
    }

    private static void againBehindADayOnWhichItWasNot() {
        FugueNotes x = new FugueNotes();
        x.attache(0, 1);
        x.attache(0, 1);
        x.set(1, 2, 1);
        Due.tune(x, 0, 4);
        Due.tune(x, 1, 4);
        // Day 1 writes 4 as it was, day 3 writes 5, day 5 writes 4 again.
        due.is("again(1)", x.again(1), 6);
    }

    private static void againAfterManyDays() {
        FugueNotes x = new FugueNotes();
        for (int a = 0; a < 7; a++) {
            x.attache(0, 0);
        }
        x.attache(0, 1);
        x.set(6, 2, 1);
        Due.tune(x, 0, 0);
        Due.tune(x, 1, 0);
        // A round of seven takes 14 days and is one higher: 12 rounds take 168 days.
        // Side 0 is 1 from day 13 on and 0 again behind day 12 of the 12th round.
        due.is("again(0)", x.again(0), 11 * 14 + 13);
        due.is("again(1)", x.again(1), 168);
    }

    /** ON has no last day: it only looks ahead. */
    private static void aheadOfTheLastDay() {
        FugueNotes x = Due.atDay(9998);
        x.attache(0, 0);
        x.attache(0, 1);
        x.set(0, 2, 1);
        Due.tune(x, 1, 4);
        due.is("on(0, 0, 1)", x.on(0, 0, 1), 5);
        due.is("on(0, 0, 60)", x.on(0, 0, 60), (4 + 30) % 12);
        due.is("home(0)", x.home(0), 15);
    }
}
