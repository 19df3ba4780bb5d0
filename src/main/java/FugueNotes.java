/**
 * Two chanceries whose dispatches answer one another as a fugue.
 * The numbered promises that it keeps stand in the project's document.
 */
public final class FugueNotes {
    private static final int BEYOND = -1000000001;
    private static final int FULL = -1000000002;
    private static final int KIND = -1000000003;
    private static final int NONE = -1000000004;
    private static final int STATE = -1000000005;
    private static final int MISSING = -1000000006;
    private static final int SIZE = -1000000007;
    private static final int FINDINGS = 7;

    private static final int SIDES = 2;
    private static final int TONES = 12;
    private static final int KEYS = 12;
    private static final int PLACES = 12;
    private static final int LONGEST_TUNE = 12;
    private static final int MOST_ATTACHES = 8;
    private static final int MOST_BLOTS = 4095;
    private static final int LAST_DAY = 9999;
    private static final int MOST_WROTE = 9999;

    private static final int MOST_DAYS_AT_ONCE = 60;
    private static final int MOST_DAYS_AHEAD = 200;
    private static final int MOST_DAYS_TO_CHOOSE = 100;
    private static final int MOST_DAYS_TO_CALM = 20;

    private static final int LONGEST_TAPE = 120;
    private static final int SHEETS = 4;
    private static final int LONGEST_SHEET = 40;

    private static final int ATTACHE = 0;
    private static final int MIRROR = 1;
    private static final int CRAB = 2;
    private static final int PEDAL = 3;
    private static final int TABLE = 4;
    private static final int TENOR = 5;
    private static final int KINDS = 6;
    private static final int NO_KIND = -1;
    /** The kind above each kind. */
    private static final int[] ABOVE = {NO_KIND, ATTACHE, ATTACHE, ATTACHE, MIRROR, CRAB};

    private final Fugue present;
    private final Fugue kept;
    private boolean isKept;
    /** Whatever is only tried is tried here, so that no call needs a new object. */
    private final Fugue trial;
    private final Tape tape;
    private final Scribe scribe;
    private final Sheet[] sheets;
    private final int[] findings;

    public FugueNotes() {
        present = new Fugue();
        kept = new Fugue();
        isKept = false;
        trial = new Fugue();
        tape = new Tape();
        scribe = new Scribe(tape);
        sheets = new Sheet[SHEETS];
        for (int s = 0; s < SHEETS; s++) {
            sheets[s] = new Sheet();
        }
        findings = new int[FINDINGS];
    }

    // ---- tunes

    public int tune(int side, int n, long tones) {
        if (!isSide(side) || !isWithin(n, 0, LONGEST_TUNE)) {
            return found(BEYOND);
        }
        Tune tune = present.tuneOf(side);
        int had = tune.length;
        tune.clear();
        for (int i = 0; i < n; i++) {
            int group = (int) ((tones >>> (4 * i)) & 15L);
            tune.append(group % TONES);
        }
        return had;
    }

    public int tone(int side, int i) {
        if (!isSide(side) || i < 0) {
            return found(BEYOND);
        }
        return toneOrNone(present.tuneOf(side), i);
    }

    public int side(int side, int what) {
        if (!isSide(side)) {
            return found(BEYOND);
        }
        Tune tune = present.tuneOf(side);
        switch (what) {
            case 0: return tune.length;
            case 1: return tune.wideLeaps();
            case 2: return tune.isHome() ? 1 : 0;
            case 3: return tune.toneSet();
            case 4: return present.attachesOf(side);
            default: return found(BEYOND);
        }
    }

    // ---- attaches

    public int attache(int kind, int side) {
        if (!isKind(kind) || !isSide(side)) {
            return found(BEYOND);
        }
        if (present.isFull()) {
            return found(FULL);
        }
        int number = present.count;
        present.engage(kind, side, 0, 0);
        return number;
    }

    public int of(int attache, int what) {
        if (!present.has(attache)) {
            return found(BEYOND);
        }
        Attache one = present.attaches[attache];
        switch (what) {
            case 0: return one.kind;
            case 1: return one.side;
            case 2: return one.key;
            case 3: return one.blots;
            case 4: return one.wrote;
            case 5: return one.lengthTo(present.heardBy(one));
            default: return found(BEYOND);
        }
    }

    public int answer(int attache, int i) {
        if (!present.has(attache) || i < 0) {
            return found(BEYOND);
        }
        Attache one = present.attaches[attache];
        Tune heard = present.heardBy(one);
        if (i >= one.lengthTo(heard)) {
            return found(NONE);
        }
        return one.toneTo(heard, i);
    }

    public int set(int attache, int what, int v) {
        if (!present.has(attache) || !isWithin(v, 0, mostToSet(what))) {
            return found(BEYOND);
        }
        Attache one = present.attaches[attache];
        int was;
        switch (what) {
            case 1:
                was = one.side;
                one.side = v;
                return was;
            case 2:
                was = one.key;
                one.key = v;
                return was;
            case 3:
                was = one.blots;
                one.blots = v;
                return was;
            default:
                was = one.wrote;
                one.wrote = v;
                return was;
        }
    }

    public int turn(int attache, int kind) {
        if (!present.has(attache) || !isKind(kind)) {
            return found(BEYOND);
        }
        Attache one = present.attaches[attache];
        int was = one.kind;
        one.kind = kind;
        return was;
    }

    public int as(int attache, int kind) {
        if (!present.has(attache) || !isKind(kind)) {
            return found(BEYOND);
        }
        Attache one = present.attaches[attache];
        if (!isOfKind(one.kind, kind)) {
            return found(KIND);
        }
        return one.key;
    }

    // ---- days

    public int days(int n) {
        if (!isWithin(n, 1, MOST_DAYS_AT_ONCE)) {
            return found(BEYOND);
        }
        if (present.day + n > LAST_DAY) {
            return found(STATE);
        }
        present.passDays(n);
        return present.tuneOf(0).wideLeaps() + present.tuneOf(1).wideLeaps();
    }

    public int now(int what) {
        switch (what) {
            case 0: return present.day;
            case 1: return present.writingSide();
            case 2: return present.writer();
            case 3: return present.homeSides();
            case 4: return present.isAlike() ? 1 : 0;
            case 5: return present.tuneOf(0).placesUnlike(present.tuneOf(1));
            default: return found(BEYOND);
        }
    }

    public int on(int side, int i, int n) {
        if (!isSide(side) || !isWithin(i, 0, PLACES - 1) || !isWithin(n, 0, MOST_DAYS_AT_ONCE)) {
            return found(BEYOND);
        }
        startTrial();
        trial.passDays(n);
        return toneOrNone(trial.tuneOf(side), i);
    }

    public int tension(int side, int n) {
        if (!isSide(side) || !isWithin(n, 0, MOST_DAYS_AT_ONCE)) {
            return found(BEYOND);
        }
        startTrial();
        trial.passDays(n);
        return trial.tuneOf(side).wideLeaps();
    }

    public int home(int side) {
        if (!isSide(side)) {
            return found(BEYOND);
        }
        startTrial();
        int soonest = trial.passDaysUntilHome(side, MOST_DAYS_AHEAD);
        return soonest > MOST_DAYS_AHEAD ? found(NONE) : soonest;
    }

    public int alike() {
        startTrial();
        int soonest = trial.passDaysUntilAlike(MOST_DAYS_AHEAD);
        return soonest > MOST_DAYS_AHEAD ? found(NONE) : soonest;
    }

    public int again(int side) {
        if (!isSide(side)) {
            return found(BEYOND);
        }
        startTrial();
        boolean wasUnlike = false;
        for (int n = 1; n <= MOST_DAYS_AHEAD; n++) {
            trial.passDay();
            boolean isSame = trial.tuneOf(side).isSameAs(present.tuneOf(side));
            if (isSame && wasUnlike) {
                return n;
            }
            wasUnlike = wasUnlike || !isSame;
        }
        return found(NONE);
    }

    // ---- what is best

    public int key(int attache) {
        if (!present.has(attache)) {
            return found(BEYOND);
        }
        int side = present.attaches[attache].side;
        return soonestHome(attache, side, Attache.BY_KEY, KEYS, MOST_DAYS_TO_CHOOSE + 1);
    }

    public int kind(int attache) {
        if (!present.has(attache)) {
            return found(BEYOND);
        }
        int side = present.attaches[attache].side;
        return soonestHome(attache, side, Attache.BY_KIND, KINDS, MOST_DAYS_TO_CHOOSE + 1);
    }

    public int blot(int attache, int side) {
        if (!present.has(attache) || !isSide(side)) {
            return found(BEYOND);
        }
        startTrial();
        int asItIs = trial.passDaysUntilHome(side, MOST_DAYS_TO_CHOOSE);
        return soonestHome(attache, side, Attache.BY_BLOT, PLACES, asItIs);
    }

    public int calm(int attache, int side, int n) {
        if (!present.has(attache) || !isSide(side) || !isWithin(n, 0, MOST_DAYS_TO_CALM)) {
            return found(BEYOND);
        }
        int best = 0;
        int least = LONGEST_TUNE;
        for (int key = 0; key < KEYS; key++) {
            startTrial();
            trial.attaches[attache].key = key;
            trial.passDays(n);
            int leaps = trial.tuneOf(side).wideLeaps();
            if (leaps < least) {
                least = leaps;
                best = key;
            }
        }
        return 100 * best + least;
    }

    public int swap() {
        int best = NONE;
        int soonest = MOST_DAYS_TO_CHOOSE + 1;
        for (int lesser = 0; lesser < present.count; lesser++) {
            for (int other = lesser + 1; other < present.count; other++) {
                if (!startTrialSwapped(lesser, other)) {
                    continue;
                }
                int n = trial.passDaysUntilAlike(soonest - 1);
                if (n < soonest) {
                    soonest = n;
                    best = 10 * lesser + other;
                }
            }
        }
        return best == NONE ? found(NONE) : best;
    }

    public int keys(int attache, int n) {
        if (!present.has(attache) || !isWithin(n, 0, MOST_DAYS_AT_ONCE)) {
            return found(BEYOND);
        }
        int side = present.attaches[attache].side;
        int number = 0;
        for (int key = 0; key < KEYS; key++) {
            startTrial();
            trial.attaches[attache].key = key;
            trial.passDays(n);
            if (trial.tuneOf(side).isHome()) {
                number++;
            }
        }
        return number;
    }

    // ---- the text

    public int feed(int bytes, int n) {
        if (!isWithin(n, 1, 4)) {
            return found(BEYOND);
        }
        if (tape.length + n > LONGEST_TAPE) {
            return found(FULL);
        }
        for (int b = n - 1; b >= 0; b--) {
            tape.append((bytes >>> (8 * b)) & 255);
        }
        return tape.length;
    }

    public int wipe() {
        int had = tape.length;
        tape.clear();
        return had;
    }

    public int affair() {
        startTrial();
        int told = scribe.tellTo(trial);
        tape.clear();
        if (told >= 0) {
            present.become(trial);
        }
        return told;
    }

    // ---- sheets

    public int sheet(int s, int bits, int n) {
        if (!isSheet(s) || !isBits(bits)) {
            return found(BEYOND);
        }
        if (n < 0) {
            return found(SIZE);
        }
        if (n > LONGEST_SHEET) {
            return found(BEYOND);
        }
        int size = bits == 0 ? 0 : n;
        sheets[s].begin(bits, size);
        return size;
    }

    public long write(int s, int i, long v) {
        int fault = faultOfSheet(s);
        if (fault != 0) {
            return found(fault);
        }
        Sheet sheet = sheets[s];
        if (!isWithin(i, 0, sheet.size - 1)) {
            return found(BEYOND);
        }
        long was = sheet.numbers[i];
        sheet.put(i, v);
        return was;
    }

    public int copy(int s, int from, int t, int to, int n) {
        if (!isSheet(s) || !isSheet(t)) {
            return found(BEYOND);
        }
        Sheet source = sheets[s];
        Sheet target = sheets[t];
        if (source.isMissing() || target.isMissing()) {
            return found(MISSING);
        }
        if (source.bits != target.bits) {
            return found(KIND);
        }
        if (!source.hasRow(from, n) || !target.hasRow(to, n)) {
            return found(BEYOND);
        }
        System.arraycopy(source.numbers, from, target.numbers, to, n);
        return n;
    }

    public int lays(int s, int side) {
        int fault = faultOfSheetAndSide(s, side);
        if (fault != 0) {
            return found(fault);
        }
        Sheet sheet = sheets[s];
        Tune tune = present.tuneOf(side);
        tune.clear();
        for (int i = 0; i < sheet.size && i < LONGEST_TUNE; i++) {
            long number = sheet.numbers[i];
            if (number < 0 || number >= TONES) {
                break;
            }
            tune.append((int) number);
        }
        return tune.length;
    }

    public int book(int s, int side) {
        int fault = faultOfSheetAndSide(s, side);
        if (fault != 0) {
            return found(fault);
        }
        Sheet sheet = sheets[s];
        startTrial();
        for (int i = 0; i < sheet.size; i++) {
            sheet.put(i, trial.tuneOf(side).wideLeaps());
            trial.passDay();
        }
        return sheet.size;
    }

    public int read(int s, int attache) {
        int fault = faultOfSheet(s);
        if (fault != 0) {
            return found(fault);
        }
        if (!present.has(attache)) {
            return found(BEYOND);
        }
        startTrial();
        Attache guess = trial.attaches[attache];
        int pairs = 0;
        for (int kind = 0; kind < KINDS; kind++) {
            guess.kind = kind;
            for (int key = 0; key < KEYS; key++) {
                guess.key = key;
                if (isJustWritten(sheets[s], guess)) {
                    pairs++;
                }
            }
        }
        return pairs;
    }

    // ---- images

    public int image() {
        kept.become(present);
        isKept = true;
        return 1;
    }

    public int undo() {
        if (!isKept) {
            return found(NONE);
        }
        present.become(kept);
        return present.count;
    }

    public int tear() {
        int had = isKept ? 1 : 0;
        isKept = false;
        return had;
    }

    public int count(int what) {
        switch (what) {
            case 0: return present.count;
            case 1: return tape.length;
            case 2: return present.wroteTogether();
            case 3: return present.blotsTogether();
            default: return found(BEYOND);
        }
    }

    public int status(int which) {
        if (!isWithin(which, -1, FINDINGS - 1)) {
            return found(BEYOND);
        }
        if (which >= 0) {
            return findings[which];
        }
        int all = 0;
        for (int f = 0; f < FINDINGS; f++) {
            all += findings[f];
        }
        return all;
    }

    // ---- what the calls share

    /** Every finding is answered through here, so that status() misses none. */
    private int found(int finding) {
        int which = BEYOND - finding;
        if (isWithin(which, 0, FINDINGS - 1)) {
            findings[which]++;
        }
        return finding;
    }

    private int toneOrNone(Tune tune, int i) {
        return i < tune.length ? tune.toneAt(i) : found(NONE);
    }

    private void startTrial() {
        trial.become(present);
    }

    /**
     * The choice with which a side is home soonest, and sooner than in so many days.
     * Each is tried only for fewer days than the best before it took: so of several the least one stands.
     */
    private int soonestHome(int attache, int side, int by, int choices, int soonerThan) {
        int best = NONE;
        int soonest = soonerThan;
        for (int choice = 0; choice < choices; choice++) {
            startTrial();
            trial.attaches[attache].change(by, choice);
            int n = trial.passDaysUntilHome(side, soonest - 1);
            if (n < soonest) {
                soonest = n;
                best = choice;
            }
        }
        return best == NONE ? found(NONE) : best;
    }

    /** Whether there is such a trial: not for two of the same side. */
    private boolean startTrialSwapped(int lesser, int other) {
        int side = present.attaches[lesser].side;
        int otherSide = present.attaches[other].side;
        if (side == otherSide) {
            return false;
        }
        startTrial();
        trial.attaches[lesser].side = otherSide;
        trial.attaches[other].side = side;
        return true;
    }

    private boolean isJustWritten(Sheet sheet, Attache guess) {
        Tune heard = present.heardBy(guess);
        if (sheet.size != guess.lengthTo(heard)) {
            return false;
        }
        for (int i = 0; i < sheet.size; i++) {
            if (sheet.numbers[i] != guess.toneTo(heard, i)) {
                return false;
            }
        }
        return true;
    }

    /** The finding that a sheet's number calls for, 0 if none. */
    private int faultOfSheet(int s) {
        if (!isSheet(s)) {
            return BEYOND;
        }
        return sheets[s].isMissing() ? MISSING : 0;
    }

    private int faultOfSheetAndSide(int s, int side) {
        int fault = faultOfSheet(s);
        if (fault != 0) {
            return fault;
        }
        return isSide(side) ? 0 : BEYOND;
    }

    /** The greatest value that set() takes; below 0 where there is nothing to set. */
    private static int mostToSet(int what) {
        switch (what) {
            case 1: return SIDES - 1;
            case 2: return KEYS - 1;
            case 3: return MOST_BLOTS;
            case 4: return MOST_WROTE;
            default: return -1;
        }
    }

    private static boolean isWithin(int v, int least, int most) {
        return v >= least && v <= most;
    }

    private static boolean isSide(int side) {
        return isWithin(side, 0, SIDES - 1);
    }

    private static boolean isKind(int kind) {
        return isWithin(kind, 0, KINDS - 1);
    }

    private static boolean isSheet(int s) {
        return isWithin(s, 0, SHEETS - 1);
    }

    private static boolean isBits(int bits) {
        return bits == 0 || bits == 8 || bits == 16 || bits == 64;
    }

    private static boolean isOfKind(int kind, int above) {
        int at = kind;
        for (int level = 0; level < KINDS && isKind(at); level++) {
            if (at == above) {
                return true;
            }
            at = ABOVE[at];
        }
        return false;
    }

    /** A row of up to twelve tones. */
    private static final class Tune {
        private final int[] tones;
        private int length;

        Tune() {
            tones = new int[LONGEST_TUNE];
            length = 0;
        }

        void clear() {
            length = 0;
        }

        void append(int tone) {
            if (length < LONGEST_TUNE) {
                tones[length] = tone;
                length++;
            }
        }

        void become(Tune other) {
            System.arraycopy(other.tones, 0, tones, 0, LONGEST_TUNE);
            length = other.length;
        }

        int toneAt(int i) {
            return i >= 0 && i < length ? tones[i] : 0;
        }

        boolean isHome() {
            return length > 0 && tones[length - 1] == 0;
        }

        boolean isSameAs(Tune other) {
            return placesUnlike(other) == 0;
        }

        int placesUnlike(Tune other) {
            int shared = Math.min(length, other.length);
            int unlike = Math.max(length, other.length) - shared;
            for (int i = 0; i < shared; i++) {
                if (tones[i] != other.tones[i]) {
                    unlike++;
                }
            }
            return unlike;
        }

        int toneSet() {
            int set = 0;
            for (int i = 0; i < length; i++) {
                set |= 1 << tones[i];
            }
            return set;
        }

        /** What the document calls TENSION. */
        int wideLeaps() {
            int wide = 0;
            for (int i = 1; i < length; i++) {
                if (leapBetween(tones[i - 1], tones[i]) >= 4) {
                    wide++;
                }
            }
            return wide;
        }

        private static int leapBetween(int one, int other) {
            int apart = Math.abs(one - other);
            return Math.min(apart, TONES - apart);
        }
    }

    /** One who answers the tune of the other side. */
    private static final class Attache {
        private static final int BY_KEY = 0;
        private static final int BY_KIND = 1;
        private static final int BY_BLOT = 2;

        private int kind;
        private int side;
        private int key;
        private int blots;
        private int wrote;

        void become(Attache other) {
            kind = other.kind;
            side = other.side;
            key = other.key;
            blots = other.blots;
            wrote = other.wrote;
        }

        void change(int by, int choice) {
            switch (by) {
                case BY_KEY:
                    key = choice;
                    break;
                case BY_KIND:
                    kind = choice;
                    break;
                default:
                    blots ^= 1 << choice;
                    break;
            }
        }

        int lengthTo(Tune heard) {
            if (kind == PEDAL && heard.length > 6) {
                return heard.length - 1;
            }
            return heard.length;
        }

        int toneTo(Tune heard, int i) {
            int tone = turnedAbout(heard, i) + key;
            if (isBlotted(i)) {
                tone += 6;
            }
            return Math.floorMod(tone, TONES);
        }

        void writeTo(Tune heard, Tune own) {
            int length = lengthTo(heard);
            own.clear();
            for (int i = 0; i < length; i++) {
                own.append(toneTo(heard, i));
            }
            wrote = Math.min(wrote + 1, MOST_WROTE);
        }

        private boolean isBlotted(int i) {
            return i >= 0 && i < PLACES && ((blots >> i) & 1) == 1;
        }

        /** A tone before key and blots, not yet a rest of twelve. */
        private int turnedAbout(Tune heard, int i) {
            if (i < 0 || i >= heard.length) {
                return 0;
            }
            int[] tones = heard.tones;
            int last = heard.length - 1;
            switch (kind) {
                case MIRROR: return 2 * tones[0] - tones[i];
                case CRAB: return tones[last - i];
                case PEDAL: return tones[0];
                case TABLE: return 2 * tones[last] - tones[last - i];
                case TENOR: return tones[last - i] + (i & 1);
                default: return tones[i];
            }
        }
    }

    /** The tunes, the attaches and the day: what is kept by an image and goes on by days. */
    private static final class Fugue {
        private final Tune tune0;
        private final Tune tune1;
        private final Attache[] attaches;
        private int count;
        private int day;

        Fugue() {
            tune0 = new Tune();
            tune1 = new Tune();
            attaches = new Attache[MOST_ATTACHES];
            for (int a = 0; a < MOST_ATTACHES; a++) {
                attaches[a] = new Attache();
            }
            count = 0;
            day = 0;
        }

        void become(Fugue other) {
            tune0.become(other.tune0);
            tune1.become(other.tune1);
            for (int a = 0; a < other.count; a++) {
                attaches[a].become(other.attaches[a]);
            }
            count = other.count;
            day = other.day;
        }

        Tune tuneOf(int side) {
            return side == 0 ? tune0 : tune1;
        }

        Tune heardBy(Attache one) {
            return tuneOf(1 - one.side);
        }

        boolean has(int attache) {
            return attache >= 0 && attache < count;
        }

        boolean isFull() {
            return count >= MOST_ATTACHES;
        }

        void engage(int kind, int side, int key, int blots) {
            if (isFull()) {
                return;
            }
            Attache one = attaches[count];
            one.kind = kind;
            one.side = side;
            one.key = key;
            one.blots = blots;
            one.wrote = 0;
            count++;
        }

        int attachesOf(int side) {
            int number = 0;
            for (int a = 0; a < count; a++) {
                if (attaches[a].side == side) {
                    number++;
                }
            }
            return number;
        }

        int writingSide() {
            return day % 2;
        }

        /** The attache whose turn it is, -1 if the side that writes has none. */
        int writer() {
            int side = writingSide();
            int number = attachesOf(side);
            if (number == 0) {
                return -1;
            }
            int before = (day / 2) % number;
            for (int a = 0; a < count; a++) {
                if (attaches[a].side == side) {
                    if (before == 0) {
                        return a;
                    }
                    before--;
                }
            }
            return -1;
        }

        void passDay() {
            int writer = writer();
            if (has(writer)) {
                Attache one = attaches[writer];
                Tune heard = heardBy(one);
                if (heard.length > 0) {
                    one.writeTo(heard, tuneOf(one.side));
                }
            }
            day++;
        }

        void passDays(int n) {
            for (int d = 0; d < n; d++) {
                passDay();
            }
        }

        /** How many days it took; more than the limit if it did not come home within it. */
        int passDaysUntilHome(int side, int limit) {
            Tune tune = tuneOf(side);
            for (int n = 0; n <= limit; n++) {
                if (tune.isHome()) {
                    return n;
                }
                passDay();
            }
            return limit + 1;
        }

        int passDaysUntilAlike(int limit) {
            for (int n = 0; n <= limit; n++) {
                if (isAlike()) {
                    return n;
                }
                passDay();
            }
            return limit + 1;
        }

        boolean isAlike() {
            return tune0.length > 0 && tune0.isSameAs(tune1);
        }

        int homeSides() {
            return (tune0.isHome() ? 1 : 0) | (tune1.isHome() ? 2 : 0);
        }

        int wroteTogether() {
            int all = 0;
            for (int a = 0; a < count; a++) {
                all += attaches[a].wrote;
            }
            return all;
        }

        int blotsTogether() {
            int all = 0;
            for (int a = 0; a < count; a++) {
                all += Integer.bitCount(attaches[a].blots);
            }
            return all;
        }
    }

    /** Bytes that wait to be told as an affair. */
    private static final class Tape {
        private static final int NO_BYTE = -1;

        private final int[] bytes;
        private int length;

        Tape() {
            bytes = new int[LONGEST_TAPE];
            length = 0;
        }

        void clear() {
            length = 0;
        }

        void append(int b) {
            if (length < LONGEST_TAPE) {
                bytes[length] = b;
                length++;
            }
        }

        int byteAt(int i) {
            return i >= 0 && i < length ? bytes[i] : NO_BYTE;
        }
    }

    /** Reads the tape token by token; where it stops for a fault, the token it holds is the fault. */
    private static final class Scribe {
        private static final int END = 0;
        private static final int WORD = 1;
        private static final int NUMBER = 2;
        private static final int SIGN = 3;
        private static final int OTHER = 4;
        private static final int TOO_GREAT = 1000;

        private final Tape tape;
        private int token;
        private int start;
        private int end;
        private int number;

        Scribe(Tape tape) {
            this.tape = tape;
            token = END;
            start = 0;
            end = 0;
            number = 0;
        }

        /** How many items were told to the draft, or -1 less the place of the fault. */
        int tellTo(Fugue draft) {
            end = 0;
            advance();
            for (int items = 1; items <= LONGEST_TAPE; items++) {
                if (!tellItem(draft)) {
                    break;
                }
                if (token == END) {
                    return items;
                }
                if (token != SIGN) {
                    break;
                }
                advance();
            }
            return -1 - start;
        }

        private boolean tellItem(Fugue draft) {
            if (isWord("tune")) {
                return tellTune(draft);
            }
            int kind = kindNamed();
            if (kind == NO_KIND || draft.isFull()) {
                return false;
            }
            return tellAttache(draft, kind);
        }

        private boolean tellTune(Fugue draft) {
            advance();
            if (!isNumberTo(SIDES - 1)) {
                return false;
            }
            Tune tune = draft.tuneOf(number);
            tune.clear();
            advance();
            for (int i = 0; i < LONGEST_TUNE && isNumberTo(TONES - 1); i++) {
                tune.append(number);
                advance();
            }
            return tune.length > 0 && token != NUMBER;
        }

        private boolean tellAttache(Fugue draft, int kind) {
            advance();
            if (!isWord("of")) {
                return false;
            }
            advance();
            if (!isNumberTo(SIDES - 1)) {
                return false;
            }
            int side = number;
            int key = 0;
            int blots = 0;
            advance();
            if (isWord("key")) {
                advance();
                if (!isNumberTo(KEYS - 1)) {
                    return false;
                }
                key = number;
                advance();
            }
            if (isWord("blot")) {
                advance();
                if (!isNumberTo(PLACES - 1)) {
                    return false;
                }
                blots = 1 << number;
                advance();
            }
            draft.engage(kind, side, key, blots);
            return true;
        }

        private int kindNamed() {
            for (int kind = 0; kind < KINDS; kind++) {
                if (isWord(nameOf(kind))) {
                    return kind;
                }
            }
            return NO_KIND;
        }

        private static String nameOf(int kind) {
            switch (kind) {
                case MIRROR: return "mirror";
                case CRAB: return "crab";
                case PEDAL: return "pedal";
                case TABLE: return "table";
                case TENOR: return "tenor";
                default: return "attache";
            }
        }

        private boolean isNumberTo(int most) {
            return token == NUMBER && number <= most;
        }

        private boolean isWord(String word) {
            if (token != WORD || end - start != word.length()) {
                return false;
            }
            for (int i = 0; i < word.length(); i++) {
                if (tape.byteAt(start + i) != word.charAt(i)) {
                    return false;
                }
            }
            return true;
        }

        private void advance() {
            start = end;
            while (start < tape.length && tape.byteAt(start) == ' ') {
                start++;
            }
            end = start;
            if (start >= tape.length) {
                token = END;
            } else if (isLetter(tape.byteAt(start))) {
                takeWord();
            } else if (isDigit(tape.byteAt(start))) {
                takeNumber();
            } else {
                token = tape.byteAt(start) == ';' ? SIGN : OTHER;
                end = start + 1;
            }
        }

        private static boolean isLetter(int b) {
            return b >= 'a' && b <= 'z';
        }

        private static boolean isDigit(int b) {
            return b >= '0' && b <= '9';
        }

        private void takeWord() {
            token = WORD;
            while (end < tape.length && isLetter(tape.byteAt(end))) {
                end++;
            }
        }

        /** Too great a number is held, as a long row of digits would not fit. */
        private void takeNumber() {
            token = NUMBER;
            number = 0;
            while (end < tape.length && isDigit(tape.byteAt(end))) {
                number = Math.min(10 * number + tape.byteAt(end) - '0', TOO_GREAT);
                end++;
            }
        }
    }

    /** A row of numbers of 8, 16 or 64 bits; of no bits while it is missing. */
    private static final class Sheet {
        private final long[] numbers;
        private int bits;
        private int size;

        Sheet() {
            numbers = new long[LONGEST_SHEET];
            bits = 0;
            size = 0;
        }

        void begin(int newBits, int newSize) {
            bits = newBits;
            size = newSize;
            for (int i = 0; i < LONGEST_SHEET; i++) {
                numbers[i] = 0L;
            }
        }

        boolean isMissing() {
            return bits == 0;
        }

        /** Asked by a difference, as a sum of two great numbers could wrap around. */
        boolean hasRow(int from, int n) {
            return from >= 0 && n >= 0 && n <= size && from <= size - n;
        }

        void put(int i, long v) {
            if (i >= 0 && i < size) {
                numbers[i] = lowestBits(v);
            }
        }

        private long lowestBits(long v) {
            switch (bits) {
                case 8: return (byte) v;
                case 16: return (short) v;
                default: return v;
            }
        }
    }
}
