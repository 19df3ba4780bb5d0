import java.util.Arrays;
import java.util.Random;
import java.util.function.IntFunction;

/** Runs of calls by chance (always the same ones), each answer held against Model's. */
public final class ModelTest {
    private static final int RUNS = 800;
    /** With what a step calls beside, an object stays below its 512 calls. */
    private static final int CALLS = 150;
    private static final Due due = new Due();

    private final Random chance;
    private final FugueNotes x = new FugueNotes();
    private Model model = new Model();
    private Model kept = null;
    private final StringBuilder tape = new StringBuilder();
    private final long[][] sheets = new long[4][];
    private final int[] bits = new int[4];
    private final int[] findings = new int[7];

    private ModelTest(long seed) {
        chance = new Random(seed);
    }

    public static void main(String[] args) {
        for (int run = 0; run < RUNS; run++) {
            ModelTest test = new ModelTest(run);
            for (int call = 0; call < CALLS; call++) {
                test.step("run " + run + ", call " + call + ", ", call < 30);
            }
        }
        due.end();
    }

    /** Mostly within the bounds, at times just outside them or far away. */
    private int some(int least, int most) {
        int roll = chance.nextInt(40);
        if (roll == 0) {
            return least - 1;
        }
        if (roll == 1) {
            return most + 1;
        }
        if (roll == 2) {
            int[] far = {Integer.MIN_VALUE, Integer.MAX_VALUE, -1000000, 1 << 16, 256, -256};
            return far[chance.nextInt(far.length)];
        }
        return least + chance.nextInt(most - least + 1);
    }

    private static boolean in(int v, int least, int most) {
        return least <= v && v <= most;
    }

    private int attache() {
        return some(0, Math.max(0, model.writers.size() - 1));
    }

    private boolean has(int a) {
        return in(a, 0, model.writers.size() - 1);
    }

    private void is(String what, long got, long want, boolean isFinding) {
        if (isFinding) {
            findings[(int) (-1000000001 - want)]++;
        }
        due.is(what, got, want);
    }

    private void is(String what, long got, int want) {
        is(what, got, want, want < -1000000000);
    }

    private void step(String at, boolean early) {
        switch (early ? chance.nextInt(14) : chance.nextInt(44)) {
            case 0: case 1: stepTune(at); break;
            case 2: case 3: stepAttache(at); break;
            case 4: case 5: case 6: stepSet(at); break;
            case 7: stepTurn(at); break;
            case 8: stepDays(at); break;
            case 9: case 10: case 11: stepSheet(at); break;
            case 12: stepAffair(at); break;
            case 13: stepImage(at); break;
            case 14: case 15: stepLook(at); break;
            case 16: case 17: stepLookAtAttache(at); break;
            case 18: case 19: stepNow(at); break;
            case 20: case 21: stepOn(at); break;
            case 22: stepFirst(at); break;
            case 23: stepAgain(at); break;
            case 24: case 25: stepKeyOrKind(at); break;
            case 26: case 27: stepBlot(at); break;
            case 28: case 29: stepCalmOrKeys(at); break;
            case 30: stepSwap(at); break;
            case 31: case 32: stepFeed(at); break;
            case 33: case 34: case 35: stepWrite(at); break;
            case 36: case 37: stepCopy(at); break;
            case 38: case 39: stepLaysOrBook(at); break;
            case 40: case 41: stepRead(at); break;
            default: stepCount(at); break;
        }
    }

    private void stepTune(String at) {
        int side = some(0, 1);
        int n = some(0, chance.nextInt(3) == 0 ? 12 : 3);
        long tones = chance.nextLong();
        if (chance.nextBoolean()) {
            tones &= 0x7777_7777_7777L;
        }
        int want = Due.BEYOND;
        if (in(side, 0, 1) && in(n, 0, 12)) {
            want = model.tunes[side].length;
            int[] row = new int[n];
            for (int i = 0; i < n; i++) {
                row[i] = (int) ((tones >> (4 * i)) & 15) % 12;
            }
            model.tunes[side] = row;
        }
        is(at + "tune(" + side + ", " + n + ", " + tones + ")", x.tune(side, n, tones), want);
    }

    private void stepAttache(String at) {
        int kind = some(0, 5);
        int side = some(0, 1);
        int want;
        if (!in(kind, 0, 5) || !in(side, 0, 1)) {
            want = Due.BEYOND;
        } else if (model.writers.size() == 8) {
            want = Due.FULL;
        } else {
            want = model.writers.size();
            Model.Writer w = new Model.Writer();
            w.kind = kind;
            w.side = side;
            model.writers.add(w);
        }
        is(at + "attache(" + kind + ", " + side + ")", x.attache(kind, side), want);
    }

    private void stepSet(String at) {
        int[] most = {0, 1, 11, 4095, 9999};
        int a = attache();
        int what = some(1, 4);
        int v = in(what, 1, 4) ? some(0, most[what]) : 0;
        int want = Due.BEYOND;
        if (has(a) && in(what, 1, 4) && in(v, 0, most[what])) {
            Model.Writer w = model.writers.get(a);
            want = new int[] {0, w.side, w.key, w.blots, w.wrote}[what];
            w.side = what == 1 ? v : w.side;
            w.key = what == 2 ? v : w.key;
            w.blots = what == 3 ? v : w.blots;
            w.wrote = what == 4 ? v : w.wrote;
        }
        is(at + "set(" + a + ", " + what + ", " + v + ")", x.set(a, what, v), want);
    }

    private void stepTurn(String at) {
        int a = attache();
        int kind = some(0, 5);
        int want = Due.BEYOND;
        if (has(a) && in(kind, 0, 5)) {
            want = model.writers.get(a).kind;
            model.writers.get(a).kind = kind;
        }
        is(at + "turn(" + a + ", " + kind + ")", x.turn(a, kind), want);
    }

    private void stepDays(String at) {
        int n = some(1, 60);
        int want;
        if (!in(n, 1, 60)) {
            want = Due.BEYOND;
        } else if (model.day + n > 9999) {
            want = Due.STATE;
        } else {
            model.go(n);
            want = Model.tension(model.tunes[0]) + Model.tension(model.tunes[1]);
        }
        is(at + "days(" + n + ")", x.days(n), want);
    }

    private void stepSheet(String at) {
        int s = some(0, 3);
        int[] all = {8, 16, 64, 8, 16, 64, 0, 32};
        int b = all[chance.nextInt(all.length)];
        int n = chance.nextBoolean() ? some(0, 40) : chance.nextInt(5);
        int want;
        if (!in(s, 0, 3) || b == 32) {
            want = Due.BEYOND;
        } else if (n < 0) {
            want = Due.SIZE;
        } else if (n > 40) {
            want = Due.BEYOND;
        } else {
            bits[s] = b;
            sheets[s] = b == 0 ? null : new long[n];
            want = b == 0 ? 0 : n;
        }
        is(at + "sheet(" + s + ", " + b + ", " + n + ")", x.sheet(s, b, n), want);
    }

    private String text() {
        String[] words = {
            "attache", "mirror", "crab", "pedal", "table", "tenor", "tune", "of", "key", "blot", ";", "0", "1", "11",
            "12", "007", "1000", " ", "#", "x",
        };
        StringBuilder text = new StringBuilder();
        int items = 1 + chance.nextInt(4);
        for (int i = 0; i < items; i++) {
            text.append(i == 0 ? "" : chance.nextBoolean() ? ";" : " ; ");
            if (chance.nextInt(3) == 0) {
                text.append(words[chance.nextInt(6)]).append(" of ").append(chance.nextInt(2));
                text.append(chance.nextBoolean() ? "" : " key " + chance.nextInt(12));
                text.append(chance.nextBoolean() ? "" : "blot" + chance.nextInt(12));
            } else {
                text.append("tune").append(chance.nextInt(2));
                int n = chance.nextInt(8) == 0 ? 10 + chance.nextInt(4) : 1 + chance.nextInt(3);
                for (int t = 0; t < n; t++) {
                    text.append(' ').append(chance.nextInt(12));
                }
            }
        }
        if (chance.nextInt(3) == 0) {
            text.insert(chance.nextInt(text.length() + 1), words[chance.nextInt(words.length)]);
        }
        if (chance.nextInt(4) == 0) {
            text.setLength(chance.nextInt(text.length() + 1));
        }
        text.setLength(Math.min(text.length(), 120));
        return text.toString();
    }

    private void stepAffair(String at) {
        String text = tape.toString();
        if (chance.nextInt(5) != 0) {
            is(at + "wipe()", x.wipe(), tape.length());
            text = text();
            Due.feed(x, text);
        }
        tape.setLength(0);
        int want = TextModel.tell(text, model);
        is(at + "affair of '" + text + "'", x.affair(), want);
    }

    private void stepImage(String at) {
        int roll = chance.nextInt(5);
        if (roll < 2) {
            kept = model.twin();
            is(at + "image()", x.image(), 1);
        } else if (roll < 4) {
            int want = kept == null ? Due.NONE : kept.writers.size();
            model = kept == null ? model : kept.twin();
            is(at + "undo()", x.undo(), want);
        } else {
            int want = kept == null ? 0 : 1;
            kept = null;
            is(at + "tear()", x.tear(), want);
        }
    }

    private void stepLook(String at) {
        int side = some(0, 1);
        int i = some(0, 12);
        int want = !in(side, 0, 1) || i < 0 ? Due.BEYOND
                : i < model.tunes[side].length ? model.tunes[side][i] : Due.NONE;
        is(at + "tone(" + side + ", " + i + ")", x.tone(side, i), want);
        int what = some(0, 4);
        want = Due.BEYOND;
        if (in(side, 0, 1) && in(what, 0, 4)) {
            int[] t = model.tunes[side];
            int set = Arrays.stream(t).map(tone -> 1 << tone).reduce(0, (p, q) -> p | q);
            int own = (int) model.writers.stream().filter(w -> w.side == side).count();
            want = new int[] {t.length, Model.tension(t), model.isHome(side) ? 1 : 0, set, own}[what];
        }
        is(at + "side(" + side + ", " + what + ")", x.side(side, what), want);
    }

    private void stepLookAtAttache(String at) {
        int a = attache();
        int what = some(0, 5);
        int i = some(0, 12);
        int kind = some(0, 5);
        int[] wants = {Due.BEYOND, Due.BEYOND, Due.BEYOND};
        if (has(a)) {
            Model.Writer w = model.writers.get(a);
            int[] row = w.answer(model.tunes[1 - w.side]);
            if (in(what, 0, 5)) {
                wants[0] = new int[] {w.kind, w.side, w.key, w.blots, w.wrote, row.length}[what];
            }
            if (i >= 0) {
                wants[1] = i < row.length ? row[i] : Due.NONE;
            }
            if (in(kind, 0, 5)) {
                boolean under = kind == w.kind || kind == 0 || w.kind == 4 && kind == 1 || w.kind == 5 && kind == 2;
                wants[2] = under ? w.key : Due.KIND;
            }
        }
        is(at + "of(" + a + ", " + what + ")", x.of(a, what), wants[0]);
        is(at + "answer(" + a + ", " + i + ")", x.answer(a, i), wants[1]);
        is(at + "as(" + a + ", " + kind + ")", x.as(a, kind), wants[2]);
    }

    private void stepNow(String at) {
        int what = some(0, 5);
        int want = Due.BEYOND;
        if (in(what, 0, 5)) {
            int[] t = model.tunes[0];
            int[] u = model.tunes[1];
            int unlike = 0;
            for (int i = 0; i < 12; i++) {
                int one = i < t.length ? t[i] : -1;
                int other = i < u.length ? u[i] : -1;
                unlike += one == other ? 0 : 1;
            }
            int home = (model.isHome(0) ? 1 : 0) + (model.isHome(1) ? 2 : 0);
            int alike = model.isAlike() ? 1 : 0;
            want = new int[] {model.day, model.day % 2, model.turn(), home, alike, unlike}[what];
        }
        is(at + "now(" + what + ")", x.now(what), want);
    }

    private void stepOn(String at) {
        int side = some(0, 1);
        int i = chance.nextBoolean() ? some(0, 11) : some(0, 2);
        int n = some(0, 60);
        int want = Due.BEYOND;
        int tension = Due.BEYOND;
        if (in(side, 0, 1) && in(n, 0, 60)) {
            int[] t = model.on(n).tunes[side];
            want = !in(i, 0, 11) ? Due.BEYOND : i < t.length ? t[i] : Due.NONE;
            tension = Model.tension(t);
        }
        is(at + "on(" + side + ", " + i + ", " + n + ")", x.on(side, i, n), want);
        is(at + "tension(" + side + ", " + n + ")", x.tension(side, n), tension);
    }

    private void stepFirst(String at) {
        int side = some(0, 1);
        int want = Due.BEYOND;
        if (in(side, 0, 1)) {
            int n = model.first(m -> m.isHome(side), 200);
            want = n < 0 ? Due.NONE : n;
        }
        is(at + "home(" + side + ")", x.home(side), want);
        int n = model.first(Model::isAlike, 200);
        is(at + "alike()", x.alike(), n < 0 ? Due.NONE : n);
    }

    private void stepAgain(String at) {
        int side = some(0, 1);
        is(at + "again(" + side + ")", x.again(side), in(side, 0, 1) ? model.again(side) : Due.BEYOND);
    }

    /** The least of the choices that are soonest; -1 is none. */
    private static int soonest(int choices, int limit, IntFunction<Integer> daysOf) {
        int best = Due.NONE;
        int least = limit;
        for (int c = choices - 1; c >= 0; c--) {
            int n = daysOf.apply(c);
            if (n >= 0 && n <= least) {
                least = n;
                best = c;
            }
        }
        return best;
    }

    private void stepKeyOrKind(String at) {
        int a = attache();
        int key = Due.BEYOND;
        int kind = Due.BEYOND;
        if (has(a)) {
            int side = model.writers.get(a).side;
            key = soonest(12, 100, c -> model.firstWith(a, w -> w.key = c, m -> m.isHome(side), 100));
            kind = soonest(6, 100, c -> model.firstWith(a, w -> w.kind = c, m -> m.isHome(side), 100));
        }
        is(at + "key(" + a + ")", x.key(a), key);
        is(at + "kind(" + a + ")", x.kind(a), kind);
    }

    private void stepBlot(String at) {
        int a = attache();
        int side = some(0, 1);
        int want = Due.BEYOND;
        if (has(a) && in(side, 0, 1)) {
            int asItIs = model.first(m -> m.isHome(side), 100);
            int limit = asItIs < 0 ? 100 : asItIs - 1;
            want = soonest(12, limit, c -> model.firstWith(a, w -> w.blots ^= 1 << c, m -> m.isHome(side), 100));
        }
        is(at + "blot(" + a + ", " + side + ")", x.blot(a, side), want);
    }

    private void stepCalmOrKeys(String at) {
        int a = attache();
        int side = some(0, 1);
        int n = some(0, 20);
        int calm = Due.BEYOND;
        int keys = Due.BEYOND;
        if (has(a) && in(n, 0, 60)) {
            int best = Integer.MAX_VALUE;
            keys = 0;
            for (int key = 11; key >= 0; key--) {
                Model m = model.twin();
                m.writers.get(a).key = key;
                m.go(n);
                keys += m.isHome(m.writers.get(a).side) ? 1 : 0;
                if (in(side, 0, 1)) {
                    int tension = Model.tension(m.tunes[side]);
                    best = best == Integer.MAX_VALUE || tension <= best % 100 ? 100 * key + tension : best;
                }
            }
            calm = in(side, 0, 1) && n <= 20 ? best : Due.BEYOND;
        }
        is(at + "calm(" + a + ", " + side + ", " + n + ")", x.calm(a, side, n), calm);
        is(at + "keys(" + a + ", " + n + ")", x.keys(a, n), keys);
    }

    private void stepSwap(String at) {
        is(at + "swap()", x.swap(), model.swap());
    }

    private void stepFeed(String at) {
        int n = some(1, 4);
        int bytes = chance.nextInt();
        int want;
        if (!in(n, 1, 4)) {
            want = Due.BEYOND;
        } else if (tape.length() + n > 120) {
            want = Due.FULL;
        } else {
            for (int b = n - 1; b >= 0; b--) {
                tape.append((char) ((bytes >> (8 * b)) & 255));
            }
            want = tape.length();
        }
        is(at + "feed(" + bytes + ", " + n + ")", x.feed(bytes, n), want);
    }

    private int faultOfSheet(int s) {
        return !in(s, 0, 3) ? Due.BEYOND : sheets[s] == null ? Due.MISSING : 0;
    }

    private void stepWrite(String at) {
        int s = some(0, 3);
        int i = some(0, 8);
        long v = chance.nextInt(3) == 0 ? chance.nextLong() : chance.nextInt(12);
        String what = at + "write(" + s + ", " + i + ", " + v + ")";
        int fault = faultOfSheet(s);
        if (fault == 0 && !in(i, 0, sheets[s].length - 1)) {
            fault = Due.BEYOND;
        }
        if (fault != 0) {
            is(what, x.write(s, i, v), fault);
            return;
        }
        long was = sheets[s][i];
        sheets[s][i] = v << (64 - bits[s]) >> (64 - bits[s]);
        is(what, x.write(s, i, v), was, false);
    }

    private void stepCopy(String at) {
        int s = some(0, 3);
        int t = some(0, 3);
        int from = some(0, 3);
        int to = some(0, 3);
        int n = some(0, 6);
        int want;
        if (!in(s, 0, 3) || !in(t, 0, 3)) {
            want = Due.BEYOND;
        } else if (sheets[s] == null || sheets[t] == null) {
            want = Due.MISSING;
        } else if (bits[s] != bits[t]) {
            want = Due.KIND;
        } else if (from < 0 || to < 0 || n < 0
                || (long) from + n > sheets[s].length || (long) to + n > sheets[t].length) {
            want = Due.BEYOND;
        } else {
            long[] were = sheets[s].clone();
            for (int i = 0; i < n; i++) {
                sheets[t][to + i] = were[from + i];
            }
            want = n;
        }
        is(at + "copy(" + s + ", " + from + ", " + t + ", " + to + ", " + n + ")", x.copy(s, from, t, to, n), want);
    }

    private void stepLaysOrBook(String at) {
        int s = some(0, 3);
        int side = some(0, 1);
        int want = faultOfSheet(s);
        if (want == 0 && !in(side, 0, 1)) {
            want = Due.BEYOND;
        }
        boolean lays = chance.nextBoolean();
        if (want == 0 && lays) {
            int[] row = new int[12];
            while (want < 12 && want < sheets[s].length && 0 <= sheets[s][want] && sheets[s][want] <= 11) {
                row[want] = (int) sheets[s][want];
                want++;
            }
            model.tunes[side] = Arrays.copyOf(row, want);
        } else if (want == 0) {
            want = sheets[s].length;
            for (int n = 0; n < want; n++) {
                sheets[s][n] = Model.tension(model.on(n).tunes[side]);
            }
        }
        if (lays) {
            is(at + "lays(" + s + ", " + side + ")", x.lays(s, side), want);
        } else {
            is(at + "book(" + s + ", " + side + ")", x.book(s, side), want);
        }
    }

    /** At times what an attache would write is written first, so that there is something to read. */
    private void stepRead(String at) {
        int s = some(0, 3);
        int a = attache();
        int want = faultOfSheet(s);
        if (want == 0 && !has(a)) {
            want = Due.BEYOND;
        }
        if (want == 0) {
            Model.Writer w = model.writers.get(a).twin();
            int[] heard = model.tunes[1 - w.side];
            if (chance.nextInt(3) != 0) {
                writeAnswer(s, model.writers.get(a).answer(heard));
            }
            for (int pair = 0; pair < 72; pair++) {
                w.kind = pair / 12;
                w.key = pair % 12;
                long[] row = Arrays.stream(w.answer(heard)).asLongStream().toArray();
                want += Arrays.equals(row, sheets[s]) ? 1 : 0;
            }
        }
        is(at + "read(" + s + ", " + a + ")", x.read(s, a), want);
    }

    private void writeAnswer(int s, int[] row) {
        x.sheet(s, 16, row.length);
        bits[s] = 16;
        sheets[s] = new long[row.length];
        for (int i = 0; i < row.length; i++) {
            x.write(s, i, row[i]);
            sheets[s][i] = row[i];
        }
    }

    private void stepCount(String at) {
        int what = some(0, 3);
        int wrote = model.writers.stream().mapToInt(w -> w.wrote).sum();
        int blots = model.writers.stream().mapToInt(w -> Integer.toBinaryString(w.blots).replace("0", "").length()).sum();
        int[] all = {model.writers.size(), tape.length(), wrote, blots};
        is(at + "count(" + what + ")", x.count(what), in(what, 0, 3) ? all[what] : Due.BEYOND);
        int which = some(-1, 6);
        int want = which == -1 ? Arrays.stream(findings).sum() : in(which, 0, 6) ? findings[which] : Due.BEYOND;
        is(at + "status(" + which + ")", x.status(which), want);
    }
}
