import java.util.ArrayList;
import java.util.Arrays;
import java.util.List;
import java.util.function.Consumer;
import java.util.function.Predicate;
import java.util.stream.IntStream;

/**
 * The document's section 1 said a second time, in another way and with no thought of cost,
 * so that ModelTest can hold FugueNotes against it. A row of tones is never changed in place.
 */
final class Model {
    static final class Writer {
        int kind;
        int side;
        int key;
        int blots;
        int wrote;

        Writer twin() {
            Writer w = new Writer();
            w.kind = kind;
            w.side = side;
            w.key = key;
            w.blots = blots;
            w.wrote = wrote;
            return w;
        }

        /** Each kind is said by the kind above it, as the document does. */
        int[] answer(int[] t) {
            int[] row = plain(kind, t);
            for (int i = 0; i < row.length; i++) {
                row[i] = rest(row[i] + key + ((blots & (1 << i)) != 0 ? 6 : 0));
            }
            return row;
        }

        private static int[] plain(int kind, int[] t) {
            if (t.length == 0) {
                return new int[0];
            }
            switch (kind) {
                case 0:
                    return t.clone();
                case 1:
                    return plain(0, Arrays.stream(t).map(tone -> rest(2 * t[0] - tone)).toArray());
                case 2:
                    return plain(0, backwards(t));
                case 3: {
                    int[] row = new int[t.length > 6 ? t.length - 1 : t.length];
                    Arrays.fill(row, t[0]);
                    return row;
                }
                case 4:
                    return plain(1, backwards(t));
                default: {
                    int[] row = plain(2, t);
                    for (int i = 1; i < row.length; i += 2) {
                        row[i] = rest(row[i] + 1);
                    }
                    return row;
                }
            }
        }
    }

    int[][] tunes = {new int[0], new int[0]};
    List<Writer> writers = new ArrayList<>();
    int day = 0;

    static int rest(int v) {
        return ((v % 12) + 12) % 12;
    }

    private static int[] backwards(int[] t) {
        return IntStream.range(0, t.length).map(i -> t[t.length - 1 - i]).toArray();
    }

    static int tension(int[] t) {
        int wide = 0;
        for (int i = 0; i + 1 < t.length; i++) {
            int up = rest(t[i + 1] - t[i]);
            int down = rest(t[i] - t[i + 1]);
            wide += Math.min(up, down) >= 4 ? 1 : 0;
        }
        return wide;
    }

    static boolean isHome(int[] t) {
        return t.length > 0 && t[t.length - 1] == 0;
    }

    boolean isHome(int side) {
        return isHome(tunes[side]);
    }

    boolean isAlike() {
        return tunes[0].length > 0 && Arrays.equals(tunes[0], tunes[1]);
    }

    Model twin() {
        Model m = new Model();
        m.tunes = tunes.clone();
        for (Writer w : writers) {
            m.writers.add(w.twin());
        }
        m.day = day;
        return m;
    }

    int turn() {
        List<Integer> own = new ArrayList<>();
        for (int a = 0; a < writers.size(); a++) {
            if (writers.get(a).side == day % 2) {
                own.add(a);
            }
        }
        return own.isEmpty() ? -1 : own.get((day / 2) % own.size());
    }

    Model go(int n) {
        for (int d = 0; d < n; d++) {
            int a = turn();
            if (a >= 0) {
                Writer w = writers.get(a);
                int[] heard = tunes[w.side == 0 ? 1 : 0];
                if (heard.length > 0) {
                    tunes[w.side] = w.answer(heard);
                    w.wrote = w.wrote >= 9999 ? 9999 : w.wrote + 1;
                }
            }
            day++;
        }
        return this;
    }

    Model on(int n) {
        return twin().go(n);
    }

    /** In how many days it first is so; -1 if not within the limit. */
    int first(Predicate<Model> so, int limit) {
        Model m = twin();
        for (int n = 0; n <= limit; n++) {
            if (so.test(m)) {
                return n;
            }
            m.go(1);
        }
        return -1;
    }

    /** As first(), with one writer changed. */
    int firstWith(int a, Consumer<Writer> change, Predicate<Model> so, int limit) {
        Model m = twin();
        change.accept(m.writers.get(a));
        return m.first(so, limit);
    }

    int again(int side) {
        boolean unlike = false;
        for (int n = 1; n <= 200; n++) {
            boolean same = Arrays.equals(on(n).tunes[side], tunes[side]);
            if (same && unlike) {
                return n;
            }
            unlike |= !same;
        }
        return Due.NONE;
    }

    int swap() {
        int best = Due.NONE;
        int soonest = Integer.MAX_VALUE;
        for (int a = 0; a < writers.size(); a++) {
            for (int b = a + 1; b < writers.size(); b++) {
                if (writers.get(a).side == writers.get(b).side) {
                    continue;
                }
                Model m = twin();
                m.writers.get(a).side = writers.get(b).side;
                m.writers.get(b).side = writers.get(a).side;
                int n = m.first(Model::isAlike, 100);
                if (n >= 0 && n < soonest) {
                    soonest = n;
                    best = 10 * a + b;
                }
            }
        }
        return best;
    }
}
