import java.util.ArrayList;
import java.util.Arrays;
import java.util.List;
import java.util.regex.Matcher;
import java.util.regex.Pattern;

/** THE TEXT of an AFFAIR said a second time: all tokens first, then what may stand at each. */
final class TextModel {
    private static final Pattern TOKEN = Pattern.compile("[a-z]+|[0-9]+|[^ ]", Pattern.DOTALL);
    private static final List<String> KINDS = List.of("attache", "mirror", "crab", "pedal", "table", "tenor");

    private final List<String> tokens = new ArrayList<>();
    private final List<Integer> places = new ArrayList<>();
    private int at = 0;

    private TextModel(String text) {
        Matcher m = TOKEN.matcher(text);
        while (m.find()) {
            tokens.add(m.group());
            places.add(m.start());
        }
        tokens.add("");
        places.add(text.length());
    }

    /** Changes the model only if there is no fault. */
    static int tell(String text, Model model) {
        TextModel t = new TextModel(text);
        Model draft = model.twin();
        int items = t.text(draft);
        if (items < 0) {
            return -1 - t.places.get(t.at);
        }
        model.tunes = draft.tunes;
        model.writers = draft.writers;
        return items;
    }

    private String peek() {
        return tokens.get(at);
    }

    private boolean take(String word) {
        if (!peek().equals(word)) {
            return false;
        }
        at++;
        return true;
    }

    private int number(int most) {
        String digits = peek().replaceFirst("^0+(?=[0-9])", "");
        if (!digits.matches("[0-9]{1,3}") || Integer.parseInt(digits) > most) {
            return -1;
        }
        at++;
        return Integer.parseInt(digits);
    }

    private int text(Model draft) {
        int items = 0;
        do {
            if (!(KINDS.contains(peek()) ? attache(draft) : tune(draft))) {
                return -1;
            }
            items++;
        } while (take(";"));
        return peek().isEmpty() ? items : -1;
    }

    private boolean tune(Model draft) {
        if (!take("tune")) {
            return false;
        }
        int side = number(1);
        if (side < 0) {
            return false;
        }
        int[] row = new int[12];
        int n = 0;
        while (n < 12 && peek().matches("[0-9]+")) {
            row[n] = number(11);
            if (row[n] < 0) {
                return false;
            }
            n++;
        }
        draft.tunes[side] = Arrays.copyOf(row, n);
        return n > 0;
    }

    private boolean attache(Model draft) {
        if (draft.writers.size() == 8) {
            return false;
        }
        Model.Writer w = new Model.Writer();
        w.kind = KINDS.indexOf(peek());
        at++;
        if (!take("of")) {
            return false;
        }
        w.side = number(1);
        if (w.side < 0) {
            return false;
        }
        if (take("key")) {
            w.key = number(11);
            if (w.key < 0) {
                return false;
            }
        }
        if (take("blot")) {
            int place = number(11);
            if (place < 0) {
                return false;
            }
            w.blots = 1 << place;
        }
        draft.writers.add(w);
        return true;
    }
}
