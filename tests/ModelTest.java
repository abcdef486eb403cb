import java.util.NoSuchElementException;
import java.util.Random;

/** Long runs of calls by chance (always the same), each answered by the program and by the model. */
public final class ModelTest {
    private static final int RUNS = 240;
    private static final int CALLS = 512;
    private static final String[] ANY_WORDS = {"born", "worth", "from", "to", "dies", "unborn", "revives", "shifts",
        "by", "at", "lock", "undo", "lives", "hours", "run", "where", "or", "and", "not", "number", "birth", "death",
        "long", "pieces", "hour", "count", "sum", "least", "most", "+", "-", "<", "=", ">", "(", ")", ";", "7", "64",
        "1000", "abcdefgh", "word", "?", "B", ",", "\t", "0", "999"};
    private static final String[] LIFE_FIELDS = {"number", "birth", "death", "long", "worth", "pieces"};
    private static final String[] HOUR_FIELDS = {"hour", "count", "sum", "least", "most"};

    private final Random chance;
    private final LateSet set = new LateSet();
    private final Model model = new Model();
    private final int numbers;
    private int open;

    private ModelTest(int seed) {
        chance = new Random(seed);
        numbers = seed % 3 == 0 ? 1000 : seed % 3 == 1 ? 4 : 30;
    }

    public static void main(String[] args) {
        for (int seed = 0; seed < RUNS && Check.wrong() == 0; seed++) {
            ModelTest run = new ModelTest(seed);
            for (int call = 0; call < CALLS && Check.wrong() == 0; call++) {
                run.call("run " + seed + ", call " + call + ": ");
            }
            run.compareAll("run " + seed + " at its end: ");
        }
        Check.close();
    }

    private int upTo(int most) {
        return chance.nextInt(most + 1);
    }

    private int odd(int least, int most) {
        int[] odds = {least - 1, most + 1, Integer.MIN_VALUE, Integer.MAX_VALUE, least, most};
        return odds[upTo(odds.length - 1)];
    }

    private int within(int least, int most) {
        return upTo(39) == 0 ? odd(least, most) : least + upTo(most - least);
    }

    private int number() {
        return upTo(39) == 0 ? odd(0, 999) : upTo(numbers - 1);
    }

    private int hour() {
        return within(0, 63);
    }

    private int worth() {
        return upTo(2) == 0 ? within(0, 3) : within(0, 99);
    }

    private void call(String run) {
        int kind = upTo(99);
        if (kind < 45) {
            edit(run);
        } else if (kind < 50) {
            other(run);
        } else if (kind < 62) {
            words(run, upTo(5) == 0 ? anyWords() : text(), true);
        } else if (kind < 75) {
            words(run, upTo(5) == 0 ? anyWords() : question(), false);
        } else {
            question(run);
        }
    }

    private void edit(String run) {
        int n = number();
        int h = hour();
        int w = worth();
        int to = upTo(2) == 0 ? within(0, 64) : h + 1 + upTo(5);
        int by = upTo(1) == 0 ? within(-63, 63) : upTo(12) - 6;
        switch (upTo(9)) {
            case 0:
                Check.due(run + "born(" + n + ", " + h + ", " + w + ")", set.born(n, h, w), model.born(n, h, w));
                break;
            case 1:
            case 2:
            case 3:
                Check.due(run + "span(" + n + ", " + h + ", " + to + ", " + w + ")",
                    set.span(n, h, to, w), model.span(n, h, to, w));
                break;
            case 4:
                Check.due(run + "died(" + n + ", " + h + ")", set.died(n, h), model.died(n, h));
                break;
            case 5:
                Check.due(run + "unborn(" + n + ", " + h + ")", set.unborn(n, h), model.unborn(n, h));
                break;
            case 6:
                Check.due(run + "revived(" + n + ", " + h + ")", set.revived(n, h), model.revived(n, h));
                break;
            case 7:
            case 8:
                Check.due(run + "shifted(" + n + ", " + h + ", " + by + ")", set.shifted(n, h, by), model.shifted(n, h, by));
                break;
            default:
                Check.due(run + "worthed(" + n + ", " + h + ", " + w + ")", set.worthed(n, h, w), model.worthed(n, h, w));
                break;
        }
    }

    private void other(String run) {
        int h = upTo(3) == 0 ? within(0, 64) : within(0, 8);
        int k = within(0, 1);
        boolean back = chance.nextBoolean();
        switch (upTo(3)) {
            case 0:
                Check.due(run + "lock(" + h + ")", set.lock(h), model.lock(h));
                break;
            case 1:
            case 2:
                Check.due(run + "undo()", set.undo(), model.undo());
                break;
            default:
                Check.due(run + "keep(" + k + ", " + back + ")", set.keep(k, back), model.keep(k, back) == 1);
                break;
        }
    }

    private void words(String run, String words, boolean text) {
        for (int from = 0; from < words.length(); from += 20) {
            int[] f = new int[5];
            for (int i = 0; i < 5; i++) {
                f[i] = Words.four(words, from + 4 * i);
            }
            Check.due(run + "feed", set.feed(f[0], f[1], f[2], f[3], f[4]), model.feed(f));
        }
        int n = upTo(9) == 0 ? within(0, model.count(4)) : words.length();
        if (text) {
            Check.due(run + "text(" + n + ") of " + words, set.text(n), model.text(n));
            for (int what = -1; what <= 4; what++) {
                Check.due(run + "ran(" + what + ")", set.ran(what), model.ran(what));
            }
        } else {
            Check.due(run + "ask(" + n + ") of " + words, set.ask(n), model.ask(n));
        }
        Check.due(run + "count(4)", set.count(4), model.count(4));
        if (upTo(9) == 0) {
            set.ask(Math.min(600, set.count(4)));
            model.ask(Math.min(600, model.count(4)));
        }
    }

    private String anyWords() {
        StringBuilder words = new StringBuilder();
        for (int i = upTo(12); i >= 0; i--) {
            words.append(ANY_WORDS[upTo(ANY_WORDS.length - 1)]).append(gap());
        }
        return words.toString();
    }

    private String gap() {
        return upTo(19) == 0 ? "" : upTo(5) == 0 ? " \n" : " ";
    }

    private String small(int most) {
        return Integer.toString(upTo(29) == 0 ? upTo(1100) : upTo(most));
    }

    private String text() {
        StringBuilder text = new StringBuilder();
        for (int i = upTo(8); i > 0; i--) {
            String n = small(numbers - 1);
            String h = small(63);
            String w = upTo(1) == 0 ? "" : " worth " + small(99);
            String[] lines = {n + " born " + h + w, n + " from " + h + " to " + small(64) + w, n + " dies " + h,
                n + " unborn " + h, n + " revives " + h, n + " shifts " + h + " by " + small(20),
                n + " shifts " + h + " by - " + small(20), n + " worth " + small(99) + " at " + h,
                "lock " + small(8), "undo"};
            text.append(lines[upTo(lines.length - 1)]).append(" ;").append(gap());
        }
        return spoiled(text);
    }

    /** Now and then a word more, a word less, or another byte. */
    private String spoiled(StringBuilder words) {
        if (upTo(2) > 0 || words.length() == 0) {
            return words.toString();
        }
        int at = upTo(words.length() - 1);
        switch (upTo(3)) {
            case 0:
                words.insert(at, " " + ANY_WORDS[upTo(ANY_WORDS.length - 1)] + " ");
                break;
            case 1:
                words.deleteCharAt(at);
                break;
            case 2:
                words.setCharAt(at, (char) upTo(255));
                break;
            default:
                words.setLength(at);
                break;
        }
        return words.toString();
    }

    private String question() {
        String[] whats = {"lives", "worth", "hours", "run"};
        int what = upTo(3);
        open = 0;
        StringBuilder words = new StringBuilder(whats[what] + " where ");
        cond(words, what < 2 ? LIFE_FIELDS : HOUR_FIELDS, upTo(2));
        return spoiled(words);
    }

    private void cond(StringBuilder words, String[] fields, int more) {
        fact(words, fields);
        for (int i = 0; i < more; i++) {
            words.append(upTo(1) == 0 ? "and " : "or ");
            fact(words, fields);
        }
    }

    private void fact(StringBuilder words, String[] fields) {
        int kind = words.length() > 300 ? 9 : upTo(9);
        boolean mayOpen = open < 5 || upTo(7) == 0;
        if (kind < 3 && mayOpen) {
            open++;
            words.append("not").append(upTo(9) == 0 ? "" : " ");
            fact(words, fields);
            open--;
        } else if (kind < 6 && mayOpen) {
            open++;
            words.append("(").append(gap());
            cond(words, fields, upTo(1));
            words.append(")").append(gap());
            open--;
        } else {
            total(words, fields);
            words.append("<=>".charAt(upTo(2))).append(gap());
            total(words, fields);
        }
    }

    private void total(StringBuilder words, String[] fields) {
        value(words, fields);
        for (int i = upTo(3) - 1; i > 0; i--) {
            words.append(upTo(1) == 0 ? "+" : "-").append(gap());
            value(words, fields);
        }
    }

    private void value(StringBuilder words, String[] fields) {
        words.append(upTo(1) == 0 ? fields[upTo(fields.length - 1)] : small(upTo(1) == 0 ? 5 : 64)).append(" ");
    }

    private int life(int k, int what) {
        try {
            return set.life(k, what);
        } catch (NoSuchElementException e) {
            return Model.THROWS;
        }
    }

    private void question(String run) {
        int n = number();
        int o = number();
        int h = hour();
        int g = upTo(1) == 0 ? hour() : h + upTo(4);
        int k = within(0, 5);
        int piece = within(1, 127);
        switch (upTo(8)) {
            case 0:
                Check.due(run + "which", set.which(n, h), model.which(n, h));
                Check.due(run + "cover", set.cover(n, h), model.cover(n, h));
                Check.due(run + "rank", set.rank(n, h), model.rank(n, h));
                break;
            case 1:
                Check.due(run + "next", set.next(n, h), model.next(n, h));
                Check.due(run + "before", set.before(n, h), model.before(n, h));
                break;
            case 2:
                Check.due(run + "kth", set.kth(h, k), model.kth(h, k));
                Check.due(run + "alive", set.alive(h), model.alive(h));
                break;
            case 3:
                Check.due(run + "sum", set.sum(h, n, o), model.sum(h, n, o));
                Check.due(run + "gap", set.gap(h), model.gap(h));
                break;
            case 4:
                Check.due(run + "always", set.always(n, h, g), model.always(n, h, g));
                Check.due(run + "ever", set.ever(n, h, g), model.ever(n, h, g));
                break;
            case 5:
                Check.due(run + "both", set.both(n, o), model.both(n, o));
                Check.due(run + "reigns", set.reigns(n, o), model.reigns(n, o));
                break;
            case 6:
                Check.due(run + "crowd", set.crowd(k), model.crowd(k));
                int at = within(0, 64);
                Check.due(run + "changes", set.changes(at, k), model.changes(at, k));
                break;
            case 7:
                Check.due(run + "on", set.on(piece), model.on(piece));
                Check.due(run + "onAt", set.onAt(piece, k), model.onAt(piece, k));
                break;
            default:
                int i = within(-2, 100);
                Check.due(run + "report", set.report(i), model.report(i));
                int which = within(0, 42);
                Check.due(run + "life(" + which + ", " + k + ")", life(which, k), model.life(which, k));
                Check.due(run + "count", set.count(k), model.count(k));
                break;
        }
    }

    private void compareAll(String run) {
        Check.due(run + "report", Words.report(set), model.reportText());
        for (int what = 0; what < 6; what++) {
            Check.due(run + "count", set.count(what), model.count(what));
            Check.due(run + "crowd", set.crowd(what), model.crowd(what));
        }
        for (int hour = -1; hour <= 65; hour++) {
            Check.due(run + "alive", set.alive(hour), model.alive(hour));
            Check.due(run + "gap", set.gap(hour), model.gap(hour));
            Check.due(run + "changes 0", set.changes(hour, 0), model.changes(hour, 0));
            Check.due(run + "changes 1", set.changes(hour, 1), model.changes(hour, 1));
            Check.due(run + "always", set.always(0, hour, hour + 3), model.always(0, hour, hour + 3));
            Check.due(run + "sum", set.sum(hour, 0, 999), model.sum(hour, 0, 999));
        }
        for (int piece = 0; piece <= 128; piece++) {
            Check.due(run + "on", set.on(piece), model.on(piece));
            Check.due(run + "onAt", set.onAt(piece, 0), model.onAt(piece, 0));
        }
        for (int k = -1; k <= 40; k++) {
            for (int what = -1; what <= 5; what++) {
                Check.due(run + "life", life(k, what), model.life(k, what));
            }
        }
    }
}
