import java.util.ArrayList;
import java.util.List;
import java.util.regex.Matcher;
import java.util.regex.Pattern;

/** The document done again in another way: hour by hour, with lists, splitting and regular expressions. */
final class Model {
    static final int THROWS = -99;

    private static final String NUMBERS = "number birth death long worth pieces";
    private static final String HOURS = "hour count sum least most";
    /** A letter for each kind of TOKEN in a TEXT; N a whole number, x any other. */
    private static final String[] TEXT_WORDS = {"born", "b", "worth", "w", "from", "f", "to", "t", "dies", "d",
        "unborn", "u", "revives", "r", "shifts", "s", "by", "y", "at", "a", "lock", "l", "undo", "o", ";", ";", "-", "-"};
    private static final Pattern TEXT = Pattern.compile(
        "((NbN(wN)?|NfNtN(wN)?|NdN|NuN|NrN|NsNyN|NsNy-N|NwNaN|lN|o);)*");

    private List<int[]> lives = new ArrayList<>();
    private int lock = 0;
    private final List<Object[]> past = new ArrayList<>();
    private final Object[][] keeps = new Object[2][];
    private final StringBuilder tape = new StringBuilder();
    private int[] ran = null;

    private boolean lives(int[] life, int hour) {
        return hour >= life[1] && hour < life[2];
    }

    private boolean livesIn(List<int[]> all, int number, int hour) {
        for (int[] life : all) {
            if (life[0] == number && lives(life, hour)) {
                return true;
            }
        }
        return false;
    }

    private int[] lifeAt(int number, int hour) {
        for (int[] life : lives) {
            if (life[0] == number && lives(life, hour)) {
                return life;
            }
        }
        return null;
    }

    private static boolean out(int value, int least, int most) {
        return value < least || value > most;
    }

    private void sort(List<int[]> all) {
        all.sort((p, q) -> p[0] != q[0] ? Integer.compare(p[0], q[0]) : Integer.compare(p[1], q[1]));
    }

    /** In place of one life (or none) another (or none). */
    private int edit(int[] old, int[] fresh) {
        int number = old == null ? fresh[0] : old[0];
        List<int[]> after = new ArrayList<>();
        for (int[] life : lives) {
            if (life != old) {
                after.add(life);
            }
        }
        boolean clash = false;
        for (int hour = 0; hour < 64 && fresh != null; hour++) {
            clash |= lives(fresh, hour) && livesIn(after, number, hour);
        }
        if (fresh != null) {
            after.add(fresh);
        }
        for (int hour = 0; hour < lock; hour++) {
            if (livesIn(after, number, hour) != livesIn(lives, number, hour)) {
                return 3;
            }
        }
        if (clash) {
            return 4;
        }
        if (after.size() > 40) {
            return 5;
        }
        done(after);
        return 0;
    }

    private void done(List<int[]> after) {
        past.add(state());
        if (past.size() > 20) {
            past.remove(0);
        }
        sort(after);
        lives = after;
    }

    private Object[] state() {
        return new Object[] {new ArrayList<>(lives), lock};
    }

    @SuppressWarnings("unchecked")
    private void restore(Object[] state) {
        lives = new ArrayList<>((List<int[]>) state[0]);
        lock = (Integer) state[1];
    }

    int born(int number, int hour, int worth) {
        if (out(number, 0, 999) || out(hour, 0, 63) || out(worth, 0, 99)) {
            return 1;
        }
        return edit(null, new int[] {number, hour, 64, worth});
    }

    int span(int number, int from, int to, int worth) {
        if (out(number, 0, 999) || out(from, 0, 63) || out(to, 0, 64) || from >= to || out(worth, 0, 99)) {
            return 1;
        }
        return edit(null, new int[] {number, from, to, worth});
    }

    int died(int number, int hour) {
        if (out(number, 0, 999) || out(hour, 0, 63)) {
            return 1;
        }
        int[] life = lifeAt(number, hour);
        if (life == null) {
            return 2;
        }
        return edit(life, hour == life[1] ? null : new int[] {number, life[1], hour, life[3]});
    }

    int unborn(int number, int hour) {
        if (out(number, 0, 999) || out(hour, 0, 63)) {
            return 1;
        }
        int[] life = lifeAt(number, hour);
        return life == null ? 2 : edit(life, null);
    }

    int revived(int number, int hour) {
        if (out(number, 0, 999) || out(hour, 1, 63)) {
            return 1;
        }
        for (int[] life : lives) {
            if (life[0] == number && life[2] == hour) {
                return edit(life, new int[] {number, life[1], 64, life[3]});
            }
        }
        return 2;
    }

    int shifted(int number, int hour, int by) {
        if (out(number, 0, 999) || out(hour, 0, 63) || out(by, -63, 63) || by == 0) {
            return 1;
        }
        int[] life = lifeAt(number, hour);
        if (life == null) {
            return 2;
        }
        int birth = life[1] + by;
        int death = life[2] == 64 ? 64 : life[2] + by;
        return out(birth, 0, 63) || death > 64 ? 1 : edit(life, new int[] {number, birth, death, life[3]});
    }

    int worthed(int number, int hour, int worth) {
        if (out(number, 0, 999) || out(hour, 0, 63) || out(worth, 0, 99)) {
            return 1;
        }
        int[] life = lifeAt(number, hour);
        if (life == null) {
            return 2;
        }
        if (life[1] < lock) {
            return 3;
        }
        if (life[3] == worth) {
            return 6;
        }
        List<int[]> after = new ArrayList<>(lives);
        after.remove(life);
        after.add(new int[] {number, life[1], life[2], worth});
        done(after);
        return 0;
    }

    int lock(int hour) {
        if (out(hour, 0, 64)) {
            return -1;
        }
        int was = lock;
        lock = hour;
        return was;
    }

    int undo() {
        if (past.isEmpty()) {
            return -1;
        }
        restore(past.remove(past.size() - 1));
        return past.size();
    }

    int keep(int k, boolean back) {
        if (out(k, 0, 1) || (back && keeps[k] == null)) {
            return 0;
        }
        if (back) {
            restore(keeps[k]);
            past.clear();
        } else {
            keeps[k] = state();
        }
        return 1;
    }

    int feed(int... numbers) {
        if (tape.length() > 580) {
            return -1;
        }
        for (int number : numbers) {
            for (int shift = 24; shift >= 0; shift -= 8) {
                tape.append((char) (number >> shift & 255));
            }
        }
        return tape.length();
    }

    /** The TOKENS of the first bytes, their places; the last one is null: no TOKEN, or "": the end. */
    private void cut(int n, List<String> tokens, List<Integer> places) {
        String words = tape.substring(0, n);
        tape.setLength(0);
        Matcher matcher = Pattern.compile("[ \n]+|([a-z]+)|([0-9]+)|[-+<=>();]|.", Pattern.DOTALL).matcher(words);
        while (matcher.find()) {
            String token = matcher.group();
            if (token.charAt(0) == ' ' || token.charAt(0) == '\n') {
                continue;
            }
            places.add(matcher.start());
            if (token.matches("[a-z]{1,7}|[0-9]{1,3}|[-+<=>();]")) {
                tokens.add(token);
            } else {
                tokens.add(null);
                return;
            }
        }
        places.add(n);
        tokens.add("");
    }

    private static char textLetter(String token) {
        if (token.charAt(0) >= '0' && token.charAt(0) <= '9') {
            return 'N';
        }
        for (int i = 0; i < TEXT_WORDS.length; i += 2) {
            if (TEXT_WORDS[i].equals(token)) {
                return TEXT_WORDS[i + 1].charAt(0);
            }
        }
        return 'x';
    }

    int text(int n) {
        if (n < 0 || n > tape.length()) {
            return -1;
        }
        List<String> tokens = new ArrayList<>();
        List<Integer> places = new ArrayList<>();
        cut(n, tokens, places);
        StringBuilder kinds = new StringBuilder();
        for (int i = 0; i < tokens.size(); i++) {
            String token = tokens.get(i);
            if (token == null) {
                return -2 - places.get(i);
            }
            if (token.isEmpty()) {
                break;
            }
            kinds.append(textLetter(token));
            Matcher matcher = TEXT.matcher(kinds);
            if (!matcher.matches() && !matcher.hitEnd()) {
                return -2 - places.get(i);
            }
        }
        if (!TEXT.matcher(kinds).matches()) {
            return -2 - n;
        }
        return run(String.join(" ", tokens).split(";"));
    }

    private int run(String[] texts) {
        int lines = 0;
        int left = 0;
        int first = -1;
        int why = 0;
        for (String text : texts) {
            if (text.trim().isEmpty()) {
                continue;
            }
            int told = runLine(text.trim().split(" "));
            if (told != 0) {
                first = left == 0 ? lines : first;
                why = left == 0 ? told : why;
                left++;
            }
            lines++;
        }
        ran = new int[] {lines, left, first, why};
        return lines - left;
    }

    private int runLine(String[] words) {
        int[] n = new int[words.length + 3];
        for (int i = 0; i < words.length; i++) {
            n[i] = words[i].matches("[0-9]+") ? Integer.parseInt(words[i]) : 0;
        }
        if (words[0].equals("undo")) {
            return undo() == -1 ? 2 : 0;
        }
        if (words[0].equals("lock")) {
            return lock(n[1]) == -1 ? 1 : 0;
        }
        switch (words[1]) {
            case "born":
                return born(n[0], n[2], n[4]);
            case "from":
                return span(n[0], n[2], n[4], n[6]);
            case "dies":
                return died(n[0], n[2]);
            case "unborn":
                return unborn(n[0], n[2]);
            case "revives":
                return revived(n[0], n[2]);
            case "shifts":
                return shifted(n[0], n[2], words[4].equals("-") ? -n[5] : n[4]);
            default:
                return worthed(n[0], n[4], n[2]);
        }
    }

    int ran(int what) {
        return ran == null || out(what, 0, 3) ? -1 : ran[what];
    }

    int ask(int n) {
        if (n < 0 || n > tape.length()) {
            return -1;
        }
        List<String> tokens = new ArrayList<>();
        List<Integer> places = new ArrayList<>();
        cut(n, tokens, places);
        int fault = questionFault(tokens);
        if (fault >= 0) {
            return -2 - (2 * places.get(fault / 2) + 1 + fault % 2);
        }
        List<String> cond = tokens.subList(2, tokens.size() - 1);
        int answer = 0;
        int row = 0;
        int longest = 0;
        boolean ofLives = tokens.get(0).equals("lives") || tokens.get(0).equals("worth");
        for (int i = 0; i < (ofLives ? lives.size() : 64); i++) {
            boolean holds = holds(cond, ofLives ? fieldsOfLife(lives.get(i)) : fieldsOfHour(i));
            answer += !holds ? 0 : tokens.get(0).equals("worth") ? lives.get(i)[3] : 1;
            row = holds ? row + 1 : 0;
            longest = Math.max(longest, row);
        }
        return tokens.get(0).equals("run") ? longest : answer;
    }

    /** An automaton with a stack: 2 * the TOKEN's index, and 1 if it is the sixth of not and (; -1: none. */
    private static int questionFault(List<String> tokens) {
        StringBuilder open = new StringBuilder();
        String fields = "";
        String state = "what";
        for (int i = 0; i < tokens.size(); i++) {
            String token = tokens.get(i);
            String next = null;
            if (token == null) {
                return 2 * i;
            }
            if (state.equals("what")) {
                next = token.matches("lives|worth|hours|run") ? "where" : null;
                fields = token.matches("lives|worth") ? NUMBERS : HOURS;
            } else if (state.equals("where")) {
                next = token.equals("where") ? "fact" : null;
            } else if (state.equals("fact") && token.matches("not|\\(")) {
                if (open.length() == 5) {
                    return 2 * i + 1;
                }
                open.append(token.charAt(0));
                next = "fact";
            } else if (state.matches("fact|left|right")) {
                boolean value = token.matches("[0-9]+")
                    || (!token.isEmpty() && (" " + fields + " ").contains(" " + token + " "));
                next = !value ? null : state.equals("right") ? "end" : "compare";
            } else if (token.matches("[-+]") && state.matches("compare|end")) {
                next = state.equals("end") ? "right" : "left";
            } else if (state.equals("compare")) {
                next = token.matches("[<=>]") ? "right" : null;
            } else {
                while (open.length() > 0 && open.charAt(open.length() - 1) == 'n') {
                    open.setLength(open.length() - 1);
                }
                if (token.matches("and|or")) {
                    next = "fact";
                } else if (token.equals(")") && open.length() > 0) {
                    open.setLength(open.length() - 1);
                    next = "closed";
                } else if (token.isEmpty() && open.length() == 0) {
                    return -1;
                }
            }
            if (next == null) {
                return 2 * i;
            }
            state = next;
        }
        return 2 * (tokens.size() - 1);
    }

    private static boolean holds(List<String> cond, String[] fields) {
        for (String word : new String[] {"or", "and"}) {
            int depth = 0;
            for (int i = cond.size() - 1; i >= 0; i--) {
                depth += cond.get(i).equals(")") ? 1 : cond.get(i).equals("(") ? -1 : 0;
                if (depth == 0 && cond.get(i).equals(word)) {
                    boolean one = holds(cond.subList(0, i), fields);
                    boolean two = holds(cond.subList(i + 1, cond.size()), fields);
                    return word.equals("or") ? one || two : one && two;
                }
            }
        }
        if (cond.get(0).equals("not")) {
            return !holds(cond.subList(1, cond.size()), fields);
        }
        if (cond.get(0).equals("(")) {
            return holds(cond.subList(1, cond.size() - 1), fields);
        }
        int at = Math.max(cond.indexOf("<"), Math.max(cond.indexOf("="), cond.indexOf(">")));
        int difference = total(cond.subList(0, at), fields) - total(cond.subList(at + 1, cond.size()), fields);
        String sign = cond.get(at);
        return sign.equals("<") ? difference < 0 : sign.equals("=") ? difference == 0 : difference > 0;
    }

    private static int total(List<String> sum, String[] fields) {
        int total = 0;
        for (int i = 0; i < sum.size(); i += 2) {
            int value = -1;
            for (int f = 0; f < fields.length; f += 2) {
                value = fields[f].equals(sum.get(i)) ? Integer.parseInt(fields[f + 1]) : value;
            }
            value = sum.get(i).matches("[0-9]+") ? Integer.parseInt(sum.get(i)) : value;
            total += i > 0 && sum.get(i - 1).equals("-") ? -value : value;
        }
        return total;
    }

    private String[] fieldsOfLife(int[] life) {
        return new String[] {"number", "" + life[0], "birth", "" + life[1], "death", "" + life[2],
            "long", "" + (life[2] - life[1]), "worth", "" + life[3], "pieces", "" + coverOf(life).size()};
    }

    private String[] fieldsOfHour(int hour) {
        List<int[]> there = at(hour);
        return new String[] {"hour", "" + hour, "count", "" + there.size(), "sum", "" + sum(hour, 0, 999),
            "least", "" + (there.isEmpty() ? -1 : there.get(0)[0]),
            "most", "" + (there.isEmpty() ? -1 : there.get(there.size() - 1)[0])};
    }

    private List<int[]> at(int hour) {
        List<int[]> there = new ArrayList<>();
        for (int[] life : lives) {
            if (lives(life, hour)) {
                there.add(life);
            }
        }
        return there;
    }

    String reportText() {
        StringBuilder told = new StringBuilder();
        for (int[] life : lives) {
            told.append(life[0] + " from " + life[1] + (life[2] == 64 ? " on" : " to " + life[2])
                + (life[3] == 0 ? "" : " worth " + life[3]) + " ; ");
        }
        return told.toString();
    }

    int report(int i) {
        String told = reportText();
        return i < -1 ? -1 : i == -1 ? told.length() : i < told.length() ? told.charAt(i) : -2;
    }

    int count(int what) {
        int numbers = 0;
        int pieces = 0;
        for (int number = 0; number < 1000; number++) {
            boolean some = false;
            for (int[] life : lives) {
                some |= life[0] == number;
            }
            numbers += some ? 1 : 0;
        }
        for (int[] life : lives) {
            pieces += coverOf(life).size();
        }
        int[] counts = {lives.size(), numbers, lock, past.size(), tape.length(), pieces};
        return out(what, 0, 5) ? -1 : counts[what];
    }

    int life(int k, int what) {
        if (out(k, 0, lives.size() - 1) || out(what, 0, 4)) {
            return THROWS;
        }
        return what == 4 ? coverOf(lives.get(k)).size() : lives.get(k)[what];
    }

    int which(int number, int hour) {
        if (out(number, 0, 999) || out(hour, 0, 63)) {
            return -1;
        }
        int[] life = lifeAt(number, hour);
        return life == null ? -2 : lives.indexOf(life);
    }

    int alive(int hour) {
        return out(hour, 0, 63) ? -1 : at(hour).size();
    }

    int next(int number, int hour) {
        return always(number, hour, hour);
    }

    int before(int number, int hour) {
        if (out(number, 0, 999) || out(hour, 0, 63)) {
            return -1;
        }
        for (int n = number; n >= 0; n--) {
            if (lifeAt(n, hour) != null) {
                return n;
            }
        }
        return -2;
    }

    int rank(int number, int hour) {
        if (out(number, 0, 999) || out(hour, 0, 63)) {
            return -1;
        }
        int rank = 0;
        for (int n = 0; n < number; n++) {
            rank += lifeAt(n, hour) == null ? 0 : 1;
        }
        return rank;
    }

    int kth(int hour, int k) {
        return out(hour, 0, 63) || k < 0 ? -1 : k < at(hour).size() ? at(hour).get(k)[0] : -2;
    }

    int sum(int hour, int from, int to) {
        if (out(hour, 0, 63) || out(from, 0, 999) || out(to, from, 999)) {
            return -1;
        }
        int sum = 0;
        for (int n = from; n <= to; n++) {
            int[] life = lifeAt(n, hour);
            sum += life == null ? 0 : life[3];
        }
        return sum;
    }

    int gap(int hour) {
        if (out(hour, 0, 63)) {
            return -1;
        }
        List<int[]> there = at(hour);
        int best = -1;
        for (int i = 0; i + 1 < there.size(); i++) {
            if (best < 0 || there.get(i + 1)[0] - there.get(i)[0] > there.get(best + 1)[0] - there.get(best)[0]) {
                best = i;
            }
        }
        return best < 0 ? -2 : there.get(best)[0];
    }

    int changes(int hour, int what) {
        if (out(hour, 0, 64) || out(what, 0, 1)) {
            return -1;
        }
        int changes = 0;
        for (int[] life : lives) {
            changes += life[1 + what] == hour ? 1 : 0;
        }
        return changes;
    }

    int always(int number, int from, int to) {
        return overHours(number, from, to, true);
    }

    int ever(int number, int from, int to) {
        return overHours(number, from, to, false);
    }

    private int overHours(int number, int from, int to, boolean all) {
        if (out(number, 0, 999) || out(from, 0, 63) || out(to, from, 63)) {
            return -1;
        }
        for (int n = number; n < 1000; n++) {
            int there = 0;
            for (int hour = from; hour <= to; hour++) {
                there += lifeAt(n, hour) == null ? 0 : 1;
            }
            if (all ? there == to - from + 1 : there > 0) {
                return n;
            }
        }
        return -2;
    }

    int both(int number, int other) {
        if (out(number, 0, 999) || out(other, 0, 999)) {
            return -1;
        }
        int hours = 0;
        for (int hour = 0; hour < 64; hour++) {
            hours += lifeAt(number, hour) != null && lifeAt(other, hour) != null ? 1 : 0;
        }
        return hours;
    }

    int reigns(int number, int other) {
        if (out(number, 0, 999) || out(other, 0, 999)) {
            return -1;
        }
        int hours = 0;
        for (int hour = 0; hour < 64 && number < 999; hour++) {
            hours += always(number + 1, hour, hour) == other ? 1 : 0;
        }
        return hours;
    }

    int crowd(int what) {
        int best = 0;
        for (int hour = 0; hour < 64 && !out(what, 0, 3); hour++) {
            best = crowdAt(hour, what) > crowdAt(best, what) ? hour : best;
        }
        return out(what, 0, 3) ? -1 : what % 2 == 0 ? best : crowdAt(best, what);
    }

    private int crowdAt(int hour, int what) {
        return what < 2 ? at(hour).size() : sum(hour, 0, 999);
    }

    /** Down the tree: a PIECE that is all inside is taken, one that is partly so is halved. */
    private static List<Integer> coverOf(int[] life) {
        List<Integer> cover = new ArrayList<>();
        halve(1, 0, 64, life, cover);
        return cover;
    }

    private static void halve(int piece, int from, int to, int[] life, List<Integer> cover) {
        if (life[1] <= from && to <= life[2]) {
            cover.add(piece);
        } else if (life[1] < to && from < life[2]) {
            halve(2 * piece, from, (from + to) / 2, life, cover);
            halve(2 * piece + 1, (from + to) / 2, to, life, cover);
        }
    }

    int cover(int number, int hour) {
        if (out(number, 0, 999) || out(hour, 0, 63)) {
            return -1;
        }
        int[] life = lifeAt(number, hour);
        if (life == null) {
            return -2;
        }
        for (int piece = 64 + hour; piece > 0; piece /= 2) {
            if (coverOf(life).contains(piece)) {
                return piece;
            }
        }
        return -3;
    }

    int on(int piece) {
        return out(piece, 1, 127) ? -1 : numbersOn(piece).size();
    }

    int onAt(int piece, int k) {
        if (out(piece, 1, 127) || k < 0) {
            return -1;
        }
        return k < numbersOn(piece).size() ? numbersOn(piece).get(k) : -2;
    }

    private List<Integer> numbersOn(int piece) {
        List<Integer> numbers = new ArrayList<>();
        for (int[] life : lives) {
            if (coverOf(life).contains(piece)) {
                numbers.add(life[0]);
            }
        }
        return numbers;
    }
}
