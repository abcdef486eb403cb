import java.util.NoSuchElementException;

/**
 * An ordered set of numbers with a past that one may edit: who lives at which hours, told late,
 * drawn back, shifted, locked, asked about, taken back and kept.
 */
public final class LateSet {
    public static final int NONE = -1;

    private static final int ABSENT = -2;
    private static final int LAST_NUMBER = 999;
    private static final int END = 64;
    private static final int MOST_WORTH = 99;
    private static final int MOST_LIVES = 40;
    private static final int MOST_BYTES = 600;
    private static final int BYTES_OF_A_FEED = 20;
    private static final int MOST_OPEN = 5;
    private static final int MOST_UNDOS = 20;
    private static final int KEEPS = 2;
    private static final int PIECES = 127;

    private static final int DONE = 0;
    private static final int OUT_OF_BOUNDS = 1;
    private static final int NO_LIFE = 2;
    private static final int LOCKED = 3;
    private static final int CLASH = 4;
    private static final int FULL = 5;
    private static final int SAME = 6;

    private static final int UNREADABLE = 1;
    private static final int TOO_DEEP = 2;

    private static final Sign[] SIGNS = Sign.values();

    private final Lives lives;
    private final Past past;
    private final int[][] keeps;
    private final boolean[] laid;
    private final Tape tape;
    private final Line line;
    private final Question question;
    private final Page page;
    private boolean anyRan;
    private int ranLines;
    private int ranLeftOut;
    private int ranFirst;
    private int ranWhy;

    public LateSet() {
        lives = new Lives();
        past = new Past();
        keeps = new int[KEEPS][Lives.ROW];
        laid = new boolean[KEEPS];
        Tape newTape = new Tape();
        tape = newTape;
        line = new Line(newTape);
        question = new Question(newTape);
        page = new Page();
        anyRan = false;
        ranLines = 0;
        ranLeftOut = 0;
        ranFirst = NONE;
        ranWhy = DONE;
    }

    // ---- edits

    public int born(int number, int hour, int worth) {
        return span(number, hour, END, worth);
    }

    public int span(int number, int from, int to, int worth) {
        if (!isNumber(number) || !isHour(from) || !isWorth(worth) || to <= from || to > END) {
            return OUT_OF_BOUNDS;
        }
        int why = whyRefused(number, NONE, from, to);
        if (why != DONE) {
            return why;
        }
        if (lives.size() >= MOST_LIVES) {
            return FULL;
        }
        past.remember(lives);
        lives.insert(number, from, to, worth);
        return DONE;
    }

    public int died(int number, int hour) {
        if (!isNumber(number) || !isHour(hour)) {
            return OUT_OF_BOUNDS;
        }
        int k = lives.find(number, hour);
        if (k < 0) {
            return NO_LIFE;
        }
        return changeLife(k, lives.birthOf(k), hour);
    }

    public int unborn(int number, int hour) {
        if (!isNumber(number) || !isHour(hour)) {
            return OUT_OF_BOUNDS;
        }
        int k = lives.find(number, hour);
        if (k < 0) {
            return NO_LIFE;
        }
        return changeLife(k, lives.birthOf(k), lives.birthOf(k));
    }

    public int revived(int number, int hour) {
        if (!isNumber(number) || !isHour(hour) || hour == 0) {
            return OUT_OF_BOUNDS;
        }
        int k = lives.findDeath(number, hour);
        if (k < 0) {
            return NO_LIFE;
        }
        return changeLife(k, lives.birthOf(k), END);
    }

    public int shifted(int number, int hour, int by) {
        if (!isNumber(number) || !isHour(hour) || by == 0 || by <= -END || by >= END) {
            return OUT_OF_BOUNDS;
        }
        int k = lives.find(number, hour);
        if (k < 0) {
            return NO_LIFE;
        }
        int birth = lives.birthOf(k) + by;
        int death = lives.deathOf(k) == END ? END : lives.deathOf(k) + by;
        if (!isHour(birth) || death > END) {
            return OUT_OF_BOUNDS;
        }
        return changeLife(k, birth, death);
    }

    public int worthed(int number, int hour, int worth) {
        if (!isNumber(number) || !isHour(hour) || !isWorth(worth)) {
            return OUT_OF_BOUNDS;
        }
        int k = lives.find(number, hour);
        if (k < 0) {
            return NO_LIFE;
        }
        if (lives.birthOf(k) < lives.lockHour()) {
            return LOCKED;
        }
        if (lives.worthOf(k) == worth) {
            return SAME;
        }
        past.remember(lives);
        lives.setWorth(k, worth);
        return DONE;
    }

    public int lock(int hour) {
        if (!isHour(hour) && hour != END) {
            return NONE;
        }
        int was = lives.lockHour();
        lives.setLock(hour);
        return was;
    }

    public int undo() {
        return past.takeBack(lives) ? past.steps() : NONE;
    }

    public boolean keep(int k, boolean back) {
        if (k < 0 || k >= KEEPS) {
            return false;
        }
        if (!back) {
            lives.copyTo(keeps[k]);
            laid[k] = true;
            return true;
        }
        if (!laid[k]) {
            return false;
        }
        lives.copyFrom(keeps[k]);
        past.forget();
        return true;
    }

    /** The k-th LIFE comes to last from a birth to a death; it is gone if these are one. */
    private int changeLife(int k, int birth, int death) {
        int number = lives.numberOf(k);
        int worth = lives.worthOf(k);
        int why = whyRefused(number, k, birth, death);
        if (why != DONE) {
            return why;
        }
        past.remember(lives);
        lives.remove(k);
        if (birth < death) {
            // a shift may carry a LIFE past another one of its NUMBER: it finds its place anew
            lives.insert(number, birth, death, worth);
        }
        return DONE;
    }

    private int whyRefused(int number, int replaced, int birth, int death) {
        long hours = hoursFrom(birth, death);
        long others = lives.hoursOf(number, replaced);
        long changed = lives.hoursOf(number, NONE) ^ (others | hours);
        if ((changed & hoursFrom(0, lives.lockHour())) != 0L) {
            return LOCKED;
        }
        return (others & hours) != 0L ? CLASH : DONE;
    }

    // ---- texts

    public int feed(int a, int b, int c, int d, int e) {
        if (tape.length() + BYTES_OF_A_FEED > MOST_BYTES) {
            return NONE;
        }
        tape.addFour(a);
        tape.addFour(b);
        tape.addFour(c);
        tape.addFour(d);
        tape.addFour(e);
        return tape.length();
    }

    public int text(int n) {
        if (n < 0 || n > tape.length()) {
            return NONE;
        }
        tape.cut(n);
        int lines = 0;
        while (lines < MOST_BYTES && tape.faultKind() == 0 && tape.sign() != Sign.END) {
            line.read();
            lines++;
        }
        if (tape.faultKind() != 0) {
            return ABSENT - tape.faultPlace();
        }
        runLines(lines);
        return ranLines - ranLeftOut;
    }

    public int ran(int what) {
        if (!anyRan) {
            return NONE;
        }
        switch (what) {
            case 0:
                return ranLines;
            case 1:
                return ranLeftOut;
            case 2:
                return ranFirst;
            case 3:
                return ranWhy;
            default:
                return NONE;
        }
    }

    public int ask(int n) {
        if (n < 0 || n > tape.length()) {
            return NONE;
        }
        tape.cut(n);
        question.read();
        if (tape.faultKind() != 0) {
            return ABSENT - (2 * tape.faultPlace() + tape.faultKind());
        }
        Sign what = question.what();
        if (what == Sign.HOURS || what == Sign.RUN) {
            return hoursAsked(what == Sign.RUN);
        }
        return livesAsked(what == Sign.WORTH);
    }

    public int report(int i) {
        if (i < NONE) {
            return NONE;
        }
        page.clear();
        for (int k = 0; k < lives.size(); k++) {
            writeLife(k);
        }
        if (i == NONE) {
            return page.length();
        }
        return i < page.length() ? page.byteAt(i) : ABSENT;
    }

    private void runLines(int lines) {
        anyRan = true;
        ranLines = lines;
        ranLeftOut = 0;
        ranFirst = NONE;
        ranWhy = DONE;
        tape.goTo(0);
        for (int i = 0; i < lines; i++) {
            line.read();
            int why = runLine();
            if (why != DONE) {
                if (ranLeftOut == 0) {
                    ranFirst = i;
                    ranWhy = why;
                }
                ranLeftOut++;
            }
        }
    }

    private int runLine() {
        Sign verb = line.verb();
        if (verb == Sign.BORN) {
            return born(line.number(), line.hour(), line.worth());
        }
        if (verb == Sign.FROM) {
            return span(line.number(), line.hour(), line.other(), line.worth());
        }
        if (verb == Sign.DIES) {
            return died(line.number(), line.hour());
        }
        if (verb == Sign.UNBORN) {
            return unborn(line.number(), line.hour());
        }
        if (verb == Sign.REVIVES) {
            return revived(line.number(), line.hour());
        }
        if (verb == Sign.SHIFTS) {
            return shifted(line.number(), line.hour(), line.other());
        }
        if (verb == Sign.WORTH) {
            return worthed(line.number(), line.hour(), line.worth());
        }
        if (verb == Sign.LOCK) {
            return lock(line.hour()) == NONE ? OUT_OF_BOUNDS : DONE;
        }
        return undo() == NONE ? NO_LIFE : DONE;
    }

    private int livesAsked(boolean worths) {
        int answer = 0;
        for (int k = 0; k < lives.size(); k++) {
            question.tellLife(lives, k);
            if (question.condHolds(0)) {
                answer += worths ? lives.worthOf(k) : 1;
            }
        }
        return answer;
    }

    private int hoursAsked(boolean inOneRow) {
        int all = 0;
        int row = 0;
        int longest = 0;
        for (int hour = 0; hour < END; hour++) {
            question.tellHour(lives, hour);
            boolean holds = question.condHolds(0);
            all += holds ? 1 : 0;
            row = holds ? row + 1 : 0;
            longest = Math.max(longest, row);
        }
        return inOneRow ? longest : all;
    }

    private void writeLife(int k) {
        page.addNumber(lives.numberOf(k));
        page.addText(" from ");
        page.addNumber(lives.birthOf(k));
        if (lives.deathOf(k) == END) {
            page.addText(" on");
        } else {
            page.addText(" to ");
            page.addNumber(lives.deathOf(k));
        }
        if (lives.worthOf(k) != 0) {
            page.addText(" worth ");
            page.addNumber(lives.worthOf(k));
        }
        page.addText(" ; ");
    }

    // ---- lives

    public int count(int what) {
        switch (what) {
            case 0:
                return lives.size();
            case 1:
                return lives.countNumbers();
            case 2:
                return lives.lockHour();
            case 3:
                return past.steps();
            case 4:
                return tape.length();
            case 5:
                return lives.countPieces();
            default:
                return NONE;
        }
    }

    public int life(int k, int what) throws NoSuchElementException {
        if (k < 0 || k >= lives.size()) {
            throw new NoSuchElementException();
        }
        switch (what) {
            case 0:
                return lives.numberOf(k);
            case 1:
                return lives.birthOf(k);
            case 2:
                return lives.deathOf(k);
            case 3:
                return lives.worthOf(k);
            case 4:
                return piecesOf(lives.birthOf(k), lives.deathOf(k));
            default:
                throw new NoSuchElementException();
        }
    }

    public int which(int number, int hour) {
        if (!isNumber(number) || !isHour(hour)) {
            return NONE;
        }
        int k = lives.find(number, hour);
        return k < 0 ? ABSENT : k;
    }

    // ---- at an hour

    public int alive(int hour) {
        return isHour(hour) ? lives.countAt(hour) : NONE;
    }

    public int next(int number, int hour) {
        if (!isNumber(number) || !isHour(hour)) {
            return NONE;
        }
        int k = lives.firstAt(hour, number);
        return k < 0 ? ABSENT : lives.numberOf(k);
    }

    public int before(int number, int hour) {
        if (!isNumber(number) || !isHour(hour)) {
            return NONE;
        }
        int k = lives.lastAt(hour, number);
        return k < 0 ? ABSENT : lives.numberOf(k);
    }

    public int rank(int number, int hour) {
        if (!isNumber(number) || !isHour(hour)) {
            return NONE;
        }
        int below = 0;
        for (int k = 0; k < lives.size(); k++) {
            if (lives.isAlive(k, hour) && lives.numberOf(k) < number) {
                below++;
            }
        }
        return below;
    }

    public int kth(int hour, int k) {
        if (!isHour(hour) || k < 0) {
            return NONE;
        }
        int passed = 0;
        for (int i = 0; i < lives.size(); i++) {
            if (lives.isAlive(i, hour)) {
                if (passed == k) {
                    return lives.numberOf(i);
                }
                passed++;
            }
        }
        return ABSENT;
    }

    public int sum(int hour, int from, int to) {
        if (!isHour(hour) || !isNumber(from) || !isNumber(to) || to < from) {
            return NONE;
        }
        return lives.worthsAt(hour, from, to);
    }

    public int gap(int hour) {
        if (!isHour(hour)) {
            return NONE;
        }
        int lower = ABSENT;
        int widest = 0;
        int neighbour = NONE;
        for (int k = 0; k < lives.size(); k++) {
            if (lives.isAlive(k, hour)) {
                int number = lives.numberOf(k);
                if (neighbour != NONE && number - neighbour > widest) {
                    widest = number - neighbour;
                    lower = neighbour;
                }
                neighbour = number;
            }
        }
        return lower;
    }

    public int changes(int hour, int what) {
        if ((!isHour(hour) && hour != END) || what < 0 || what > 1) {
            return NONE;
        }
        int changes = 0;
        for (int k = 0; k < lives.size(); k++) {
            int at = what == 0 ? lives.birthOf(k) : lives.deathOf(k);
            if (at == hour) {
                changes++;
            }
        }
        return changes;
    }

    // ---- over hours

    public int always(int number, int from, int to) {
        if (!isNumber(number) || !isHour(from) || !isHour(to) || to < from) {
            return NONE;
        }
        long asked = hoursFrom(from, to + 1);
        for (int k = 0; k < lives.size(); k++) {
            int other = lives.numberOf(k);
            if (other >= number && (lives.hoursOf(other, NONE) & asked) == asked) {
                return other;
            }
        }
        return ABSENT;
    }

    public int ever(int number, int from, int to) {
        if (!isNumber(number) || !isHour(from) || !isHour(to) || to < from) {
            return NONE;
        }
        long asked = hoursFrom(from, to + 1);
        for (int k = 0; k < lives.size(); k++) {
            int other = lives.numberOf(k);
            if (other >= number && (lives.hoursOf(other, NONE) & asked) != 0L) {
                return other;
            }
        }
        return ABSENT;
    }

    public int both(int number, int other) {
        if (!isNumber(number) || !isNumber(other)) {
            return NONE;
        }
        return Long.bitCount(lives.hoursOf(number, NONE) & lives.hoursOf(other, NONE));
    }

    public int reigns(int number, int other) {
        if (!isNumber(number) || !isNumber(other)) {
            return NONE;
        }
        int hours = 0;
        for (int hour = 0; hour < END; hour++) {
            int k = lives.firstAt(hour, number + 1);
            if (k >= 0 && lives.numberOf(k) == other) {
                hours++;
            }
        }
        return hours;
    }

    public int crowd(int what) {
        if (what < 0 || what > 3) {
            return NONE;
        }
        int bestHour = 0;
        int most = NONE;
        for (int hour = 0; hour < END; hour++) {
            int size = what < 2 ? lives.countAt(hour) : lives.worthsAt(hour, 0, LAST_NUMBER);
            if (size > most) {
                most = size;
                bestHour = hour;
            }
        }
        return what == 0 || what == 2 ? bestHour : most;
    }

    // ---- the tree of hours

    public int cover(int number, int hour) {
        if (!isNumber(number) || !isHour(hour)) {
            return NONE;
        }
        int k = lives.find(number, hour);
        return k < 0 ? ABSENT : pieceAround(hour, lives.birthOf(k), lives.deathOf(k));
    }

    public int on(int piece) {
        if (!isPiece(piece)) {
            return NONE;
        }
        int found = 0;
        for (int k = 0; k < lives.size(); k++) {
            if (lives.isCoveredBy(k, piece)) {
                found++;
            }
        }
        return found;
    }

    public int onAt(int piece, int k) {
        if (!isPiece(piece) || k < 0) {
            return NONE;
        }
        int passed = 0;
        for (int i = 0; i < lives.size(); i++) {
            if (lives.isCoveredBy(i, piece)) {
                if (passed == k) {
                    return lives.numberOf(i);
                }
                passed++;
            }
        }
        return ABSENT;
    }

    private static boolean isNumber(int number) {
        return number >= 0 && number <= LAST_NUMBER;
    }

    private static boolean isHour(int hour) {
        return hour >= 0 && hour < END;
    }

    private static boolean isWorth(int worth) {
        return worth >= 0 && worth <= MOST_WORTH;
    }

    private static boolean isPiece(int piece) {
        return piece >= 1 && piece <= PIECES;
    }

    /** HOURS are bits of a long: those from one to another, without the latter. */
    private static long hoursFrom(int from, int to) {
        // a shift by 64 would be one by 0
        return to <= from ? 0L : (-1L >>> (END - (to - from))) << from;
    }

    private static boolean isWithin(int piece, int birth, int death) {
        int first = piece;
        int last = piece;
        for (int level = 0; level < 6 && first < END; level++) {
            first = 2 * first;
            last = 2 * last + 1;
        }
        return first - END >= birth && last - END < death;
    }

    /** The fewest PIECES are the widest ones that stay within a LIFE. */
    private static int pieceAround(int hour, int birth, int death) {
        int piece = END + hour;
        for (int level = 0; level < 6 && isWithin(piece / 2, birth, death); level++) {
            piece = piece / 2;
        }
        return piece;
    }

    /** From the single HOURS up: only a PIECE at a border whose sibling is outside stays alone. */
    private static int piecesOf(int birth, int death) {
        int first = END + birth;
        int end = END + death;
        int pieces = 0;
        for (int level = 0; level <= 6 && first < end; level++) {
            if (first % 2 == 1) {
                pieces++;
                first++;
            }
            if (end % 2 == 1) {
                pieces++;
                end--;
            }
            first = first / 2;
            end = end / 2;
        }
        return pieces;
    }

    /** The LIVES, in order, and LOCK: all in one row, so that one copy keeps them. */
    private static final class Lives {
        static final int HEAD = 2;
        static final int PARTS = 4;
        static final int ROW = HEAD + PARTS * MOST_LIVES;

        private final int[] row = new int[ROW];

        int lockHour() {
            return row[0];
        }

        void setLock(int hour) {
            row[0] = hour;
        }

        int size() {
            return row[1];
        }

        int numberOf(int k) {
            return k >= 0 && k < MOST_LIVES ? row[HEAD + PARTS * k] : 0;
        }

        int birthOf(int k) {
            return k >= 0 && k < MOST_LIVES ? row[HEAD + PARTS * k + 1] : 0;
        }

        int deathOf(int k) {
            return k >= 0 && k < MOST_LIVES ? row[HEAD + PARTS * k + 2] : 0;
        }

        int worthOf(int k) {
            return k >= 0 && k < MOST_LIVES ? row[HEAD + PARTS * k + 3] : 0;
        }

        void setWorth(int k, int worth) {
            if (k >= 0 && k < MOST_LIVES) {
                row[HEAD + PARTS * k + 3] = worth;
            }
        }

        void copyTo(int[] other) {
            if (other != null && other.length >= ROW) {
                System.arraycopy(row, 0, other, 0, ROW);
            }
        }

        void copyFrom(int[] other) {
            if (other != null && other.length >= ROW) {
                System.arraycopy(other, 0, row, 0, ROW);
            }
        }

        void insert(int number, int birth, int death, int worth) {
            int size = size();
            if (size < 0 || size >= MOST_LIVES) {
                return;
            }
            int place = 0;
            for (int k = 0; k < size; k++) {
                if (numberOf(k) < number || (numberOf(k) == number && birthOf(k) < birth)) {
                    place = k + 1;
                }
            }
            int from = HEAD + PARTS * place;
            System.arraycopy(row, from, row, from + PARTS, PARTS * (size - place));
            row[1] = size + 1;
            row[from] = number;
            row[from + 1] = birth;
            row[from + 2] = death;
            row[from + 3] = worth;
        }

        void remove(int k) {
            int size = size();
            if (k < 0 || k >= size || size > MOST_LIVES) {
                return;
            }
            int to = HEAD + PARTS * k;
            System.arraycopy(row, to + PARTS, row, to, PARTS * (size - k - 1));
            row[1] = size - 1;
        }

        boolean isAlive(int k, int hour) {
            return birthOf(k) <= hour && hour < deathOf(k);
        }

        boolean isCoveredBy(int k, int piece) {
            int birth = birthOf(k);
            int death = deathOf(k);
            return isWithin(piece, birth, death)
                && (piece == 1 || !isWithin(piece / 2, birth, death));
        }

        int find(int number, int hour) {
            for (int k = 0; k < size(); k++) {
                if (numberOf(k) == number && isAlive(k, hour)) {
                    return k;
                }
            }
            return NONE;
        }

        int findDeath(int number, int hour) {
            for (int k = 0; k < size(); k++) {
                if (numberOf(k) == number && deathOf(k) == hour) {
                    return k;
                }
            }
            return NONE;
        }

        int firstAt(int hour, int least) {
            for (int k = 0; k < size(); k++) {
                if (numberOf(k) >= least && isAlive(k, hour)) {
                    return k;
                }
            }
            return NONE;
        }

        int lastAt(int hour, int greatest) {
            for (int k = size() - 1; k >= 0; k--) {
                if (numberOf(k) <= greatest && isAlive(k, hour)) {
                    return k;
                }
            }
            return NONE;
        }

        int countAt(int hour) {
            int living = 0;
            for (int k = 0; k < size(); k++) {
                if (isAlive(k, hour)) {
                    living++;
                }
            }
            return living;
        }

        int worthsAt(int hour, int least, int greatest) {
            int worths = 0;
            for (int k = 0; k < size(); k++) {
                if (isAlive(k, hour) && numberOf(k) >= least && numberOf(k) <= greatest) {
                    worths += worthOf(k);
                }
            }
            return worths;
        }

        int countNumbers() {
            int numbers = 0;
            for (int k = 0; k < size(); k++) {
                if (k == 0 || numberOf(k) != numberOf(k - 1)) {
                    numbers++;
                }
            }
            return numbers;
        }

        int countPieces() {
            int pieces = 0;
            for (int k = 0; k < size(); k++) {
                pieces += piecesOf(birthOf(k), deathOf(k));
            }
            return pieces;
        }

        /** The HOURS of a NUMBER's LIVES, but for the LIFE left out (NONE: of all). */
        long hoursOf(int number, int leftOut) {
            long hours = 0L;
            for (int k = 0; k < size(); k++) {
                if (k != leftOut && numberOf(k) == number) {
                    hours |= hoursFrom(birthOf(k), deathOf(k));
                }
            }
            return hours;
        }
    }

    /** LIVES and LOCK as they were ahead of the latest EDITS, in a ring: the oldest give way. */
    private static final class Past {
        private final int[][] rows = new int[MOST_UNDOS][Lives.ROW];
        private int steps = 0;
        private int free = 0;

        int steps() {
            return steps;
        }

        void remember(Lives lives) {
            if (lives == null || free < 0 || free >= MOST_UNDOS) {
                return;
            }
            lives.copyTo(rows[free]);
            free = free == MOST_UNDOS - 1 ? 0 : free + 1;
            steps = Math.min(steps + 1, MOST_UNDOS);
        }

        boolean takeBack(Lives lives) {
            int latest = free == 0 ? MOST_UNDOS - 1 : free - 1;
            if (lives == null || steps <= 0 || latest < 0 || latest >= MOST_UNDOS) {
                return false;
            }
            lives.copyFrom(rows[latest]);
            free = latest;
            steps--;
            return true;
        }

        void forget() {
            steps = 0;
        }
    }

    /** The kinds of TOKENS; of a FIELD, its place among those of a LIFE and of an HOUR. */
    private enum Sign {
        END(""), NO_TOKEN(""), WHOLE(""), OTHER_WORD(""),
        PLUS("+"), MINUS("-"), LESS("<"), EQUAL("="), MORE(">"),
        OPEN("("), CLOSE(")"), SEMICOLON(";"),
        BORN("born"), FROM("from"), TO("to"), DIES("dies"), UNBORN("unborn"),
        REVIVES("revives"), SHIFTS("shifts"), BY("by"), AT("at"), LOCK("lock"), UNDO("undo"),
        LIVES("lives"), HOURS("hours"), RUN("run"), WHERE("where"),
        OR("or"), AND("and"), NOT("not"),
        NUMBER("number", 0, -1), BIRTH("birth", 1, -1), DEATH("death", 2, -1),
        LONG("long", 3, -1), WORTH("worth", 4, -1), PIECES("pieces", 5, -1),
        HOUR("hour", -1, 0), COUNT("count", -1, 1), SUM("sum", -1, 2),
        LEAST("least", -1, 3), MOST("most", -1, 4);

        final String word;
        final int lifeField;
        final int hourField;

        Sign(String word) {
            this(word, -1, -1);
        }

        Sign(String word, int lifeField, int hourField) {
            this.word = word;
            this.lifeField = lifeField;
            this.hourField = hourField;
        }
    }

    /** THE TAPE, the TOKENS cut from it, and how far they are read. */
    private static final class Tape {
        private static final int LONGEST_WORD = 7;
        private static final int LONGEST_WHOLE = 3;

        private final int[] bytes = new int[MOST_BYTES];
        private int length = 0;
        private final Sign[] signs = new Sign[MOST_BYTES + 1];
        private final int[] places = new int[MOST_BYTES + 1];
        private final int[] values = new int[MOST_BYTES + 1];
        private int tokens = 0;
        private int cursor = 0;
        private int faultKind = 0;
        private int faultPlace = 0;

        int length() {
            return length;
        }

        void addFour(int four) {
            addByte(four >>> 24);
            addByte(four >>> 16);
            addByte(four >>> 8);
            addByte(four);
        }

        private void addByte(int value) {
            if (length >= 0 && length < MOST_BYTES) {
                bytes[length] = value & 255;
                length++;
            }
        }

        /** Its first n bytes become TOKENS, up to the first that is none; it is empty then. */
        void cut(int n) {
            int end = Math.max(0, Math.min(n, length));
            length = 0;
            tokens = 0;
            cursor = 0;
            faultKind = 0;
            faultPlace = 0;
            int behind = 0;
            for (int place = 0; place < end; place++) {
                if (place < behind || isBlank(byteAt(place))) {
                    continue;
                }
                behind = endOfRun(place, end);
                Sign sign = signOf(place, behind);
                addToken(sign, place, sign == Sign.WHOLE ? wholeOf(place, behind) : 0);
                if (sign == Sign.NO_TOKEN) {
                    break;
                }
            }
            addToken(Sign.END, end, 0);
        }

        private void addToken(Sign sign, int place, int value) {
            if (tokens >= 0 && tokens <= MOST_BYTES) {
                signs[tokens] = sign;
                places[tokens] = place;
                values[tokens] = value;
                tokens++;
            }
        }

        private int endOfRun(int place, int end) {
            int first = byteAt(place);
            int behind = place + 1;
            if (!isLetter(first) && !isDigit(first)) {
                return behind;
            }
            while (behind < end && isLetter(byteAt(behind)) == isLetter(first)
                && isDigit(byteAt(behind)) == isDigit(first)) {
                behind++;
            }
            return behind;
        }

        private Sign signOf(int from, int to) {
            int first = byteAt(from);
            if (isDigit(first)) {
                return to - from > LONGEST_WHOLE ? Sign.NO_TOKEN : Sign.WHOLE;
            }
            if (to - from > LONGEST_WORD) {
                return Sign.NO_TOKEN;
            }
            for (int i = 0; i < SIGNS.length; i++) {
                Sign sign = SIGNS[i];
                if (sign != null && isSpelt(sign.word, from, to)) {
                    return sign;
                }
            }
            return isLetter(first) ? Sign.OTHER_WORD : Sign.NO_TOKEN;
        }

        private boolean isSpelt(String word, int from, int to) {
            if (word == null || word.length() != to - from) {
                return false;
            }
            for (int i = 0; i < word.length(); i++) {
                if (word.charAt(i) != byteAt(from + i)) {
                    return false;
                }
            }
            return true;
        }

        private int wholeOf(int from, int to) {
            int value = 0;
            for (int place = from; place < to; place++) {
                value = 10 * value + byteAt(place) - '0';
            }
            return value;
        }

        private int byteAt(int place) {
            return place < 0 || place >= MOST_BYTES ? 0 : bytes[place];
        }

        private static boolean isBlank(int value) {
            return value == ' ' || value == '\n';
        }

        private static boolean isLetter(int value) {
            return value >= 'a' && value <= 'z';
        }

        private static boolean isDigit(int value) {
            return value >= '0' && value <= '9';
        }

        int faultKind() {
            return faultKind;
        }

        int faultPlace() {
            return faultPlace;
        }

        int cursor() {
            return cursor;
        }

        void goTo(int token) {
            cursor = token;
        }

        /** The TOKEN to be read; none behind a FAULT, so that nothing is read any more. */
        Sign sign() {
            if (faultKind != 0 || cursor < 0 || cursor >= tokens || cursor > MOST_BYTES) {
                return Sign.NO_TOKEN;
            }
            return signs[cursor];
        }

        /** Goes behind the TOKEN to be read: its value, if it is a whole number. */
        int pass() {
            if (cursor < 0 || cursor >= tokens || cursor > MOST_BYTES) {
                return 0;
            }
            int value = values[cursor];
            cursor++;
            return value;
        }

        boolean takes(Sign sign) {
            if (sign() != sign) {
                return false;
            }
            pass();
            return true;
        }

        void expect(Sign sign) {
            if (!takes(sign)) {
                fail(UNREADABLE);
            }
        }

        int expectWhole() {
            if (sign() != Sign.WHOLE) {
                fail(UNREADABLE);
                return 0;
            }
            return pass();
        }

        void fail(int kind) {
            if (faultKind == 0) {
                faultKind = kind;
                faultPlace = cursor < 0 || cursor > MOST_BYTES ? 0 : places[cursor];
            }
        }
    }

    /** One LINE of a TEXT. */
    private static final class Line {
        private final Tape tape;
        private Sign verb = Sign.UNDO;
        private int number = 0;
        private int hour = 0;
        private int other = 0;
        private int worth = 0;

        Line(Tape tape) {
            this.tape = tape;
        }

        Sign verb() {
            return verb;
        }

        int number() {
            return number;
        }

        int hour() {
            return hour;
        }

        int other() {
            return other;
        }

        int worth() {
            return worth;
        }

        void read() {
            number = 0;
            hour = 0;
            other = 0;
            worth = 0;
            if (readsVerb(Sign.LOCK)) {
                hour = tape.expectWhole();
            } else if (!readsVerb(Sign.UNDO)) {
                number = tape.expectWhole();
                readDeed();
            }
            tape.expect(Sign.SEMICOLON);
        }

        private void readDeed() {
            if (readsVerb(Sign.BORN)) {
                hour = tape.expectWhole();
                readWorthIfTold();
            } else if (readsVerb(Sign.FROM)) {
                hour = tape.expectWhole();
                tape.expect(Sign.TO);
                other = tape.expectWhole();
                readWorthIfTold();
            } else if (readsVerb(Sign.SHIFTS)) {
                hour = tape.expectWhole();
                tape.expect(Sign.BY);
                boolean earlier = tape.takes(Sign.MINUS);
                other = earlier ? -tape.expectWhole() : tape.expectWhole();
            } else if (readsVerb(Sign.WORTH)) {
                worth = tape.expectWhole();
                tape.expect(Sign.AT);
                hour = tape.expectWhole();
            } else if (readsVerb(Sign.DIES) || readsVerb(Sign.UNBORN) || readsVerb(Sign.REVIVES)) {
                hour = tape.expectWhole();
            } else {
                tape.fail(UNREADABLE);
            }
        }

        private boolean readsVerb(Sign sign) {
            if (!tape.takes(sign)) {
                return false;
            }
            verb = sign;
            return true;
        }

        private void readWorthIfTold() {
            if (tape.takes(Sign.WORTH)) {
                worth = tape.expectWhole();
            }
        }
    }

    /**
     * A QUESTION: what it asks for, and whether its COND holds of the fields told last. The COND
     * is read anew for each LIFE or HOUR that is told, so that nothing need be built of it.
     */
    private static final class Question {
        private static final int FIELDS = 6;

        private final Tape tape;
        private final int[] fields = new int[FIELDS];
        private Sign what = Sign.LIVES;
        private boolean isOfHours = false;
        private int start = 0;

        Question(Tape tape) {
            this.tape = tape;
        }

        Sign what() {
            return what;
        }

        void read() {
            what = tape.sign();
            isOfHours = what == Sign.HOURS || what == Sign.RUN;
            if (!isOfHours && what != Sign.LIVES && what != Sign.WORTH) {
                tape.fail(UNREADABLE);
            }
            tape.pass();
            tape.expect(Sign.WHERE);
            start = tape.cursor();
            condHolds(0);
            tape.expect(Sign.END);
        }

        void tellLife(Lives lives, int k) {
            if (lives == null) {
                return;
            }
            int birth = lives.birthOf(k);
            int death = lives.deathOf(k);
            fields[0] = lives.numberOf(k);
            fields[1] = birth;
            fields[2] = death;
            fields[3] = death - birth;
            fields[4] = lives.worthOf(k);
            fields[5] = piecesOf(birth, death);
            tape.goTo(start);
        }

        void tellHour(Lives lives, int hour) {
            if (lives == null) {
                return;
            }
            int least = lives.firstAt(hour, 0);
            int most = lives.lastAt(hour, LAST_NUMBER);
            fields[0] = hour;
            fields[1] = lives.countAt(hour);
            fields[2] = lives.worthsAt(hour, 0, LAST_NUMBER);
            fields[3] = least < 0 ? NONE : lives.numberOf(least);
            fields[4] = most < 0 ? NONE : lives.numberOf(most);
            tape.goTo(start);
        }

        private boolean condHolds(int open) {
            boolean any = false;
            boolean all = factHolds(open);
            for (int i = 0; i < MOST_BYTES; i++) {
                if (tape.takes(Sign.AND)) {
                    all &= factHolds(open);
                } else if (tape.takes(Sign.OR)) {
                    any |= all;
                    all = factHolds(open);
                } else {
                    break;
                }
            }
            return any || all;
        }

        private boolean factHolds(int open) {
            Sign sign = tape.sign();
            if (sign != Sign.NOT && sign != Sign.OPEN) {
                return comparisonHolds();
            }
            if (open >= MOST_OPEN) {
                tape.fail(TOO_DEEP);
                return false;
            }
            tape.pass();
            if (sign == Sign.NOT) {
                return !factHolds(open + 1);
            }
            boolean holds = condHolds(open + 1);
            tape.expect(Sign.CLOSE);
            return holds;
        }

        private boolean comparisonHolds() {
            int left = total();
            Sign sign = tape.sign();
            if (sign != Sign.LESS && sign != Sign.EQUAL && sign != Sign.MORE) {
                tape.fail(UNREADABLE);
                return false;
            }
            tape.pass();
            int right = total();
            if (sign == Sign.LESS) {
                return left < right;
            }
            return sign == Sign.MORE ? left > right : left == right;
        }

        private int total() {
            int total = value();
            for (int i = 0; i < MOST_BYTES; i++) {
                if (tape.takes(Sign.PLUS)) {
                    total += value();
                } else if (tape.takes(Sign.MINUS)) {
                    total -= value();
                } else {
                    break;
                }
            }
            return total;
        }

        private int value() {
            Sign sign = tape.sign();
            if (sign == null) {
                return 0;
            }
            if (sign == Sign.WHOLE) {
                return tape.pass();
            }
            int field = isOfHours ? sign.hourField : sign.lifeField;
            if (field < 0 || field >= FIELDS) {
                tape.fail(UNREADABLE);
                return 0;
            }
            tape.pass();
            return fields[field];
        }
    }

    /** The bytes of a report. */
    private static final class Page {
        private static final int LONGEST_LIFE = 32;
        private static final int SIZE = LONGEST_LIFE * MOST_LIVES;

        private final int[] bytes = new int[SIZE];
        private int length = 0;

        int length() {
            return length;
        }

        int byteAt(int i) {
            return i < 0 || i >= SIZE ? 0 : bytes[i];
        }

        void clear() {
            length = 0;
        }

        void addText(String text) {
            if (text == null) {
                return;
            }
            for (int i = 0; i < text.length(); i++) {
                addByte(text.charAt(i));
            }
        }

        /** A number from 0 to 999. */
        void addNumber(int number) {
            if (number >= 100) {
                addByte('0' + number / 100);
            }
            if (number >= 10) {
                addByte('0' + number / 10 % 10);
            }
            addByte('0' + number % 10);
        }

        private void addByte(int value) {
            if (length >= 0 && length < SIZE) {
                bytes[length] = value;
                length++;
            }
        }
    }
}
