import java.io.IOException;

/** "What it is", "The public face" and "Terms" of the document, each sentence that has an edge. */
public final class TermsTest {
    private static final int NONE = -1;
    private static final int ABSENT = -2;

    public static void main(String[] args) throws IOException, IllegalAccessException {
        Edges.runAll(TermsTest.class, "What it is", "Terms 1", "Terms 2", "Terms 3");
        Check.close();
    }

    private static void due(String call, long got, long want) {
        Check.due(call, got, want);
    }

    // ---- what it is

    @Says(at = "What it is", words = "An object is used for at most 512 calls after it has been made",
        promises = {1, 8, 12, 18})
    static void the512thCallAnswersToo() {
        LateSet set = new LateSet();
        set.born(5, 3, 1);
        for (int k = 0; k < 255; k++) {
            set.worthed(5, 3, k % 2 + 2);
            set.feed(0, 0, 0, 0, 0);
        }
        due("call 512: life(0, 3)", set.life(0, 3), 2);
    }

    @Says(at = "Terms 3", words = "The constants: `NONE = -1`: None.", promises = {1})
    static void noneIsMinusOne() {
        due("NONE", LateSet.NONE, -1);
    }

    // ---- 1

    @Says(at = "Terms 1", words = "NUMBERS are 0 to 999", promises = {2})
    static void numbersAre0To999() {
        LateSet set = new LateSet();
        due("born(-1, 0, 0)", set.born(-1, 0, 0), 1);
        due("born(1000, 0, 0)", set.born(1000, 0, 0), 1);
        due("born(MIN, 0, 0)", set.born(Integer.MIN_VALUE, 0, 0), 1);
        due("born(MAX, 0, 0)", set.born(Integer.MAX_VALUE, 0, 0), 1);
        due("born(0, 0, 0)", set.born(0, 0, 0), 0);
        due("born(999, 0, 0)", set.born(999, 0, 0), 0);
        Edges.livesAre(set, "0 0-64 w0, 999 0-64 w0");
    }

    @Says(at = "Terms 1", words = "HOURS 0 to 63", promises = {2, 20})
    static void hoursAre0To63() {
        LateSet set = new LateSet();
        due("born(5, -1, 0)", set.born(5, -1, 0), 1);
        due("born(5, 64, 0)", set.born(5, 64, 0), 1);
        due("born(5, MIN, 0)", set.born(5, Integer.MIN_VALUE, 0), 1);
        due("born(5, MAX, 0)", set.born(5, Integer.MAX_VALUE, 0), 1);
        due("born(5, 0, 0)", set.born(5, 0, 0), 0);
        due("born(6, 63, 0)", set.born(6, 63, 0), 0);
        due("alive(0)", set.alive(0), 1);
        due("alive(63)", set.alive(63), 2);
    }

    @Says(at = "Terms 1", words = "END is 64", promises = {2, 3, 9, 18, 27})
    static void endIs64() {
        LateSet set = new LateSet();
        due("born(5, 9, 0)", set.born(5, 9, 0), 0);
        due("life(0, 2)", set.life(0, 2), 64);
        due("span(6, 9, 64, 0)", set.span(6, 9, 64, 0), 0);
        due("changes(64, 1)", set.changes(64, 1), 2);
        due("lock(64)", set.lock(64), 0);
        due("lock(65)", set.lock(65), NONE);
    }

    @Says(at = "Terms 1", words = "from its BIRTH, an HOUR, to its DEATH, an HOUR above that, or END", promises = {3})
    static void deathIsAboveBirth() {
        LateSet set = new LateSet();
        due("span(5, 9, 9, 0)", set.span(5, 9, 9, 0), 1);
        due("span(5, 9, 8, 0)", set.span(5, 9, 8, 0), 1);
        due("span(5, 9, 10, 0)", set.span(5, 9, 10, 0), 0);
        due("span(5, 62, 63, 0)", set.span(5, 62, 63, 0), 0);
        due("span(5, 63, 64, 0)", set.span(5, 63, 64, 0), 0);
        Edges.livesAre(set, "5 9-10 w0, 5 62-63 w0, 5 63-64 w0");
    }

    @Says(at = "Terms 1", words = "it has a WORTH, 0 to 99", promises = {2})
    static void worthsAre0To99() {
        LateSet set = new LateSet();
        due("born(5, 0, -1)", set.born(5, 0, -1), 1);
        due("born(5, 0, 100)", set.born(5, 0, 100), 1);
        due("born(5, 0, MIN)", set.born(5, 0, Integer.MIN_VALUE), 1);
        due("born(5, 0, MAX)", set.born(5, 0, Integer.MAX_VALUE), 1);
        due("born(5, 0, 0)", set.born(5, 0, 0), 0);
        due("born(6, 0, 99)", set.born(6, 0, 99), 0);
        Edges.livesAre(set, "5 0-64 w0, 6 0-64 w99");
    }

    @Says(at = "Terms 1", words = "It LIVES at HOURS from its BIRTH to its DEATH less 1", promises = {19, 20, 30})
    static void itLivesFromBirthToDeathLessOne() {
        LateSet set = Edges.of(5, 20, 23, 0);
        due("which(5, 19)", set.which(5, 19), ABSENT);
        due("which(5, 20)", set.which(5, 20), 0);
        due("which(5, 22)", set.which(5, 22), 0);
        due("which(5, 23)", set.which(5, 23), ABSENT);
        due("alive(19)", set.alive(19), 0);
        due("alive(20)", set.alive(20), 1);
        due("alive(22)", set.alive(22), 1);
        due("alive(23)", set.alive(23), 0);
        due("both(5, 5)", set.both(5, 5), 3);
    }

    @Says(at = "Terms 1", words = "so many is it LONG", promises = {15})
    static void longIsHowManyHours() {
        LateSet set = Edges.of(5, 20, 23, 0, 6, 63, 64, 0, 7, 0, 64, 0);
        due("long = 3", Words.ask(set, "lives where long = 3 and number = 5"), 1);
        due("long = 1", Words.ask(set, "lives where long = 1 and number = 6"), 1);
        due("long = 64", Words.ask(set, "lives where long = 64 and number = 7"), 1);
        due("another long", Words.ask(set, "lives where not (long = 3 or long = 1 or long = 64)"), 0);
    }

    @Says(at = "Terms 1", words = "No two LIVES of one NUMBER have an HOUR in common", promises = {3})
    static void livesOfANumberMayTouch() {
        LateSet set = Edges.of(5, 10, 20, 0);
        due("span(5, 9, 11, 0)", set.span(5, 9, 11, 0), 4);
        due("span(5, 19, 20, 0)", set.span(5, 19, 20, 0), 4);
        due("span(5, 10, 11, 0)", set.span(5, 10, 11, 0), 4);
        due("span(5, 12, 13, 0)", set.span(5, 12, 13, 0), 4);
        due("span(5, 0, 64, 0)", set.span(5, 0, 64, 0), 4);
        due("span(5, 0, 10, 0)", set.span(5, 0, 10, 0), 0);
        due("span(5, 20, 64, 0)", set.span(5, 20, 64, 0), 0);
        due("span(6, 0, 64, 0)", set.span(6, 0, 64, 0), 0);
        Edges.livesAre(set, "5 0-10 w0, 5 10-20 w0, 5 20-64 w0, 6 0-64 w0");
    }

    @Says(at = "Terms 1", words = "At most 40 LIVES", promises = {2, 3, 17})
    static void atMost40Lives() {
        LateSet set = Edges.many(39);
        due("the 40th", set.span(5, 0, 1, 0), 0);
        due("the 41st", set.span(6, 0, 1, 0), 5);
        due("the 41st, born", set.born(6, 0, 0), 5);
        due("count(0)", set.count(0), 40);
    }

    @Says(at = "Terms 1", words = "in order of NUMBERS, then BIRTHS", promises = {18})
    static void livesAreInOrder() {
        LateSet set = Edges.of(5, 30, 31, 1, 999, 0, 1, 2, 5, 10, 11, 3, 0, 63, 64, 4, 5, 20, 21, 5, 4, 62, 63, 6);
        Edges.livesAre(set, "0 63-64 w4, 4 62-63 w6, 5 10-11 w3, 5 20-21 w5, 5 30-31 w1, 999 0-1 w2");
    }

    @Says(at = "Terms 1", words = "1 is all 64 HOURS", promises = {33, 34, 35})
    static void pieceOneIsAllHours() {
        LateSet set = Edges.of(5, 0, 64, 0, 6, 0, 63, 0, 7, 1, 64, 0);
        due("on(1)", set.on(1), 1);
        due("onAt(1, 0)", set.onAt(1, 0), 5);
        due("cover(5, 0)", set.cover(5, 0), 1);
        due("cover(5, 63)", set.cover(5, 63), 1);
    }

    @Says(at = "Terms 1", words = "of each PIECE p below 64 the earlier half is PIECE 2p, the later one 2p and 1",
        promises = {17, 33, 34})
    static void halvesOfPieces() {
        int[][] pieces = {{2, 0, 32}, {3, 32, 64}, {4, 0, 16}, {5, 16, 32}, {6, 32, 48}, {7, 48, 64}, {8, 0, 8},
            {15, 56, 64}, {16, 0, 4}, {31, 60, 64}, {32, 0, 2}, {63, 62, 64}, {64, 0, 1}, {126, 62, 63}, {127, 63, 64}};
        for (int[] piece : pieces) {
            LateSet set = Edges.of(5, piece[1], piece[2], 0);
            due("on(" + piece[0] + ")", set.on(piece[0]), 1);
            due("cover at its first hour", set.cover(5, piece[1]), piece[0]);
            due("cover at its last hour", set.cover(5, piece[2] - 1), piece[0]);
            due("count(5)", set.count(5), 1);
        }
    }

    @Says(at = "Terms 1", words = "64 to 127 are single HOURS", promises = {33, 34})
    static void pieces64To127AreSingleHours() {
        for (int hour = 0; hour < 64; hour++) {
            LateSet set = Edges.of(5, hour, hour + 1, 0);
            due("cover(5, " + hour + ")", set.cover(5, hour), 64 + hour);
            due("on(" + (64 + hour) + ")", set.on(64 + hour), 1);
        }
    }

    @Says(at = "Terms 1", words = "the fewest PIECES that together are just its HOURS", promises = {17, 18})
    static void coversHaveTheFewestPieces() {
        int[][] lives = {{0, 64, 1}, {0, 63, 6}, {1, 64, 6}, {1, 63, 10}, {31, 33, 2}, {30, 34, 2}, {7, 9, 2},
            {0, 2, 1}, {1, 3, 2}, {5, 64, 5}, {0, 48, 2}, {16, 48, 2}, {15, 49, 4}};
        for (int[] life : lives) {
            LateSet set = Edges.of(5, life[0], life[1], 0);
            due("pieces from " + life[0] + " to " + life[1], set.life(0, 4), life[2]);
            due("count(5)", set.count(5), life[2]);
        }
    }

    @Says(at = "Terms 1", words = "(no HOUR twice)", promises = {34})
    static void noHourIsCoveredTwice() {
        int[][] lives = {{0, 64}, {0, 63}, {1, 64}, {1, 63}, {5, 38}, {31, 33}, {63, 64}};
        for (int[] life : lives) {
            LateSet set = Edges.of(5, life[0], life[1], 0);
            int hours = 0;
            for (int piece = 1; piece <= 127; piece++) {
                hours += set.on(piece) * 64 / Integer.highestOneBit(piece);
            }
            due("hours of all pieces from " + life[0] + " to " + life[1], hours, life[1] - life[0]);
        }
    }

    @Says(at = "Terms 1", words = "LOCK is an HOUR, or END (0 at first)", promises = {9, 17})
    static void lockIsAnHourOrEnd() {
        LateSet set = new LateSet();
        due("count(2)", set.count(2), 0);
        due("lock(-1)", set.lock(-1), NONE);
        due("lock(65)", set.lock(65), NONE);
        due("lock(63)", set.lock(63), 0);
        due("lock(64)", set.lock(64), 63);
        due("lock(0)", set.lock(0), 64);
    }

    @Says(at = "Terms 1", words = "HOURS below it are locked", promises = {3, 9})
    static void hoursBelowLockAreLocked() {
        LateSet set = new LateSet();
        set.lock(20);
        due("span(5, 19, 20, 0)", set.span(5, 19, 20, 0), 3);
        due("span(5, 0, 1, 0)", set.span(5, 0, 1, 0), 3);
        due("span(5, 20, 21, 0)", set.span(5, 20, 21, 0), 0);
        set.lock(64);
        due("span(5, 63, 64, 0)", set.span(5, 63, 64, 0), 3);
        set.lock(0);
        due("span(5, 0, 1, 0)", set.span(5, 0, 1, 0), 0);
    }

    @Says(at = "Terms 1", words = "WHY an EDIT is refused, the first of these that holds",
        promises = {2, 3, 4, 5, 6, 7, 8})
    static void theFirstReasonCounts() {
        LateSet set = Edges.many(38);
        set.span(5, 0, 30, 7);
        set.span(5, 40, 50, 7);
        set.lock(20);
        due("1 ahead of 2", set.died(6, 64), 1);
        due("1 ahead of 2", set.worthed(6, 0, 100), 1);
        due("1 ahead of 2", set.shifted(6, 0, 0), 1);
        due("1 ahead of 3", set.span(6, 0, 65, 0), 1);
        due("1 ahead of 3", set.worthed(5, 0, 100), 1);
        due("1 ahead of 3", set.shifted(5, 0, -1), 1);
        due("1 ahead of 3", set.shifted(5, 45, -41), 1);
        due("1 ahead of 4", set.shifted(5, 45, -104), 1);
        due("1 ahead of 5", set.born(6, 64, 0), 1);
        due("1 ahead of 6", set.worthed(5, 64, 7), 1);
        due("2 ahead of 3", set.died(6, 0), 2);
        due("2 ahead of 6", set.worthed(6, 0, 0), 2);
        due("3 ahead of 4", set.span(100, 0, 64, 0), 3);
        due("3 ahead of 4", set.shifted(5, 10, 20), 3);
        due("3 ahead of 5", set.span(6, 0, 64, 0), 3);
        due("3 ahead of 6", set.worthed(5, 0, 7), 3);
        due("4 ahead of 5", set.span(5, 20, 30, 0), 4);
        due("5", set.span(6, 20, 30, 0), 5);
        due("6", set.worthed(5, 40, 7), 6);
        due("count(3)", set.count(3), 20);
    }

    @Says(at = "Terms 1", words = "1 a NUMBER, HOUR, WORTH out of bounds", promises = {2, 3, 4, 5, 6, 7, 8})
    static void boundsOfEachEdit() {
        LateSet set = Edges.of(0, 0, 64, 5, 999, 0, 63, 5);
        String before = Words.state(set);
        for (int number : new int[] {-1, 1000, Integer.MIN_VALUE, Integer.MAX_VALUE}) {
            due("born", set.born(number, 0, 0), 1);
            due("span", set.span(number, 0, 1, 0), 1);
            due("died", set.died(number, 0), 1);
            due("unborn", set.unborn(number, 0), 1);
            due("revived", set.revived(number, 63), 1);
            due("shifted", set.shifted(number, 0, 1), 1);
            due("worthed", set.worthed(number, 0, 1), 1);
        }
        for (int hour : new int[] {-1, 64, Integer.MIN_VALUE, Integer.MAX_VALUE}) {
            due("born", set.born(5, hour, 0), 1);
            due("span", set.span(5, hour, 64, 0), 1);
            due("died", set.died(0, hour), 1);
            due("unborn", set.unborn(0, hour), 1);
            due("revived", set.revived(0, hour), 1);
            due("shifted", set.shifted(0, hour, 1), 1);
            due("worthed", set.worthed(0, hour, 1), 1);
        }
        for (int worth : new int[] {-1, 100, Integer.MIN_VALUE, Integer.MAX_VALUE}) {
            due("born", set.born(5, 0, worth), 1);
            due("span", set.span(5, 0, 1, worth), 1);
            due("worthed", set.worthed(0, 0, worth), 1);
        }
        Edges.stays("what is refused", set, before);
    }

    @Says(at = "Terms 1", words = "(to of a span: an HOUR or END, above from)", promises = {3})
    static void toOfASpan() {
        LateSet set = new LateSet();
        due("span(5, 63, 65, 0)", set.span(5, 63, 65, 0), 1);
        due("span(5, 63, MAX, 0)", set.span(5, 63, Integer.MAX_VALUE, 0), 1);
        due("span(5, 63, 63, 0)", set.span(5, 63, 63, 0), 1);
        due("span(5, 63, 62, 0)", set.span(5, 63, 62, 0), 1);
        due("span(5, 0, 0, 0)", set.span(5, 0, 0, 0), 1);
        due("span(5, 0, -1, 0)", set.span(5, 0, -1, 0), 1);
        due("span(5, 0, MIN, 0)", set.span(5, 0, Integer.MIN_VALUE, 0), 1);
        due("span(5, 64, 65, 0)", set.span(5, 64, 65, 0), 1);
        due("span(5, 63, 64, 0)", set.span(5, 63, 64, 0), 0);
        due("span(5, 0, 1, 0)", set.span(5, 0, 1, 0), 0);
    }

    @Says(at = "Terms 1", words = "2 there is no such LIFE", promises = {4, 5, 6, 7, 8})
    static void noSuchLife() {
        LateSet set = Edges.of(5, 10, 20, 7);
        String before = Words.state(set);
        for (int hour : new int[] {9, 20}) {
            due("died(5, " + hour + ")", set.died(5, hour), 2);
            due("unborn(5, " + hour + ")", set.unborn(5, hour), 2);
            due("shifted(5, " + hour + ", 1)", set.shifted(5, hour, 1), 2);
            due("worthed(5, " + hour + ", 1)", set.worthed(5, hour, 1), 2);
        }
        due("died(4, 10)", set.died(4, 10), 2);
        due("unborn(6, 10)", set.unborn(6, 10), 2);
        due("shifted(4, 10, 1)", set.shifted(4, 10, 1), 2);
        due("worthed(6, 10, 1)", set.worthed(6, 10, 1), 2);
        due("revived(5, 19)", set.revived(5, 19), 2);
        due("revived(5, 21)", set.revived(5, 21), 2);
        due("revived(6, 20)", set.revived(6, 20), 2);
        Edges.stays("what is refused", set, before);
    }

    @Says(at = "Terms 1", words = "3 it would change who LIVES at a locked HOUR", promises = {2, 3, 4, 5, 6, 7})
    static void lockedHoursStay() {
        LateSet set = Edges.of(5, 10, 20, 7, 6, 30, 40, 0);
        set.lock(16);
        String before = Words.state(set);
        due("span(7, 15, 16, 0)", set.span(7, 15, 16, 0), 3);
        due("born(7, 15, 0)", set.born(7, 15, 0), 3);
        due("died(5, 15)", set.died(5, 15), 3);
        due("unborn(5, 19)", set.unborn(5, 19), 3);
        due("shifted(5, 19, 1)", set.shifted(5, 19, 1), 3);
        due("shifted(5, 19, -1)", set.shifted(5, 19, -1), 3);
        due("shifted(6, 30, -15)", set.shifted(6, 30, -15), 3);
        set.lock(21);
        due("revived(5, 20)", set.revived(5, 20), 3);
        set.lock(16);
        Edges.stays("what is refused", set, before);
        due("died(5, 16)", set.died(5, 16), 0);
        due("revived(5, 16)", set.revived(5, 16), 0);
        due("shifted(6, 30, -14)", set.shifted(6, 30, -14), 0);
        due("unborn(6, 16)", set.unborn(6, 16), 0);
        due("born(7, 16, 0)", set.born(7, 16, 0), 0);
        Edges.livesAre(set, "5 10-64 w7, 7 16-64 w0");
    }

    @Says(at = "Terms 1", words = "(of worthed(): the LIFE's BIRTH is locked)", promises = {8})
    static void worthedIsLockedByTheBirth() {
        LateSet set = Edges.of(5, 10, 20, 7);
        set.lock(11);
        due("worthed(5, 19, 8)", set.worthed(5, 19, 8), 3);
        due("worthed(5, 19, 7)", set.worthed(5, 19, 7), 3);
        set.lock(10);
        due("worthed(5, 10, 8)", set.worthed(5, 10, 8), 0);
        set.lock(64);
        due("worthed(5, 10, 9)", set.worthed(5, 10, 9), 3);
        Edges.livesAre(set, "5 10-20 w8");
    }

    @Says(at = "Terms 1", words = "4 CLASH: two LIVES of a NUMBER would have an HOUR in common",
        promises = {2, 3, 6, 7})
    static void clashes() {
        LateSet set = Edges.of(5, 10, 20, 7, 5, 30, 40, 8);
        String before = Words.state(set);
        due("born(5, 9, 0)", set.born(5, 9, 0), 4);
        due("born(5, 39, 0)", set.born(5, 39, 0), 4);
        due("span(5, 0, 11, 0)", set.span(5, 0, 11, 0), 4);
        due("span(5, 20, 31, 0)", set.span(5, 20, 31, 0), 4);
        due("revived(5, 20)", set.revived(5, 20), 4);
        due("shifted(5, 10, 11)", set.shifted(5, 10, 11), 4);
        due("shifted(5, 30, -11)", set.shifted(5, 30, -11), 4);
        due("shifted(5, 10, 29)", set.shifted(5, 10, 29), 4);
        Edges.stays("what is refused", set, before);
        due("shifted(5, 10, 10)", set.shifted(5, 10, 10), 0);
        due("shifted(5, 20, 20)", set.shifted(5, 20, 20), 0);
        due("born(5, 50, 0)", set.born(5, 50, 0), 0);
        Edges.livesAre(set, "5 30-40 w8, 5 40-50 w7, 5 50-64 w0");
    }

    @Says(at = "Terms 1", words = "5 there are 40 LIVES", promises = {2, 3, 4, 5, 6, 7, 8})
    static void fortyLives() {
        LateSet set = Edges.many(40);
        String before = Words.state(set);
        due("born(5, 0, 0)", set.born(5, 0, 0), 5);
        due("span(5, 0, 1, 0)", set.span(5, 0, 1, 0), 5);
        due("span(139, 11, 12, 0)", set.span(139, 11, 12, 0), 5);
        Edges.stays("what is refused", set, before);
        due("revived(100, 11)", set.revived(100, 11), 0);
        due("shifted(101, 10, 1)", set.shifted(101, 10, 1), 0);
        due("worthed(102, 10, 1)", set.worthed(102, 10, 1), 0);
        due("died(100, 12)", set.died(100, 12), 0);
        due("unborn(103, 10)", set.unborn(103, 10), 0);
        due("span(5, 0, 1, 0)", set.span(5, 0, 1, 0), 0);
        due("born(6, 0, 0)", set.born(6, 0, 0), 5);
    }

    @Says(at = "Terms 1", words = "6 nothing would be another", promises = {8})
    static void nothingWouldBeAnother() {
        LateSet set = Edges.of(5, 10, 20, 7, 6, 0, 1, 0, 7, 0, 1, 99);
        String before = Words.state(set);
        due("worthed(5, 10, 7)", set.worthed(5, 10, 7), 6);
        due("worthed(6, 0, 0)", set.worthed(6, 0, 0), 6);
        due("worthed(7, 0, 99)", set.worthed(7, 0, 99), 6);
        Edges.stays("what is refused", set, before);
        due("worthed(5, 10, 8)", set.worthed(5, 10, 8), 0);
    }

    @Says(at = "Terms 1", words = "0: it is done", promises = {2, 3, 4, 5, 6, 7, 8})
    static void zeroIsDone() {
        LateSet set = new LateSet();
        due("born(5, 30, 1)", set.born(5, 30, 1), 0);
        due("span(6, 0, 9, 2)", set.span(6, 0, 9, 2), 0);
        due("died(5, 40)", set.died(5, 40), 0);
        due("revived(6, 9)", set.revived(6, 9), 0);
        due("shifted(5, 30, 2)", set.shifted(5, 30, 2), 0);
        due("worthed(5, 32, 3)", set.worthed(5, 32, 3), 0);
        due("unborn(6, 63)", set.unborn(6, 63), 0);
        Edges.livesAre(set, "5 32-42 w3");
        due("count(3)", set.count(3), 7);
    }

    // ---- 2, edits

    @Says(at = "Terms 2", words = "born: a LIFE from an HOUR to END.", promises = {2})
    static void bornIsToEnd() {
        LateSet set = new LateSet();
        due("born(5, 0, 9)", set.born(5, 0, 9), 0);
        due("born(6, 63, 8)", set.born(6, 63, 8), 0);
        Edges.livesAre(set, "5 0-64 w9, 6 63-64 w8");
    }

    @Says(at = "Terms 2", words = "span: a LIFE from an HOUR to an HOUR, or END.", promises = {3})
    static void spanIsToAnHourOrEnd() {
        LateSet set = new LateSet();
        due("span(5, 0, 63, 9)", set.span(5, 0, 63, 9), 0);
        due("span(6, 0, 64, 8)", set.span(6, 0, 64, 8), 0);
        due("span(7, 0, 1, 7)", set.span(7, 0, 1, 7), 0);
        Edges.livesAre(set, "5 0-63 w9, 6 0-64 w8, 7 0-1 w7");
    }

    @Says(at = "Terms 2", words = "died: the LIFE that LIVES at an HOUR has its DEATH at that HOUR", promises = {4})
    static void diedAtAnHour() {
        LateSet set = Edges.of(5, 10, 20, 7, 5, 20, 30, 8);
        due("died(5, 9)", set.died(5, 9), 2);
        due("died(5, 30)", set.died(5, 30), 2);
        due("died(5, 19)", set.died(5, 19), 0);
        due("died(5, 19)", set.died(5, 19), 2);
        due("died(5, 29)", set.died(5, 29), 0);
        due("died(5, 11)", set.died(5, 11), 0);
        Edges.livesAre(set, "5 10-11 w7, 5 20-29 w8");
    }

    @Says(at = "Terms 2", words = "if that is its BIRTH, it is gone", promises = {4})
    static void diedAtItsBirth() {
        LateSet set = Edges.of(5, 0, 20, 7, 5, 20, 30, 8, 6, 63, 64, 0);
        due("died(5, 20)", set.died(5, 20), 0);
        Edges.livesAre(set, "5 0-20 w7, 6 63-64 w0");
        due("died(5, 0)", set.died(5, 0), 0);
        due("died(6, 63)", set.died(6, 63), 0);
        due("count(0)", set.count(0), 0);
        due("undo()", set.undo(), 5);
        Edges.livesAre(set, "6 63-64 w0");
    }

    @Says(at = "Terms 2", words = "unborn: the LIFE that LIVES at an HOUR is gone", promises = {5})
    static void unbornAtAnHour() {
        LateSet set = Edges.of(5, 10, 20, 7, 5, 20, 30, 8, 5, 40, 64, 9);
        due("unborn(5, 9)", set.unborn(5, 9), 2);
        due("unborn(5, 30)", set.unborn(5, 30), 2);
        due("unborn(5, 19)", set.unborn(5, 19), 0);
        Edges.livesAre(set, "5 20-30 w8, 5 40-64 w9");
        due("unborn(5, 63)", set.unborn(5, 63), 0);
        due("unborn(5, 20)", set.unborn(5, 20), 0);
        due("count(0)", set.count(0), 0);
    }

    @Says(at = "Terms 2", words = "revived: the LIFE with its DEATH at an HOUR (not END) has it at END",
        promises = {6})
    static void revivedFromADeath() {
        LateSet set = Edges.of(5, 0, 1, 7, 6, 0, 63, 8, 7, 0, 64, 9);
        due("revived(7, 64)", set.revived(7, 64), 1);
        due("revived(7, 63)", set.revived(7, 63), 2);
        due("revived(5, 1)", set.revived(5, 1), 0);
        due("revived(6, 63)", set.revived(6, 63), 0);
        Edges.livesAre(set, "5 0-64 w7, 6 0-64 w8, 7 0-64 w9");
        due("revived(5, 1)", set.revived(5, 1), 2);
    }

    @Says(at = "Terms 2", words = "so many HOURS later (below 0: earlier", promises = {7})
    static void shiftedLaterAndEarlier() {
        LateSet set = Edges.of(5, 10, 20, 7);
        due("shifted(5, 19, 1)", set.shifted(5, 19, 1), 0);
        Edges.livesAre(set, "5 11-21 w7");
        due("shifted(5, 11, -3)", set.shifted(5, 11, -3), 0);
        Edges.livesAre(set, "5 8-18 w7");
        due("shifted(5, 18, 1)", set.shifted(5, 18, 1), 2);
    }

    @Says(at = "Terms 2", words = "a DEATH at END stays", promises = {7})
    static void aDeathAtEndStays() {
        LateSet set = Edges.of(5, 10, 64, 7);
        due("shifted(5, 10, 53)", set.shifted(5, 10, 53), 0);
        Edges.livesAre(set, "5 63-64 w7");
        due("shifted(5, 63, -63)", set.shifted(5, 63, -63), 0);
        Edges.livesAre(set, "5 0-64 w7");
    }

    @Says(at = "Terms 2", words = "1: a BIRTH out of bounds", promises = {7})
    static void shiftedBirthOutOfBounds() {
        LateSet set = Edges.of(5, 10, 20, 7, 6, 10, 64, 8);
        due("shifted(5, 10, -11)", set.shifted(5, 10, -11), 1);
        due("shifted(6, 10, -11)", set.shifted(6, 10, -11), 1);
        due("shifted(6, 10, 54)", set.shifted(6, 10, 54), 1);
        due("shifted(5, 10, -63)", set.shifted(5, 10, -63), 1);
        due("shifted(5, 10, -10)", set.shifted(5, 10, -10), 0);
        due("shifted(6, 10, 53)", set.shifted(6, 10, 53), 0);
        Edges.livesAre(set, "5 0-10 w7, 6 63-64 w8");
    }

    @Says(at = "Terms 2", words = "a DEATH that would be above END", promises = {7})
    static void shiftedDeathAboveEnd() {
        LateSet set = Edges.of(5, 10, 20, 7, 6, 62, 63, 8);
        due("shifted(5, 10, 45)", set.shifted(5, 10, 45), 1);
        due("shifted(6, 62, 2)", set.shifted(6, 62, 2), 1);
        Edges.livesAre(set, "5 10-20 w7, 6 62-63 w8");
    }

    @Says(at = "Terms 2", words = "a DEATH that comes to END is there", promises = {7})
    static void shiftedDeathComesToEnd() {
        LateSet set = Edges.of(5, 10, 20, 7, 6, 62, 63, 8);
        due("shifted(5, 10, 44)", set.shifted(5, 10, 44), 0);
        due("shifted(6, 62, 1)", set.shifted(6, 62, 1), 0);
        Edges.livesAre(set, "5 54-64 w7, 6 63-64 w8");
        due("shifted(5, 63, -4): it stays", set.shifted(5, 63, -4), 0);
        Edges.livesAre(set, "5 50-64 w7, 6 63-64 w8");
    }

    @Says(at = "Terms 2", words = "worthed: the LIFE that LIVES at an HOUR has another WORTH", promises = {8})
    static void worthedAtAnHour() {
        LateSet set = Edges.of(5, 10, 20, 7, 5, 20, 30, 8);
        due("worthed(5, 19, 99)", set.worthed(5, 19, 99), 0);
        due("worthed(5, 20, 0)", set.worthed(5, 20, 0), 0);
        due("worthed(5, 9, 1)", set.worthed(5, 9, 1), 2);
        due("worthed(5, 30, 1)", set.worthed(5, 30, 1), 2);
        Edges.livesAre(set, "5 10-20 w99, 5 20-30 w0");
    }

    @Says(at = "Terms 2", words = "some HOUR below LOCK at which the NUMBER would LIVE and did not",
        promises = {2, 3, 6, 7})
    static void wouldLiveAndDidNot() {
        LateSet set = Edges.of(5, 10, 20, 7, 6, 40, 50, 8);
        set.lock(20);
        due("born(5, 10, 0): it lives there", set.born(5, 10, 0), 4);
        due("span(5, 10, 20, 0): it lives there", set.span(5, 10, 20, 0), 4);
        due("span(5, 9, 20, 0)", set.span(5, 9, 20, 0), 3);
        due("revived(5, 20)", set.revived(5, 20), 0);
        due("shifted(6, 40, -21)", set.shifted(6, 40, -21), 3);
        due("shifted(6, 40, -20)", set.shifted(6, 40, -20), 0);
        due("born(7, 19, 0)", set.born(7, 19, 0), 3);
        due("born(7, 20, 0)", set.born(7, 20, 0), 0);
        Edges.livesAre(set, "5 10-64 w7, 6 20-30 w8, 7 20-64 w0");
    }

    @Says(at = "Terms 2", words = "or the other way round", promises = {4, 5, 7})
    static void livedAndWouldNot() {
        LateSet set = Edges.of(5, 10, 20, 7, 6, 19, 30, 8, 7, 20, 30, 9);
        set.lock(20);
        due("died(5, 19)", set.died(5, 19), 3);
        due("unborn(6, 29)", set.unborn(6, 29), 3);
        due("shifted(6, 29, 1)", set.shifted(6, 29, 1), 3);
        due("died(6, 20)", set.died(6, 20), 0);
        due("shifted(7, 29, 1)", set.shifted(7, 29, 1), 0);
        due("unborn(7, 29)", set.unborn(7, 29), 0);
        Edges.livesAre(set, "5 10-20 w7, 6 19-20 w8");
    }

    // ---- 2, the text

    @Says(at = "Terms 2", words = "THE TAPE has 600 bytes", promises = {12, 13, 15})
    static void theTapeHas600Bytes() {
        LateSet set = new LateSet();
        for (int k = 1; k <= 29; k++) {
            set.feed(0x20202020, 0x20202020, 0x20202020, 0x20202020, 0x20202020);
        }
        due("feed to 600", set.feed(0x20202020, 0x20202020, 0x20202020, 0x20202020, 0x756e646f), 600);
        due("feed beyond", set.feed(0x3b202020, 0, 0, 0, 0), NONE);
        due("text(600): no semicolon came", set.text(600), -2 - 600);
        StringBuilder signs = new StringBuilder();
        while (signs.length() < 600) {
            signs.append(';');
        }
        due("600 TOKENS", Words.text(set, signs.toString()), -2);
        due("600 TOKENS", Words.ask(set, signs.toString()), Words.fault(0, 1));
        StringBuilder question = new StringBuilder("lives where 001=1+");
        while (question.length() < 599) {
            question.append("0+1-1+");
        }
        question.setLength(599);
        due("a QUESTION of 599 bytes", Words.ask(Edges.of(5, 0, 1, 0), question.toString()), 1);
    }

    @Says(at = "Terms 2", words = "blanks, 32, 10, part TOKENS and mean nothing else", promises = {13})
    static void blanksPartTokens() {
        LateSet set = new LateSet();
        due("32", Words.text(set, "   5 born   3   ;   "), 1);
        due("10", Words.text(set, "\n6\nborn\n\n3\n;\n\n"), 1);
        due("none", Words.text(set, "7born3;"), 1);
        due("a word in two", Words.text(set, "8 bo rn 3;"), -2 - 2);
        due("a whole number in two", Words.text(set, "8 born 3 3;"), -2 - 9);
        due("9", Words.text(set, "8\tborn 3;"), -2 - 1);
        due("13", Words.text(set, "8 born 3;\r\n"), -2 - 9);
        due("0", Words.text(set, "8 born 3;\0"), -2 - 9);
        due("160", Words.text(set, "8 born 3;" + (char) 160), -2 - 9);
        Edges.livesAre(set, "5 3-64 w0, 6 3-64 w0, 7 3-64 w0");
    }

    @Says(at = "Terms 2", words = "WORDS: small letters, each that stand together, 1 to 7", promises = {13, 15})
    static void wordsHave1To7Letters() {
        LateSet set = Edges.of(5, 0, 9, 0);
        due("7 letters", Words.text(set, "5 revives 9;"), 1);
        due("a word of 7 that is none of these", Words.text(set, "5 revived 9;"), -2 - 2);
        due("8 letters", Words.text(set, "5 reviveses 9;"), -2 - 2);
        due("1 letter", Words.text(set, "5 a 9;"), -2 - 2);
        due("a capital", Words.text(set, "5 Dies 5;"), -2 - 2);
        due("a capital behind small letters", Words.text(set, "5 dieS 5;"), -2 - 2);
        due("letters stand together", Words.text(set, "undoundo;"), -2);
        due("a is a letter", Words.text(set, "undoa;"), -2);
        due("z is a letter", Words.text(set, "undoz;"), -2);
        due("what stands ahead of a is none", Words.text(set, "undo`;"), -2 - 4);
        due("what stands behind z is none", Words.text(set, "undo{;"), -2 - 4);
        due("8 letters in a QUESTION", Words.ask(set, "lives where pieceses = 1"), Words.fault(12, 1));
    }

    @Says(at = "Terms 2", words = "whole numbers: digits, likewise, 1 to 3", promises = {13, 15})
    static void wholeNumbersHave1To3Digits() {
        LateSet set = new LateSet();
        due("1 digit", Words.text(set, "5 born 0;"), 1);
        due("3 digits", Words.text(set, "999 born 063;"), 1);
        due("4 digits", Words.text(set, "6 born 0063;"), -2 - 7);
        due("4 digits", Words.text(set, "1000 born 3;"), -2);
        due("10 digits", Words.text(set, "6 born 3 worth 1234567890;"), -2 - 15);
        due("what stands beside 0 and 9", Words.text(set, "6 born 3/;"), -2 - 8);
        due("what stands beside 0 and 9", Words.text(set, "6 born 3:;"), -2 - 8);
        due("digits end at letters", Words.text(set, "6born3worth9;7dies3;"), 1);
        due("4 digits in a QUESTION", Words.ask(set, "lives where 1 < 1000"), Words.fault(16, 1));
        Edges.livesAre(set, "5 0-64 w0, 6 3-64 w9, 999 63-64 w0");
    }

    @Says(at = "Terms 2", words = "+ - < = > ( ) ; alone", promises = {13, 15})
    static void signsStandAlone() {
        LateSet set = Edges.of(5, 10, 20, 0);
        due(";;", Words.text(set, "undo;;"), -2 - 5);
        due("by-3;", Words.text(set, "5shifts10by-3;"), 1);
        due("by--3;", Words.text(set, "5shifts10by--3;"), -2 - 12);
        due("signs without blanks", Words.ask(set, "lives where(1+2-3=0)and(0<1)and(1>0)"), 1);
        due("<=", Words.ask(set, "lives where 1<=1"), Words.fault(14, 1));
        due("==", Words.ask(set, "lives where 1==1"), Words.fault(14, 1));
        due("+ in a TEXT", Words.text(set, "5 shifts 10 by +3;"), -2 - 15);
    }

    @Says(at = "Terms 2", words = "longer ones, all else are no TOKENS", promises = {13})
    static void allElseIsNoToken() {
        LateSet set = new LateSet();
        String noTokens = "!\"#$%&'*,./:?@AZ[\\]^_`{|}~\t\r" + (char) 0 + (char) 11 + (char) 31 + (char) 127
            + (char) 128 + (char) 138 + (char) 160 + (char) 225 + (char) 255;
        for (int i = 0; i < noTokens.length(); i++) {
            due("byte " + (int) noTokens.charAt(i), Words.text(set, "undo; " + noTokens.charAt(i)), -2 - 6);
        }
        due("8 letters", Words.text(set, "undo; abcdefgh"), -2 - 6);
        due("4 digits", Words.text(set, "undo; 1234"), -2 - 6);
        due("count(3)", set.count(3), 0);
    }

    @Says(at = "Terms 2", words = "{ LINE ; }", promises = {13})
    static void linesEndWithSemicolons() {
        LateSet set = new LateSet();
        due("none", Words.text(set, ""), 0);
        due("blanks alone", Words.text(set, "   "), 0);
        due("one", Words.text(set, "5 born 3;"), 1);
        due("two", Words.text(set, "6 born 3; 7 born 3;"), 2);
        due("the last without", Words.text(set, "8 born 3; 9 born 3"), -2 - 18);
        due("the first without", Words.text(set, "8 born 3 9 born 3;"), -2 - 9);
        due("a semicolon alone", Words.text(set, ";"), -2);
        due("a whole number alone", Words.text(set, "8;"), -2 - 1);
        Edges.livesAre(set, "5 3-64 w0, 6 3-64 w0, 7 3-64 w0");
    }

    @Says(at = "Terms 2", words = "LINE, N whole numbers: N born N [ worth N ]", promises = {2, 13})
    static void lineBorn() {
        LateSet set = new LateSet();
        due("without", Words.text(set, "5 born 63;"), 1);
        due("with", Words.text(set, "6 born 0 worth 99;"), 1);
        due("refused", Words.text(set, "7 born 64; 7 born 63 worth 100; 5 born 63;"), 0);
        due("born ;", Words.text(set, "7 born;"), -2 - 6);
        due("worth ;", Words.text(set, "7 born 3 worth;"), -2 - 14);
        due("worth twice", Words.text(set, "7 born 3 worth 3 worth 3;"), -2 - 17);
        due("to", Words.text(set, "7 born 3 to 5;"), -2 - 9);
        Edges.livesAre(set, "5 63-64 w0, 6 0-64 w99");
    }

    @Says(at = "Terms 2", words = "N from N to N [ worth N ]", promises = {3, 13})
    static void lineFrom() {
        LateSet set = new LateSet();
        due("without", Words.text(set, "5 from 0 to 1;"), 1);
        due("with", Words.text(set, "6 from 63 to 64 worth 99;"), 1);
        due("refused", Words.text(set, "7 from 3 to 3; 7 from 63 to 65; 7 from 64 to 65; 7 from 3 to 4 worth 100;"), 0);
        due("from N worth", Words.text(set, "7 from 3 worth 5;"), -2 - 9);
        due("from ;", Words.text(set, "7 from;"), -2 - 6);
        due("from to", Words.text(set, "7 from to 5;"), -2 - 7);
        due("to ;", Words.text(set, "7 from 3 to;"), -2 - 11);
        due("worth ;", Words.text(set, "7 from 3 to 5 worth;"), -2 - 19);
        due("on, as a report has it", Words.text(set, "7 from 3 on ;"), -2 - 9);
        Edges.livesAre(set, "5 0-1 w0, 6 63-64 w99");
    }

    @Says(at = "Terms 2", words = "N dies N |", promises = {4, 13})
    static void lineDies() {
        LateSet set = Edges.of(5, 10, 20, 7);
        due("done", Words.text(set, "5 dies 19;"), 1);
        due("refused", Words.text(set, "5 dies 19; 5 dies 64; 6 dies 10;"), 0);
        due("dies ;", Words.text(set, "5 dies;"), -2 - 6);
        due("dies at", Words.text(set, "5 dies at 3;"), -2 - 7);
        due("worth", Words.text(set, "5 dies 13 worth 3;"), -2 - 10);
        Edges.livesAre(set, "5 10-19 w7");
    }

    @Says(at = "Terms 2", words = "N unborn N |", promises = {5, 13})
    static void lineUnborn() {
        LateSet set = Edges.of(5, 10, 20, 7, 6, 10, 20, 8);
        due("done", Words.text(set, "5 unborn 19;"), 1);
        due("refused", Words.text(set, "5 unborn 19; 6 unborn 64; 6 unborn 20;"), 0);
        due("unborn ;", Words.text(set, "6 unborn;"), -2 - 8);
        due("unborn N N", Words.text(set, "6 unborn 10 11;"), -2 - 12);
        Edges.livesAre(set, "6 10-20 w8");
    }

    @Says(at = "Terms 2", words = "N revives N |", promises = {6, 13})
    static void lineRevives() {
        LateSet set = Edges.of(5, 10, 20, 7);
        due("done", Words.text(set, "5 revives 20;"), 1);
        due("refused", Words.text(set, "5 revives 20; 5 revives 64; 5 revives 0;"), 0);
        due("revives ;", Words.text(set, "5 revives;"), -2 - 9);
        Edges.livesAre(set, "5 10-64 w7");
    }

    @Says(at = "Terms 2", words = "N shifts N by N |", promises = {7, 13})
    static void lineShifts() {
        LateSet set = Edges.of(5, 10, 20, 7);
        due("done", Words.text(set, "5 shifts 19 by 1;"), 1);
        due("refused", Words.text(set, "5 shifts 19 by 0; 5 shifts 19 by 64; 5 shifts 10 by 1;"), 0);
        due("shifts ;", Words.text(set, "5 shifts;"), -2 - 8);
        due("shifts N ;", Words.text(set, "5 shifts 19;"), -2 - 11);
        due("shifts N N", Words.text(set, "5 shifts 19 1;"), -2 - 12);
        due("by ;", Words.text(set, "5 shifts 19 by;"), -2 - 14);
        Edges.livesAre(set, "5 11-21 w7");
    }

    @Says(at = "Terms 2", words = "N shifts N by - N |", promises = {7, 13})
    static void lineShiftsEarlier() {
        LateSet set = Edges.of(5, 10, 20, 7);
        due("done", Words.text(set, "5 shifts 19 by - 10;"), 1);
        due("refused", Words.text(set, "5 shifts 9 by - 1; 5 shifts 9 by - 0; 5 shifts 9 by - 64;"), 0);
        due("by - ;", Words.text(set, "5 shifts 9 by -;"), -2 - 15);
        due("by - -", Words.text(set, "5 shifts 9 by - - 1;"), -2 - 16);
        due("shifts -", Words.text(set, "5 shifts - 9 by 1;"), -2 - 9);
        Edges.livesAre(set, "5 0-10 w7");
    }

    @Says(at = "Terms 2", words = "N worth N at N |", promises = {8, 13})
    static void lineWorth() {
        LateSet set = Edges.of(5, 10, 20, 7);
        due("done", Words.text(set, "5 worth 99 at 19;"), 1);
        due("refused", Words.text(set, "5 worth 99 at 19; 5 worth 100 at 19; 5 worth 9 at 20;"), 0);
        due("worth ;", Words.text(set, "5 worth;"), -2 - 7);
        due("worth N ;", Words.text(set, "5 worth 9;"), -2 - 9);
        due("at ;", Words.text(set, "5 worth 9 at;"), -2 - 12);
        Edges.livesAre(set, "5 10-20 w99");
    }

    @Says(at = "Terms 2", words = "| lock N |", promises = {9, 13})
    static void lineLock() {
        LateSet set = new LateSet();
        due("done", Words.text(set, "lock 64;"), 1);
        due("count(2)", set.count(2), 64);
        due("done: 0", Words.text(set, "lock 0; lock 63;"), 2);
        due("refused", Words.text(set, "lock 65; lock 999;"), 0);
        due("lock ;", Words.text(set, "lock;"), -2 - 4);
        due("N lock", Words.text(set, "5 lock 3;"), -2 - 2);
        due("lock N N", Words.text(set, "lock 3 3;"), -2 - 7);
        due("lock -", Words.text(set, "lock -1;"), -2 - 5);
        due("count(2)", set.count(2), 63);
    }

    @Says(at = "Terms 2", words = "| undo.", promises = {10, 13})
    static void lineUndo() {
        LateSet set = Edges.of(5, 10, 20, 7);
        due("undo N", Words.text(set, "undo 1;"), -2 - 5);
        due("N undo", Words.text(set, "1 undo;"), -2 - 2);
        due("done", Words.text(set, "undo;"), 1);
        due("refused", Words.text(set, "undo;"), 0);
        due("count(0)", set.count(0), 0);
    }

    @Says(at = "Terms 2", words = "(Of born, from: NUMBER, HOURS, WORTH 0 without", promises = {13})
    static void worthIsZeroWithout() {
        LateSet set = new LateSet();
        due("done", Words.text(set, "5 born 1 worth 9; 6 born 2; 7 from 3 to 4 worth 8; 8 from 5 to 6;"), 4);
        Edges.livesAre(set, "5 1-64 w9, 6 2-64 w0, 7 3-4 w8, 8 5-6 w0");
        LateSet again = Edges.of(5, 0, 9, 9);
        due("WORTH of a LINE ahead", Words.text(again, "5 worth 44 at 3; 6 born 2;"), 2);
        Edges.livesAre(again, "5 0-9 w44, 6 2-64 w0");
    }

    @Says(at = "Terms 2", words = "N worth N at N: NUMBER, WORTH, HOUR.)", promises = {13, 14})
    static void worthAtInItsOrder() {
        LateSet set = Edges.of(5, 10, 20, 7);
        due("done", Words.text(set, "5 worth 63 at 10;"), 1);
        due("WHY 1 of a WORTH", Words.text(set, "5 worth 100 at 10;"), 0);
        due("ran(3)", set.ran(3), 1);
        due("WHY 2 of an HOUR", Words.text(set, "5 worth 10 at 63;"), 0);
        due("ran(3)", set.ran(3), 2);
        Edges.livesAre(set, "5 10-20 w63");
    }

    @Says(at = "Terms 2", words = "FAULT 1: the first byte that begins no TOKEN", promises = {13})
    static void theFirstByteThatBeginsNoToken() {
        LateSet set = new LateSet();
        due("at 0", Words.text(set, "?"), -2);
        due("the first of two", Words.text(set, "undo; ! ?"), -2 - 6);
        due("8 letters", Words.text(set, "undo; undoundoundo ; ?"), -2 - 6);
        due("4 digits", Words.text(set, "lock 1111; ?"), -2 - 5);
        due("the last byte", Words.text(set, "undo; undo;?"), -2 - 11);
        due("ahead of the end", Words.text(set, "lock ?"), -2 - 5);
        due("in a LINE", Words.text(set, "5 born ? 3;"), -2 - 7);
        due("a TOKEN at fault ahead of it", Words.text(set, "5 5 ?"), -2 - 2);
    }

    @Says(at = "Terms 2", words = "the TOKEN with which no TEXT goes on", promises = {13})
    static void theTokenWithWhichNoTextGoesOn() {
        LateSet set = new LateSet();
        due("the first TOKEN", Words.text(set, "born 5 3;"), -2);
        due("a second semicolon", Words.text(set, "undo; ;"), -2 - 6);
        due("two whole numbers", Words.text(set, "5 6 born 3;"), -2 - 2);
        due("a word of questions", Words.text(set, "5 and 3;"), -2 - 2);
        due("a word of no kind", Words.text(set, "5 xyz 3;"), -2 - 2);
        due("a sign", Words.text(set, "undo ( ;"), -2 - 5);
        due("its first byte", Words.text(set, "undo;   \n  revives 3;"), -2 - 11);
        due("count(3)", set.count(3), 0);
    }

    @Says(at = "Terms 2", words = "(the end: how many bytes there are)", promises = {13, 15})
    static void aFaultAtTheEnd() {
        LateSet set = new LateSet();
        due("without blanks", Words.text(set, "undo"), -2 - 4);
        due("with blanks", Words.text(set, "undo      "), -2 - 10);
        Words.feed(set, "undo; undo ;");
        due("the first 11 of 20", set.text(11), -2 - 11);
        Words.feed(set, "lives where 1 = 1");
        due("the first 16 of 20", set.ask(16), Words.fault(16, 1));
        due("no bytes, a QUESTION", Words.ask(set, ""), Words.fault(0, 1));
    }

    @Says(at = "Terms 2", words = "Without one the LINES are done one by one, as their calls", promises = {13, 14})
    static void linesAreDoneOneByOne() {
        LateSet set = new LateSet();
        due("text", Words.text(set, "5 born 9; lock 9; 5 dies 8; 5 dies 12; lock 13; 5 unborn 9; undo; 5 dies 30;"), 6);
        due("ran(1)", set.ran(1), 2);
        due("ran(2)", set.ran(2), 2);
        due("ran(3)", set.ran(3), 2);
        Edges.livesAre(set, "5 9-30 w0");
        due("count(2): LOCK as it was then", set.count(2), 9);
        due("count(3)", set.count(3), 2);
    }

    @Says(at = "Terms 2", words = "what is refused is left out", promises = {13})
    static void whatIsRefusedIsLeftOut() {
        LateSet set = Edges.of(5, 10, 20, 7);
        due("text", Words.text(set, "5 born 10; 6 born 64; 7 dies 3; lock 65; 8 born 3;"), 1);
        Edges.livesAre(set, "5 10-20 w7, 8 3-64 w0");
        due("count(3)", set.count(3), 2);
    }

    // ---- 2, the question

    private static void answers(LateSet set, String question, int answer) {
        due(question, Words.ask(set, question), answer);
    }

    private static void faults(LateSet set, String question, int place, int kind) {
        due(question, Words.ask(set, question), Words.fault(place, kind));
    }

    @Says(at = "Terms 2", words = "A QUESTION (of THE TAPE, too): WHAT where COND", promises = {15})
    static void questionsHaveWhatWhereCond() {
        LateSet set = Edges.of(5, 10, 20, 7);
        answers(set, "lives where 1 = 1", 1);
        faults(set, "lives", 5, 1);
        faults(set, "lives where", 11, 1);
        faults(set, "lives 1 = 1", 6, 1);
        faults(set, "where 1 = 1", 0, 1);
        faults(set, "lives where 1 = 1;", 17, 1);
        faults(set, "lives where 1 = 1 lives", 18, 1);
        faults(set, "lives where where 1 = 1", 12, 1);
    }

    @Says(at = "Terms 2", words = "WHAT: lives | worth | hours | run", promises = {15})
    static void whatIsOneOfFour() {
        LateSet set = Edges.of(5, 10, 20, 7, 6, 20, 22, 8);
        answers(set, "lives where 1 = 1", 2);
        answers(set, "worth where 1 = 1", 15);
        answers(set, "hours where count = 1", 12);
        answers(set, "run where count = 0", 42);
        faults(set, "number where 1 = 1", 0, 1);
        faults(set, "count where 1 = 1", 0, 1);
        faults(set, "live where 1 = 1", 0, 1);
        faults(set, "runs where 1 = 1", 0, 1);
        faults(set, "5 where 1 = 1", 0, 1);
    }

    @Says(at = "Terms 2", words = "COND: BOTH { or BOTH }", promises = {15})
    static void condIsBothOrBoth() {
        LateSet set = Edges.of(5, 10, 20, 7);
        answers(set, "lives where 1 = 2 or 1 = 1", 1);
        answers(set, "lives where 1 = 1 or 1 = 2", 1);
        answers(set, "lives where 1 = 2 or 1 = 3 or 1 = 1", 1);
        answers(set, "lives where 1 = 2 or 1 = 3", 0);
        answers(set, "lives where 1 = 1 or 1 = 1 and 1 = 2", 1);
        answers(set, "lives where 1 = 2 and 1 = 1 or 1 = 1", 1);
        answers(set, "lives where 1 = 2 and 1 = 1 or 1 = 1 and 1 = 2", 0);
        faults(set, "lives where 1 = 1 or", 20, 1);
        faults(set, "lives where or 1 = 1", 12, 1);
        faults(set, "lives where 1 = 1 or or 1 = 1", 21, 1);
    }

    @Says(at = "Terms 2", words = "BOTH: FACT { and FACT }", promises = {15})
    static void bothIsFactAndFact() {
        LateSet set = Edges.of(5, 10, 20, 7);
        answers(set, "lives where 1 = 1 and 2 = 2", 1);
        answers(set, "lives where 1 = 1 and 1 = 2", 0);
        answers(set, "lives where 1 = 2 and 1 = 1", 0);
        answers(set, "lives where 1 = 1 and 1 = 1 and 1 = 2", 0);
        answers(set, "lives where 1 = 1 and 1 = 1 and 1 = 1", 1);
        answers(set, "lives where not 1 = 2 and 1 = 2", 0);
        faults(set, "lives where 1 = 1 and", 21, 1);
        faults(set, "lives where and 1 = 1", 12, 1);
    }

    @Says(at = "Terms 2", words = "FACT: not FACT | ( COND ) | SUM < SUM | SUM = SUM | SUM > SUM", promises = {15})
    static void factIsOneOfFive() {
        LateSet set = Edges.of(5, 10, 20, 7);
        answers(set, "lives where not 1 = 2", 1);
        answers(set, "lives where not 1 = 1", 0);
        answers(set, "lives where not not 1 = 1", 1);
        answers(set, "lives where ( 1 = 2 or 1 = 1 ) and 1 = 2", 0);
        answers(set, "lives where 1 < 2", 1);
        answers(set, "lives where 2 < 2", 0);
        answers(set, "lives where 2 = 2", 1);
        answers(set, "lives where 2 = 1", 0);
        answers(set, "lives where 2 > 1", 1);
        answers(set, "lives where 2 > 2", 0);
        answers(set, "lives where 1 > 2", 0);
        answers(set, "lives where 2 < 1", 0);
        faults(set, "lives where 1", 13, 1);
        faults(set, "lives where 1 + 1", 17, 1);
        faults(set, "lives where 1 < 2 < 3", 18, 1);
        faults(set, "lives where (1) = 1", 14, 1);
        faults(set, "lives where ()", 13, 1);
        faults(set, "lives where (1 = 1", 18, 1);
        faults(set, "lives where 1 = 1)", 17, 1);
        faults(set, "lives where 1 not = 1", 14, 1);
    }

    @Says(at = "Terms 2", words = "SUM: VALUE { + VALUE | - VALUE }", promises = {15})
    static void sumsOfValues() {
        LateSet set = Edges.of(5, 10, 20, 7);
        answers(set, "lives where 1 + 2 = 3", 1);
        answers(set, "lives where 3 - 2 = 1", 1);
        answers(set, "lives where 9 - 5 - 3 = 1", 1);
        answers(set, "lives where 9 - 5 + 3 = 7", 1);
        answers(set, "lives where 3 = 1 + 2", 1);
        answers(set, "lives where 0 - 1 < 0", 1);
        answers(set, "lives where 1 - 2 + 2 = 3 - 2", 1);
        answers(set, "lives where 999 + 999 = 999 + 999", 1);
        faults(set, "lives where - 1 < 0", 12, 1);
        faults(set, "lives where + 1 > 0", 12, 1);
        faults(set, "lives where 1 + = 1", 16, 1);
        faults(set, "lives where 1 = 1 -", 19, 1);
        faults(set, "lives where 1 = 1 + - 1", 20, 1);
    }

    @Says(at = "Terms 2", words = "VALUE: N, or a FIELD", promises = {15})
    static void valuesAreWholeNumbersOrFields() {
        LateSet set = Edges.of(5, 10, 20, 7);
        answers(set, "lives where number = 5", 1);
        answers(set, "lives where 5 = number", 1);
        answers(set, "lives where 000 = 0 and 999 = 999", 1);
        faults(set, "lives where five = 5", 12, 1);
        faults(set, "lives where born = 5", 12, 1);
        faults(set, "lives where 5 = lives", 16, 1);
        faults(set, "lives where 5 number = 5", 14, 1);
    }

    @Says(at = "Terms 2", words = "of lives, worth: number, birth, death, long, worth, pieces (how many its COVER has)",
        promises = {15})
    static void fieldsOfLives() {
        LateSet set = Edges.of(5, 1, 63, 7);
        answers(set, "lives where number = 5", 1);
        answers(set, "lives where birth = 1", 1);
        answers(set, "lives where death = 63", 1);
        answers(set, "lives where long = 62", 1);
        answers(set, "lives where worth = 7", 1);
        answers(set, "lives where pieces = 10", 1);
        answers(set, "worth where number + birth + death + long + worth + pieces = 148", 7);
        for (String field : new String[] {"hour", "count", "sum", "least", "most"}) {
            faults(set, "lives where " + field + " = 1", 12, 1);
            faults(set, "worth where 1 > " + field, 16, 1);
        }
    }

    @Says(at = "Terms 2", words = "of hours, run: hour, count, sum, least, most (how many LIVE then, their WORTHS together, "
        + "the least, the greatest of them; -1 without)", promises = {15})
    static void fieldsOfHours() {
        LateSet set = Edges.of(5, 10, 20, 7, 9, 15, 16, 8, 700, 14, 16, 40);
        answers(set, "hours where hour = 0 or hour = 63", 2);
        answers(set, "hours where hour = 64", 0);
        answers(set, "hours where count = 3", 1);
        answers(set, "hours where hour = 15 and count = 3 and sum = 55 and least = 5 and most = 700", 1);
        answers(set, "hours where hour = 10 and count = 1 and sum = 7 and least = 5 and most = 5", 1);
        answers(set, "hours where hour = 20 and count = 0 and sum = 0", 1);
        LateSet ends = Edges.of(0, 10, 20, 7, 999, 10, 20, 8);
        answers(ends, "hours where sum = 15 and least = 0 and most = 999", 10);
        for (String field : new String[] {"number", "birth", "death", "long", "worth", "pieces"}) {
            faults(set, "hours where " + field + " = 1", 12, 1);
            faults(set, "run where 1 > " + field, 14, 1);
        }
    }

    @Says(at = "Terms 2", words = "the greatest of them; -1 without)", promises = {15})
    static void leastAndMostWithoutAny() {
        LateSet set = Edges.of(0, 10, 20, 7);
        answers(set, "hours where least = 0 - 1", 54);
        answers(set, "hours where most = 0 - 1", 54);
        answers(set, "hours where least = 0 and most = 0", 10);
        answers(new LateSet(), "run where least + most = 0 - 2", 64);
    }

    @Says(at = "Terms 2", words = "At most five of not ( are open at once", promises = {15})
    static void atMostFiveAreOpen() {
        LateSet set = Edges.of(5, 10, 20, 7);
        answers(set, "lives where not not not not not 1 = 2", 1);
        answers(set, "lives where (((((1 = 1)))))", 1);
        answers(set, "lives where (not (not (1 = 1)))", 1);
        answers(set, "worth where not (not (not 1 = 2))", 7);
        answers(set, "hours where (((((1 = 1)))))", 64);
        answers(set, "run where not not not not not 1 = 2", 64);
        faults(set, "lives where not not not not not not 1 = 1", 32, 2);
        faults(set, "lives where ((((((1 = 1))))))", 17, 2);
        faults(set, "lives where (not (not (not 1 = 1)))", 23, 2);
    }

    @Says(at = "Terms 2", words = "(not until its FACT ends)", promises = {15})
    static void notIsOpenUntilItsFactEnds() {
        LateSet set = Edges.of(5, 10, 20, 7);
        answers(set, "lives where not not not not not 1 = 2 and not not not not not 1 = 2", 1);
        answers(set, "lives where (((((1 = 1))))) and not not not not not 1 = 2", 1);
        answers(set, "lives where ((((not 1 = 2 or not 1 = 2))))", 1);
        answers(set, "lives where ((((not 1 = 2 and (1 = 1)) or not 1 = 1)))", 1);
        faults(set, "lives where ((((not 1 = 2 and not not 1 = 1))))", 34, 2);
        faults(set, "lives where not (((( (1 = 1)))))", 21, 2);
        faults(set, "lives where not not not not (not 1 = 1 and (1 = 1))", 29, 2);
    }

    @Says(at = "Terms 2", words = "how many LIVES are such (lives)", promises = {15})
    static void livesAreCounted() {
        answers(new LateSet(), "lives where 1 = 1", 0);
        LateSet set = Edges.many(40);
        answers(set, "lives where 1 = 1", 40);
        answers(set, "lives where number > 138", 1);
        answers(set, "lives where number < 100", 0);
    }

    @Says(at = "Terms 2", words = "their WORTHS together (worth)", promises = {15})
    static void worthsAreSummed() {
        answers(new LateSet(), "worth where 1 = 1", 0);
        LateSet set = new LateSet();
        for (int k = 0; k < 40; k++) {
            set.span(k, k, k + 1, 99);
        }
        answers(set, "worth where 1 = 1", 3960);
        answers(set, "worth where number = 39", 99);
        answers(set, "worth where number = 40", 0);
    }

    @Says(at = "Terms 2", words = "how many HOURS (hours)", promises = {15})
    static void hoursAreCounted() {
        answers(new LateSet(), "hours where 1 = 1", 64);
        answers(new LateSet(), "hours where 1 = 2", 0);
        answers(new LateSet(), "hours where hour = 0 or hour = 63 or hour = 31", 3);
    }

    @Says(at = "Terms 2", words = "how many in the longest row of HOURS one behind the other (run)", promises = {15})
    static void theLongestRow() {
        LateSet set = new LateSet();
        answers(set, "run where 1 = 1", 64);
        answers(set, "run where 1 = 2", 0);
        answers(set, "run where hour < 3 or hour > 60", 3);
        answers(set, "run where hour < 3 or hour > 59", 4);
        answers(set, "run where hour < 4 or hour > 59", 4);
        answers(set, "run where hour = 5 or hour = 7 or hour = 9", 1);
        answers(set, "run where not hour = 20", 43);
        answers(set, "run where not hour = 50", 50);
    }

    @Says(at = "Terms 2", words = "FAULTS, the one whose place is least: 1 as above", promises = {15})
    static void theLeastPlaceOfFaults() {
        LateSet set = Edges.of(5, 10, 20, 7);
        faults(set, "lives where ? (((((( 1 = 1", 12, 1);
        faults(set, "lives where (((((( 1 = ?", 17, 2);
        faults(set, "lives where not not not not not not ?", 32, 2);
        faults(set, "lives where 1 = = ?", 16, 1);
        faults(set, "lives where 1 = ? =", 16, 1);
        faults(set, "lives where ((((( ? (", 18, 1);
        faults(set, "lives wher ((((((", 6, 1);
    }

    @Says(at = "Terms 2", words = "2 the sixth of not ( that would be open.", promises = {15})
    static void theSixthOpen() {
        LateSet set = Edges.of(5, 10, 20, 7);
        faults(set, "lives where ((((((", 17, 2);
        faults(set, "lives where not not not not not (", 32, 2);
        faults(set, "lives where ((((( not", 18, 2);
        faults(set, "lives where (((((1 = 1 and (", 27, 2);
        faults(set, "lives where (((((1 (", 19, 1);
        faults(set, "hours where ((((((1 = 1", 17, 2);
    }

    // ---- 3

    @Says(at = "Terms 3", words = "EDITS that were done can be taken back, 20 at most", promises = {10, 17})
    static void twentyCanBeTakenBack() {
        LateSet set = new LateSet();
        for (int k = 0; k < 21; k++) {
            due("born", set.born(k, 0, 0), 0);
            due("count(3)", set.count(3), Math.min(k + 1, 20));
        }
        for (int k = 19; k >= 0; k--) {
            due("undo()", set.undo(), k);
        }
        due("the 21st", set.undo(), NONE);
        Edges.livesAre(set, "0 0-64 w0");
        due("refused: born", set.born(0, 0, 0), 4);
        due("refused: undo()", set.undo(), NONE);
    }

    @Says(at = "Terms 3", words = "(LOCK as it was then, too: it is no EDIT)", promises = {9, 10, 17})
    static void lockIsTakenBackToo() {
        LateSet set = new LateSet();
        set.lock(5);
        due("count(3)", set.count(3), 0);
        due("undo()", set.undo(), NONE);
        due("count(2)", set.count(2), 5);
        set.born(5, 5, 0);
        set.lock(64);
        due("undo()", set.undo(), 0);
        due("count(2)", set.count(2), 5);
        due("count(0)", set.count(0), 0);
    }

    @Says(at = "Terms 3", words = "KEEPS 0 and 1 hold LIVES and LOCK", promises = {11})
    static void keepsHoldLivesAndLock() {
        LateSet set = Edges.of(5, 10, 20, 7);
        set.lock(9);
        due("keep(0, false)", set.keep(0, false) ? 1 : 0, 1);
        set.born(6, 30, 0);
        set.lock(30);
        due("keep(1, false)", set.keep(1, false) ? 1 : 0, 1);
        set.unborn(6, 30);
        set.lock(0);
        due("keep(0, true)", set.keep(0, true) ? 1 : 0, 1);
        Edges.livesAre(set, "5 10-20 w7");
        due("count(2)", set.count(2), 9);
        due("keep(1, true)", set.keep(1, true) ? 1 : 0, 1);
        Edges.livesAre(set, "5 10-20 w7, 6 30-64 w0");
        due("count(2)", set.count(2), 30);
        due("keep(2, false)", set.keep(2, false) ? 1 : 0, 0);
        due("keep(-1, false)", set.keep(-1, false) ? 1 : 0, 0);
    }

    @Says(at = "Terms 3", words = "(nothing can be taken back when one is gone back to)", promises = {10, 11, 17})
    static void nothingCanBeTakenBackThen() {
        LateSet set = Edges.of(5, 10, 20, 7, 6, 10, 20, 7);
        set.keep(0, false);
        due("laid: count(3)", set.count(3), 2);
        set.born(7, 0, 0);
        set.keep(0, true);
        due("gone back to: count(3)", set.count(3), 0);
        due("undo()", set.undo(), NONE);
        Edges.livesAre(set, "5 10-20 w7, 6 10-20 w7");
        set.born(8, 0, 0);
        due("count(3)", set.count(3), 1);
        due("undo()", set.undo(), 0);
        due("undo()", set.undo(), NONE);
        Edges.livesAre(set, "5 10-20 w7, 6 10-20 w7");
    }
}
