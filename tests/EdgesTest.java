import java.io.IOException;
import java.util.NoSuchElementException;

/** Promises 1 to 35 of the document, each sentence that has an edge. */
public final class EdgesTest {
    private static final int NONE = -1;
    private static final int ABSENT = -2;
    private static final int[] NO_NUMBERS = {-1, 1000, Integer.MIN_VALUE, Integer.MAX_VALUE};
    private static final int[] NO_HOURS = {-1, 64, Integer.MIN_VALUE, Integer.MAX_VALUE};

    public static void main(String[] args) throws IOException, IllegalAccessException {
        String[] headings = new String[35];
        for (int k = 0; k < headings.length; k++) {
            headings[k] = "Promise " + (k + 1);
        }
        Edges.runAll(EdgesTest.class, headings);
        Check.close();
    }

    private static void due(String call, long got, long want) {
        Check.due(call, got, want);
    }

    private static void due(String call, boolean got, boolean want) {
        Check.due(call, got, want);
    }

    // ---- 1, a new object

    @Says(at = "Promise 1", words = "No LIVES")
    static void p01NoLives() {
        LateSet set = new LateSet();
        due("count(0)", set.count(0), 0);
        due("count(1)", set.count(1), 0);
        due("count(5)", set.count(5), 0);
        due("report(-1)", set.report(-1), 0);
        due("alive(0)", set.alive(0), 0);
        due("alive(63)", set.alive(63), 0);
        due("which(0, 0)", set.which(0, 0), ABSENT);
        due("always(0, 0, 0)", set.always(0, 0, 0), ABSENT);
        due("undo()", set.undo(), NONE);
        due("keep(0, true)", set.keep(0, true), false);
        due("keep(1, true)", set.keep(1, true), false);
        due("ran(0)", set.ran(0), NONE);
        due("count(4)", set.count(4), 0);
        Check.noSuchLife(set, 0, 0);
        set.born(5, 5, 5);
        due("another object", new LateSet().count(0), 0);
    }

    @Says(at = "Promise 1", words = "LOCK 0.")
    static void p01LockIs0() {
        LateSet set = new LateSet();
        due("count(2)", set.count(2), 0);
        due("span(5, 0, 1, 0)", set.span(5, 0, 1, 0), 0);
        due("lock(0)", set.lock(0), 0);
    }

    @Says(at = "Not promised", words = "Nothing is promised beyond the answers and state changes described above",
        promises = {15, 16, 17, 18, 19, 20, 21, 22, 23, 24, 25, 26, 27, 28, 29, 30, 31, 32, 33, 34, 35})
    static void askingChangesNothing() {
        LateSet set = Edges.of(5, 10, 20, 1, 6, 0, 64, 2);
        set.keep(0, false);
        set.lock(3);
        Words.text(set, "undo; undo; undo; 5 born 3; 7 born 3; 7 dies 9;");
        String before = Words.state(set);
        for (int asked : new int[] {-2, -1, 0, 1, 2, 5, 63, 64, 127, 999, 1000}) {
            int[] answers = {set.ran(asked), set.report(asked), set.count(asked), set.which(asked, asked),
                set.alive(asked), set.next(asked, asked), set.before(asked, asked), set.rank(asked, asked),
                set.kth(asked, asked), set.sum(asked, asked, asked), set.gap(asked), set.changes(asked, asked),
                set.always(asked, asked, asked), set.ever(asked, asked, asked), set.both(asked, asked),
                set.reigns(asked, asked), set.crowd(asked), set.cover(asked, asked), set.on(asked),
                set.onAt(asked, asked)};
            due("calls", answers.length, 20);
        }
        Words.ask(set, "worth where (not 1 = 2)");
        Words.ask(set, "run where ((((((");
        Edges.stays("what only asks", set, before);
    }

    // ---- 2 to 8, edits

    @Says(at = "Promise 2", words = "`int born(int number, int hour, int worth)`: A NUMBER is born.")
    static void p02BornAtTheBounds() {
        LateSet set = new LateSet();
        for (int number : NO_NUMBERS) {
            due("born: NUMBER " + number, set.born(number, 5, 5), 1);
        }
        for (int hour : NO_HOURS) {
            due("born: HOUR " + hour, set.born(5, hour, 5), 1);
        }
        for (int worth : new int[] {-1, 100, Integer.MIN_VALUE, Integer.MAX_VALUE}) {
            due("born: WORTH " + worth, set.born(5, 5, worth), 1);
        }
        due("count(0)", set.count(0), 0);
        due("count(3)", set.count(3), 0);
        due("born(0, 0, 0)", set.born(0, 0, 0), 0);
        due("born(999, 63, 99)", set.born(999, 63, 99), 0);
        Edges.livesAre(set, "0 0-64 w0, 999 63-64 w99");
    }

    @Says(at = "Promise 2", words = "A NUMBER is born.")
    static void p02BornRefused() {
        LateSet set = Edges.of(5, 30, 40, 7);
        set.lock(10);
        String before = Words.state(set);
        due("3: from HOUR 9", set.born(6, 9, 0), 3);
        due("3 ahead of 4: from HOUR 9", set.born(5, 9, 0), 3);
        due("4: to the LIFE behind it", set.born(5, 10, 0), 4);
        due("4: at its last HOUR", set.born(5, 39, 0), 4);
        Edges.stays("born, refused", set, before);
        due("at its DEATH", set.born(5, 40, 0), 0);
        due("from LOCK on", set.born(6, 10, 0), 0);
        LateSet full = Edges.many(40);
        due("5", full.born(5, 63, 0), 5);
        due("4 ahead of 5", full.born(100, 9, 0), 4);
        full.unborn(139, 10);
        due("39 LIVES", full.born(5, 63, 0), 0);
    }

    @Says(at = "Promise 3", words = "`int span(int number, int from, int to, int worth)`: A span.")
    static void p03SpanAtTheBounds() {
        LateSet set = new LateSet();
        for (int number : NO_NUMBERS) {
            due("span: NUMBER " + number, set.span(number, 5, 6, 5), 1);
        }
        for (int hour : NO_HOURS) {
            due("span: from " + hour, set.span(5, hour, 64, 5), 1);
        }
        for (int to : new int[] {65, 5, 4, 0, -1, Integer.MIN_VALUE, Integer.MAX_VALUE}) {
            due("span: from 5 to " + to, set.span(5, 5, to, 5), 1);
        }
        for (int worth : new int[] {-1, 100, Integer.MIN_VALUE, Integer.MAX_VALUE}) {
            due("span: WORTH " + worth, set.span(5, 5, 6, worth), 1);
        }
        due("count(0)", set.count(0), 0);
        due("count(3)", set.count(3), 0);
        due("span(0, 0, 1, 0)", set.span(0, 0, 1, 0), 0);
        due("span(999, 63, 64, 99)", set.span(999, 63, 64, 99), 0);
        due("span(5, 0, 64, 1)", set.span(5, 0, 64, 1), 0);
        Edges.livesAre(set, "0 0-1 w0, 5 0-64 w1, 999 63-64 w99");
    }

    @Says(at = "Promise 3", words = "A span.")
    static void p03SpanRefused() {
        LateSet set = Edges.of(5, 30, 40, 7);
        set.lock(10);
        String before = Words.state(set);
        due("3: from HOUR 9", set.span(6, 9, 10, 0), 3);
        due("3 ahead of 4", set.span(5, 9, 31, 0), 3);
        due("4: one HOUR", set.span(5, 10, 31, 0), 4);
        due("4: one HOUR", set.span(5, 39, 64, 0), 4);
        due("4: within", set.span(5, 35, 36, 0), 4);
        due("4: around", set.span(5, 29, 41, 0), 4);
        Edges.stays("span, refused", set, before);
        due("ahead of it", set.span(5, 10, 30, 0), 0);
        due("behind it", set.span(5, 40, 41, 0), 0);
        Edges.livesAre(set, "5 10-30 w0, 5 30-40 w7, 5 40-41 w0");
        LateSet full = Edges.many(40);
        due("5", full.span(5, 63, 64, 0), 5);
        due("4 ahead of 5", full.span(100, 9, 11, 0), 4);
        full.undo();
        due("39 LIVES", full.span(5, 63, 64, 0), 0);
    }

    @Says(at = "Promise 4", words = "It died.")
    static void p04DiedAtTheBounds() {
        LateSet set = Edges.of(0, 0, 64, 1, 999, 10, 20, 2);
        String before = Words.state(set);
        for (int number : NO_NUMBERS) {
            due("died: NUMBER " + number, set.died(number, 10), 1);
        }
        for (int hour : NO_HOURS) {
            due("died: HOUR " + hour, set.died(0, hour), 1);
        }
        due("2: an HOUR ahead of it", set.died(999, 9), 2);
        due("2: at its DEATH", set.died(999, 20), 2);
        due("2: no such NUMBER", set.died(998, 10), 2);
        set.lock(20);
        due("3: its last HOUR", set.died(999, 19), 3);
        due("3: its BIRTH", set.died(999, 10), 3);
        due("3: HOUR 19 of more", set.died(0, 19), 3);
        set.lock(0);
        Edges.stays("died, refused", set, before);
        set.lock(20);
        due("at LOCK", set.died(0, 20), 0);
        set.lock(0);
        due("at its last HOUR", set.died(0, 19), 0);
        due("a single HOUR stays", set.died(0, 1), 0);
        Edges.livesAre(set, "0 0-1 w1, 999 10-20 w2");
        due("at its BIRTH: gone", set.died(0, 0), 0);
        due("at its BIRTH: gone", set.died(999, 10), 0);
        due("count(0)", set.count(0), 0);
    }

    @Says(at = "Promise 5", words = "It is unborn.")
    static void p05UnbornAtTheBounds() {
        LateSet set = Edges.of(0, 0, 64, 1, 999, 10, 20, 2);
        String before = Words.state(set);
        for (int number : NO_NUMBERS) {
            due("unborn: NUMBER " + number, set.unborn(number, 10), 1);
        }
        for (int hour : NO_HOURS) {
            due("unborn: HOUR " + hour, set.unborn(0, hour), 1);
        }
        due("2: an HOUR ahead of it", set.unborn(999, 9), 2);
        due("2: at its DEATH", set.unborn(999, 20), 2);
        due("2: no such NUMBER", set.unborn(1, 10), 2);
        set.lock(11);
        due("3: its BIRTH is locked", set.unborn(999, 19), 3);
        set.lock(1);
        due("3: its BIRTH is locked", set.unborn(0, 63), 3);
        set.lock(0);
        Edges.stays("unborn, refused", set, before);
        set.lock(10);
        due("its BIRTH at LOCK", set.unborn(999, 19), 0);
        Edges.livesAre(set, "0 0-64 w1");
        set.lock(0);
        due("by its last HOUR", set.unborn(0, 63), 0);
        due("count(0)", set.count(0), 0);
    }

    @Says(at = "Promise 6", words = "It is revived (an HOUR above 0).")
    static void p06RevivedAtAnHourAbove0() {
        LateSet set = Edges.of(5, 0, 1, 1, 6, 0, 63, 2);
        due("revived(5, 0)", set.revived(5, 0), 1);
        due("revived(7, 0): ahead of 2", set.revived(7, 0), 1);
        due("revived(5, 1)", set.revived(5, 1), 0);
        due("revived(6, 63)", set.revived(6, 63), 0);
        due("revived(6, 64)", set.revived(6, 64), 1);
        Edges.livesAre(set, "5 0-64 w1, 6 0-64 w2");
    }

    @Says(at = "Promise 6", words = "It is revived")
    static void p06RevivedRefused() {
        LateSet set = Edges.of(5, 0, 10, 1, 5, 63, 64, 2, 6, 30, 40, 3);
        String before = Words.state(set);
        for (int number : NO_NUMBERS) {
            due("revived: NUMBER " + number, set.revived(number, 10), 1);
        }
        for (int hour : NO_HOURS) {
            due("revived: HOUR " + hour, set.revived(6, hour), 1);
        }
        due("2: its last HOUR", set.revived(6, 39), 2);
        due("2: behind its DEATH", set.revived(6, 41), 2);
        due("2: its BIRTH", set.revived(6, 30), 2);
        due("2: another's DEATH", set.revived(6, 10), 2);
        due("4: the last HOUR is lived", set.revived(5, 10), 4);
        set.lock(41);
        due("3", set.revived(6, 40), 3);
        due("3 ahead of 4", set.revived(5, 10), 3);
        set.lock(0);
        Edges.stays("revived, refused", set, before);
        set.lock(40);
        due("at LOCK", set.revived(6, 40), 0);
        Edges.livesAre(set, "5 0-10 w1, 5 63-64 w2, 6 30-64 w3");
        LateSet gone = Edges.of(5, 10, 20, 1, 6, 30, 40, 2);
        gone.unborn(6, 30);
        due("2: it is gone", gone.revived(6, 40), 2);
        due("count(0)", gone.count(0), 1);
    }

    @Says(at = "Promise 7", words = "It is shifted (1: by 0")
    static void p07ShiftedBy0() {
        LateSet set = Edges.of(5, 10, 20, 1);
        due("by 0", set.shifted(5, 10, 0), 1);
        due("by 0: ahead of 2", set.shifted(6, 10, 0), 1);
        due("by 1", set.shifted(5, 10, 1), 0);
        due("by -1", set.shifted(5, 11, -1), 0);
        Edges.livesAre(set, "5 10-20 w1");
        due("count(3)", set.count(3), 3);
    }

    @Says(at = "Promise 7", words = "or beyond 63 either way, too)")
    static void p07ShiftedBeyond63() {
        LateSet set = Edges.of(5, 0, 64, 1, 6, 63, 64, 2);
        for (int by : new int[] {64, -64, Integer.MAX_VALUE, Integer.MIN_VALUE}) {
            due("by " + by, set.shifted(5, 0, by), 1);
            due("by " + by + ": ahead of 2", set.shifted(7, 0, by), 1);
        }
        due("by 63: 2", set.shifted(7, 0, 63), 2);
        due("by -63: 2", set.shifted(7, 0, -63), 2);
        due("by 63", set.shifted(5, 0, 63), 0);
        due("by -63", set.shifted(6, 63, -63), 0);
        Edges.livesAre(set, "5 63-64 w1, 6 0-64 w2");
    }

    @Says(at = "Promise 7", words = "It is shifted")
    static void p07ShiftedRefusedOrDone() {
        LateSet set = Edges.of(5, 10, 20, 1, 5, 30, 40, 2, 6, 10, 64, 3);
        String before = Words.state(set);
        for (int number : NO_NUMBERS) {
            due("shifted: NUMBER " + number, set.shifted(number, 10, 1), 1);
        }
        for (int hour : NO_HOURS) {
            due("shifted: HOUR " + hour, set.shifted(5, hour, 1), 1);
        }
        due("1: BIRTH -1", set.shifted(5, 19, -11), 1);
        due("1: BIRTH 64", set.shifted(6, 63, 54), 1);
        due("1: DEATH 65", set.shifted(5, 30, 25), 1);
        due("2", set.shifted(5, 20, 1), 2);
        due("4", set.shifted(5, 19, 11), 4);
        due("4", set.shifted(5, 30, -11), 4);
        set.lock(11);
        due("1 ahead of 3", set.shifted(5, 10, -11), 1);
        due("3: it would not live at HOUR 10", set.shifted(5, 10, 1), 3);
        due("3: it would live at HOUR 9", set.shifted(5, 10, -1), 3);
        due("3 ahead of 4", set.shifted(5, 10, 11), 3);
        set.lock(0);
        Edges.stays("shifted, refused", set, before);
        set.lock(10);
        due("from LOCK on", set.shifted(5, 10, 1), 0);
        due("past its other LIFE", set.shifted(5, 11, 43), 0);
        due("to LOCK", set.shifted(5, 39, -20), 0);
        due("END stays", set.shifted(6, 10, 53), 0);
        Edges.livesAre(set, "5 10-20 w2, 5 54-64 w1, 6 63-64 w3");
        due("undo()", set.undo(), 6);
        due("undo()", set.undo(), 5);
        Edges.livesAre(set, "5 30-40 w2, 5 54-64 w1, 6 10-64 w3");
    }

    @Says(at = "Promise 8", words = "It is of another WORTH.")
    static void p08WorthedAtTheBounds() {
        LateSet set = Edges.of(5, 10, 20, 1, 5, 20, 30, 2);
        String before = Words.state(set);
        for (int number : NO_NUMBERS) {
            due("worthed: NUMBER " + number, set.worthed(number, 10, 5), 1);
        }
        for (int hour : NO_HOURS) {
            due("worthed: HOUR " + hour, set.worthed(5, hour, 5), 1);
        }
        for (int worth : new int[] {-1, 100, Integer.MIN_VALUE, Integer.MAX_VALUE}) {
            due("worthed: WORTH " + worth, set.worthed(5, 10, worth), 1);
        }
        due("2", set.worthed(5, 9, 5), 2);
        due("2", set.worthed(5, 30, 5), 2);
        due("6", set.worthed(5, 19, 1), 6);
        due("6", set.worthed(5, 20, 2), 6);
        set.lock(11);
        due("3", set.worthed(5, 19, 5), 3);
        due("3 ahead of 6", set.worthed(5, 19, 1), 3);
        set.lock(0);
        Edges.stays("worthed, refused", set, before);
        set.lock(10);
        due("WORTH 99", set.worthed(5, 19, 99), 0);
        due("WORTH 0", set.worthed(5, 20, 0), 0);
        Edges.livesAre(set, "5 10-20 w99, 5 20-30 w0");
        due("undo()", set.undo(), 3);
        Edges.livesAre(set, "5 10-20 w99, 5 20-30 w2");
    }

    // ---- 9 to 11, lock, undo, keep

    @Says(at = "Promise 9", words = "LOCK is an HOUR, or END: what it was")
    static void p09LockAnswersWhatItWas() {
        LateSet set = new LateSet();
        due("lock(0)", set.lock(0), 0);
        due("lock(63)", set.lock(63), 0);
        due("lock(64)", set.lock(64), 63);
        due("lock(64)", set.lock(64), 64);
        due("lock(1)", set.lock(1), 64);
        due("count(2)", set.count(2), 1);
    }

    @Says(at = "Promise 9", words = "NONE: out of bounds.")
    static void p09LockOutOfBounds() {
        LateSet set = new LateSet();
        set.lock(7);
        for (int hour : new int[] {-1, 65, Integer.MIN_VALUE, Integer.MAX_VALUE}) {
            due("lock(" + hour + ")", set.lock(hour), NONE);
            due("count(2)", set.count(2), 7);
        }
    }

    @Says(at = "Promise 10", words = "The latest EDIT is taken back: how many still can be")
    static void p10UndoTheLatest() {
        LateSet set = new LateSet();
        set.born(5, 10, 1);
        set.died(5, 20);
        set.revived(5, 20);
        set.shifted(5, 10, 5);
        set.worthed(5, 15, 2);
        set.span(6, 0, 1, 3);
        set.unborn(5, 15);
        Edges.livesAre(set, "6 0-1 w3");
        String[] due = {"", "5 10-64 w1", "5 10-20 w1", "5 10-64 w1", "5 15-64 w1", "5 15-64 w2", "5 15-64 w2, 6 0-1 w3"};
        for (int k = 6; k >= 0; k--) {
            due("undo()", set.undo(), k);
            Edges.livesAre(set, due[k]);
            due("count(3)", set.count(3), k);
        }
    }

    @Says(at = "Promise 10", words = "The latest EDIT is taken back")
    static void p10TwentyAtMostAfterManyMore() {
        LateSet set = new LateSet();
        for (int k = 0; k < 50; k++) {
            set.worthed(5, 0, k);
            set.span(5, 0, 1, k);
            set.unborn(5, 0);
        }
        due("count(3)", set.count(3), 20);
        for (int k = 19; k >= 0; k--) {
            due("undo()", set.undo(), k);
            due("count(0)", set.count(0), (20 - k) % 2);
        }
        due("undo()", set.undo(), NONE);
        due("born(6, 0, 0)", set.born(6, 0, 0), 0);
        due("count(3)", set.count(3), 1);
    }

    @Says(at = "Promise 10", words = "NONE: none.")
    static void p10UndoNone() {
        LateSet set = new LateSet();
        due("undo()", set.undo(), NONE);
        set.lock(5);
        due("a lock is no EDIT: undo()", set.undo(), NONE);
        set.born(5, 4, 0);
        due("refused: undo()", set.undo(), NONE);
        set.born(5, 5, 0);
        due("undo()", set.undo(), 0);
        due("undo()", set.undo(), NONE);
        due("count(2)", set.count(2), 5);
        due("count(3)", set.count(3), 0);
    }

    @Says(at = "Promise 11", words = "A KEEP is laid (back: gone back to): true")
    static void p11KeepLaidAndGoneBackTo() {
        LateSet set = Edges.of(5, 10, 20, 1);
        due("keep(0, false)", set.keep(0, false), true);
        set.born(6, 0, 0);
        due("keep(1, false)", set.keep(1, false), true);
        due("count(3)", set.count(3), 2);
        due("keep(0, true)", set.keep(0, true), true);
        Edges.livesAre(set, "5 10-20 w1");
        due("keep(1, true)", set.keep(1, true), true);
        Edges.livesAre(set, "5 10-20 w1, 6 0-64 w0");
        set.unborn(5, 10);
        due("laid over: keep(0, false)", set.keep(0, false), true);
        due("keep(1, true)", set.keep(1, true), true);
        due("keep(0, true)", set.keep(0, true), true);
        Edges.livesAre(set, "6 0-64 w0");
        LateSet empty = new LateSet();
        due("no LIVES: keep(1, false)", empty.keep(1, false), true);
        empty.born(5, 0, 0);
        due("no LIVES: keep(1, true)", empty.keep(1, true), true);
        due("count(0)", empty.count(0), 0);
    }

    @Says(at = "Promise 11", words = "false: none such")
    static void p11NoSuchKeep() {
        LateSet set = Edges.of(5, 10, 20, 1);
        set.keep(0, false);
        set.keep(1, false);
        set.born(6, 0, 0);
        String before = Words.state(set);
        for (int k : new int[] {-1, 2, Integer.MIN_VALUE, Integer.MAX_VALUE}) {
            due("keep(" + k + ", false)", set.keep(k, false), false);
            due("keep(" + k + ", true)", set.keep(k, true), false);
        }
        Edges.stays("keep, refused", set, before);
    }

    @Says(at = "Promise 11", words = "nothing is in it (back).")
    static void p11NothingIsInIt() {
        LateSet set = Edges.of(5, 10, 20, 1);
        set.lock(3);
        String before = Words.state(set);
        due("keep(0, true)", set.keep(0, true), false);
        due("keep(1, true)", set.keep(1, true), false);
        set.keep(1, false);
        due("keep(0, true)", set.keep(0, true), false);
        Edges.stays("keep, refused", set, before);
    }

    // ---- 12 to 16, texts

    @Says(at = "Promise 12", words = "Twenty bytes come behind THE TAPE, of each number the highest first: how many it has")
    static void p12TwentyBytesHighestFirst() {
        LateSet set = new LateSet();
        due("feed", set.feed(Words.four("5 bo", 0), Words.four("rn 3", 0), Words.four(" wor", 0), Words.four("th 9", 0),
            Words.four("; 6 ", 0)), 20);
        due("feed", set.feed(Words.four("born", 0), Words.four(" 7  ", 0), Words.four("   ;", 0), Words.four("undo", 0),
            Words.four("   ;", 0)), 40);
        due("count(4)", set.count(4), 40);
        due("text(32)", set.text(32), 2);
        Edges.livesAre(set, "5 3-64 w9, 6 7-64 w0");
        due("bytes from 128 on", set.feed(0x756e646f, 0x3bff8000, 0, 0, 0), 20);
        due("bytes from 128 on", set.text(5), 1);
        due("a number below 0", set.feed(0x20202020, 0xff202020, 0, 0, 0), 20);
        due("a number below 0", set.text(20), -2 - 4);
        due("the lowest byte", set.feed(0x20202020, 0x20202021, 0, 0, 0), 20);
        due("the lowest byte", set.text(20), -2 - 7);
    }

    @Says(at = "Promise 12", words = "NONE, and none come, if it would have more than 600.")
    static void p12NoMoreThan600() {
        LateSet set = new LateSet();
        for (int k = 1; k <= 30; k++) {
            due("feed", set.feed(0x20202020, 0x20202020, 0x20202020, 0x20202020, 0x20202020), 20 * k);
        }
        due("feed", set.feed(0x21212121, 0x21212121, 0x21212121, 0x21212121, 0x21212121), NONE);
        due("feed again", set.feed(0x21212121, 0x21212121, 0x21212121, 0x21212121, 0x21212121), NONE);
        due("count(4)", set.count(4), 600);
        due("text(601)", set.text(601), NONE);
        due("text(600): blanks alone", set.text(600), 0);
        due("room again", set.feed(0, 0, 0, 0, 0), 20);
    }

    @Says(at = "Promise 13", words = "The first n bytes of THE TAPE (it is empty then) are a TEXT")
    static void p13TheFirstBytes() {
        LateSet set = new LateSet();
        Words.feed(set, "undo; 5 born 3; lock 9; ?");
        due("text(16)", set.text(16), 1);
        due("count(4)", set.count(4), 0);
        due("count(2)", set.count(2), 0);
        Words.feed(set, "6 born 3;");
        due("text(20)", set.text(20), 1);
        Words.feed(set, "6 born 3;");
        due("text(0)", set.text(0), 0);
        due("count(4)", set.count(4), 0);
        due("text(1)", set.text(1), NONE);
        Words.feed(set, "7 born 33;");
        due("text(8): a FAULT empties it, too", set.text(8), -2 - 8);
        due("count(4)", set.count(4), 0);
        Edges.livesAre(set, "5 3-64 w0, 6 3-64 w0");
    }

    @Says(at = "Promise 13", words = "how many LINES were done (lock, undo: those that did not answer NONE)")
    static void p13HowManyLinesWereDone() {
        LateSet set = new LateSet();
        due("no LINES", Words.text(set, " "), 0);
        due("undo, none", Words.text(set, "undo;"), 0);
        due("lock, out of bounds", Words.text(set, "lock 65; lock 999;"), 0);
        due("lock, the same", Words.text(set, "lock 0; lock 64; lock 0;"), 3);
        due("undo that answers 0", Words.text(set, "5 born 3; undo; undo;"), 2);
        due("refused", Words.text(set, "5 born 64; 5 dies 3; 5 born 3; 5 born 3;"), 1);
        StringBuilder most = new StringBuilder();
        for (int k = 0; k < 120; k++) {
            most.append(k % 2 == 0 ? "lock " + k % 10 + ';' : "");
        }
        due("many", Words.text(set, most.toString()), 60);
    }

    @Says(at = "Promise 13", words = "NONE: it has not so many, n is below 0 (THE TAPE stays).")
    static void p13NotSoMany() {
        LateSet set = new LateSet();
        due("text(1)", set.text(1), NONE);
        due("text(-1)", set.text(-1), NONE);
        due("text(0)", set.text(0), 0);
        Words.feed(set, "5 born 3;");
        String before = Words.state(set);
        for (int n : new int[] {21, -1, 600, 601, Integer.MIN_VALUE, Integer.MAX_VALUE}) {
            due("text(" + n + ")", set.text(n), NONE);
        }
        Edges.stays("text, NONE", set, before);
        due("text(20)", set.text(20), 1);
    }

    @Says(at = "Promise 13", words = "-2 less the place of a FAULT (nothing is done).")
    static void p13PlaceOfAFault() {
        LateSet set = Edges.of(5, 10, 20, 1);
        set.lock(3);
        String before = Words.state(set);
        due("place 0", Words.text(set, "!"), -2);
        due("place 1", Words.text(set, " !"), -3);
        due("behind LINES", Words.text(set, "6 born 9; undo; lock 9; 5 dies 12; x"), -2 - 35);
        due("the end", Words.text(set, "6 born 9; lock 9"), -2 - 16);
        Edges.stays("text, a FAULT", set, before);
        StringBuilder full = new StringBuilder();
        while (full.length() < 598) {
            full.append(' ');
        }
        due("the last byte", Words.text(set, full + " !"), -2 - 599);
        due("the end of 600", Words.text(set, full + " 5"), -2 - 600);
        Edges.stays("text, a FAULT", set, before);
    }

    @Says(at = "Promise 14", words = "Of the latest text() without a FAULT, what 0: its LINES")
    static void p14TheLatestTextWithoutAFault() {
        LateSet set = new LateSet();
        Words.text(set, "5 born 3; undo; undo;");
        due("ran(0)", set.ran(0), 3);
        Words.text(set, "5 born 3; undo");
        due("a FAULT: ran(0)", set.ran(0), 3);
        set.text(1);
        set.text(-1);
        due("NONE: ran(0)", set.ran(0), 3);
        Words.ask(set, "lives where 1 = 1");
        due("a QUESTION: ran(0)", set.ran(0), 3);
        set.undo();
        set.born(6, 65, 0);
        due("calls: ran(0)", set.ran(0), 3);
        due("calls: ran(1)", set.ran(1), 1);
        due("text(0)", set.text(0), 0);
        due("no LINES: ran(0)", set.ran(0), 0);
        due("no LINES: ran(1)", set.ran(1), 0);
        due("no LINES: ran(2)", set.ran(2), NONE);
        due("no LINES: ran(3)", set.ran(3), 0);
    }

    @Says(at = "Promise 14", words = "1: how many were left out")
    static void p14HowManyWereLeftOut() {
        LateSet set = new LateSet();
        Words.text(set, "5 born 3; 6 born 3;");
        due("none", set.ran(1), 0);
        Words.text(set, "5 born 3; lock 65; undo; undo; undo; 7 born 3;");
        due("three", set.ran(1), 3);
        Words.text(set, "7 born 3;");
        due("all", set.ran(1), 1);
        due("ran(0)", set.ran(0), 1);
    }

    @Says(at = "Promise 14", words = "2: the first of these (from 0; NONE)")
    static void p14TheFirstLeftOut() {
        LateSet set = new LateSet();
        Words.text(set, "undo; undo; 5 born 3;");
        due("the first LINE", set.ran(2), 0);
        Words.text(set, "lock 3; undo; undo;");
        due("the third LINE", set.ran(2), 2);
        Words.text(set, "lock 3;");
        due("none", set.ran(2), NONE);
    }

    @Says(at = "Promise 14", words = "3: WHY (of lock 1, of undo 2; 0 without)")
    static void p14WhyItWasLeftOut() {
        LateSet set = new LateSet();
        String[] texts = {"lock 65;", "undo;", "lock 3;", "lock 65; undo;", "undo; lock 65;", "5 born 64;", "5 dies 3;",
            "5 born 2;", "5 born 3; 5 born 3;", "5 worth 0 at 3;", "5 shifts 3 by 0;", "6 revives 0;", "6 revives 1;"};
        int[] due = {1, 2, 0, 1, 2, 1, 2, 3, 4, 6, 1, 1, 2};
        for (int i = 0; i < texts.length; i++) {
            Words.text(set, texts[i]);
            due(texts[i], set.ran(3), due[i]);
        }
        LateSet full = Edges.many(40);
        Words.text(full, "5 born 3; lock 65;");
        due("40 LIVES", full.ran(3), 5);
    }

    @Says(at = "Promise 14", words = "NONE: another what, ahead of any.")
    static void p14NoneOfRan() {
        LateSet set = new LateSet();
        for (int what = 0; what <= 3; what++) {
            due("ahead of any: ran(" + what + ")", set.ran(what), NONE);
        }
        Words.text(set, "undo");
        Words.ask(set, "lives where 1 = 1");
        set.text(1);
        for (int what = 0; what <= 3; what++) {
            due("ahead of any: ran(" + what + ")", set.ran(what), NONE);
        }
        Words.text(set, "undo;");
        for (int what : new int[] {-1, 4, Integer.MIN_VALUE, Integer.MAX_VALUE}) {
            due("ran(" + what + ")", set.ran(what), NONE);
        }
    }

    @Says(at = "Promise 15", words = "The first n bytes of THE TAPE (it is empty then) are a QUESTION: its answer.")
    static void p15TheFirstBytes() {
        LateSet set = Edges.of(5, 10, 20, 1);
        Words.feed(set, "lives where 1 = 1 and 1 = 2");
        due("ask(17)", set.ask(17), 1);
        due("count(4)", set.count(4), 0);
        Words.feed(set, "lives where 1 = 1 and 1 = 2");
        due("ask(27)", set.ask(27), 0);
        Words.feed(set, "lives where 1 = 1 and 1 = 2");
        due("ask(40)", set.ask(40), 0);
        Words.feed(set, "hours where 1 = 12");
        due("ask(17)", set.ask(17), 64);
        Words.feed(set, "hours where 1 = 1");
        due("a FAULT empties it, too: ask(0)", set.ask(0), Words.fault(0, 1));
        due("count(4)", set.count(4), 0);
        String before = Words.state(set);
        Words.ask(set, "worth where not 1 = 2");
        Edges.stays("ask", set, before);
    }

    @Says(at = "Promise 15", words = "NONE as of text().")
    static void p15NotSoMany() {
        LateSet set = Edges.of(5, 10, 20, 1);
        due("ask(1)", set.ask(1), NONE);
        due("ask(-1)", set.ask(-1), NONE);
        Words.feed(set, "lives where 1 = 1");
        String before = Words.state(set);
        for (int n : new int[] {21, -1, 600, 601, Integer.MIN_VALUE, Integer.MAX_VALUE}) {
            due("ask(" + n + ")", set.ask(n), NONE);
        }
        Edges.stays("ask, NONE", set, before);
        due("ask(20)", set.ask(20), 1);
    }

    @Says(at = "Promise 15", words = "-2 less (2 * place + kind): a FAULT.")
    static void p15Faults() {
        LateSet set = Edges.of(5, 10, 20, 1);
        due("kind 1 at 0", Words.ask(set, "x"), -3);
        due("kind 1 at 1", Words.ask(set, " x"), -5);
        due("kind 1 at 12", Words.ask(set, "lives where x"), -27);
        due("kind 2 at 17", Words.ask(set, "lives where (((((("), -38);
        StringBuilder full = new StringBuilder("hours where 1 = 1");
        while (full.length() < 600) {
            full.append(' ');
        }
        due("600 bytes", Words.ask(set, full.toString()), 64);
        full.setCharAt(599, '?');
        due("kind 1 at 599", Words.ask(set, full.toString()), -2 - 1199);
        full.setCharAt(16, ' ');
        full.setCharAt(599, ' ');
        due("kind 1 at 600", Words.ask(set, full.toString()), -2 - 1201);
    }

    @Says(at = "Promise 16", words = "LIVES as a text, in order: NUMBER, ' from ', BIRTH, ' to ', DEATH")
    static void p16LivesAsAText() {
        LateSet set = Edges.of(999, 0, 1, 0, 10, 9, 10, 0, 9, 62, 63, 0, 100, 10, 11, 0, 0, 9, 63, 0);
        Check.due("report", Words.report(set),
            "0 from 9 to 63 ; 9 from 62 to 63 ; 10 from 9 to 10 ; 100 from 10 to 11 ; 999 from 0 to 1 ; ");
    }

    @Says(at = "Promise 16", words = "(END: 'on' in place of ' to ' and DEATH: ' on')")
    static void p16OnToEnd() {
        Check.due("report", Words.report(Edges.of(5, 0, 64, 0, 6, 63, 64, 0, 7, 0, 63, 0)),
            "5 from 0 on ; 6 from 63 on ; 7 from 0 to 63 ; ");
    }

    @Says(at = "Promise 16", words = "if its WORTH isn't 0: ' worth ', WORTH")
    static void p16WorthUnless0() {
        Check.due("report", Words.report(Edges.of(5, 0, 64, 1, 6, 0, 3, 99, 7, 0, 64, 0, 8, 1, 2, 10)),
            "5 from 0 on worth 1 ; 6 from 0 to 3 worth 99 ; 7 from 0 on ; 8 from 1 to 2 worth 10 ; ");
    }

    @Says(at = "Promise 16", words = "then ' ;' and a blank: byte i")
    static void p16ByteI() {
        LateSet set = Edges.of(5, 0, 64, 0);
        due("report(0)", set.report(0), '5');
        due("report(1)", set.report(1), ' ');
        due("report(7)", set.report(7), '0');
        due("report(10)", set.report(10), 'n');
        due("report(12)", set.report(12), ';');
        due("report(13)", set.report(13), ' ');
    }

    @Says(at = "Promise 16", words = "how many bytes (i NONE)")
    static void p16HowManyBytes() {
        due("no LIVES", new LateSet().report(-1), 0);
        due("one LIFE", Edges.of(5, 0, 64, 0).report(-1), 14);
        LateSet longest = new LateSet();
        for (int k = 0; k < 40; k++) {
            longest.span(100 + k, 10, 63, 99);
        }
        due("the most bytes", longest.report(-1), 40 * 29);
        due("the last of these", longest.report(40 * 29 - 1), ' ');
        due("the last but one", longest.report(40 * 29 - 2), ';');
    }

    @Says(at = "Promise 16", words = "-2: not so many")
    static void p16NotSoMany() {
        due("no LIVES", new LateSet().report(0), ABSENT);
        LateSet set = Edges.of(5, 0, 64, 0);
        due("report(14)", set.report(14), ABSENT);
        due("report(MAX)", set.report(Integer.MAX_VALUE), ABSENT);
        set.unborn(5, 0);
        due("report(13)", set.report(13), ABSENT);
    }

    @Says(at = "Promise 16", words = "NONE: i below NONE.")
    static void p16BelowNone() {
        LateSet set = Edges.of(5, 0, 64, 0);
        due("report(-2)", set.report(-2), NONE);
        due("report(MIN)", set.report(Integer.MIN_VALUE), NONE);
    }

    // ---- 17 to 19, lives

    @Says(at = "Promise 17", words = "What 0: LIVES")
    static void p17Lives() {
        due("none", new LateSet().count(0), 0);
        due("40", Edges.many(40).count(0), 40);
        due("two of a NUMBER", Edges.of(5, 0, 1, 0, 5, 1, 2, 0).count(0), 2);
    }

    @Says(at = "Promise 17", words = "1: NUMBERS that ever live")
    static void p17Numbers() {
        due("none", new LateSet().count(1), 0);
        due("40", Edges.many(40).count(1), 40);
        due("two of a NUMBER", Edges.of(5, 0, 1, 0, 5, 1, 2, 0, 0, 0, 1, 0, 0, 63, 64, 0).count(1), 2);
        due("NUMBER 0", Edges.of(0, 0, 1, 0).count(1), 1);
    }

    @Says(at = "Promise 17", words = "2: LOCK")
    static void p17Lock() {
        LateSet set = new LateSet();
        due("0", set.count(2), 0);
        set.lock(64);
        due("64", set.count(2), 64);
    }

    @Says(at = "Promise 17", words = "3: EDITS that can be taken back")
    static void p17Edits() {
        LateSet set = Edges.of(5, 0, 1, 0);
        due("one", set.count(3), 1);
        set.undo();
        due("none", set.count(3), 0);
        due("20 of 40", Edges.many(40).count(3), 20);
    }

    @Says(at = "Promise 17", words = "4: bytes on THE TAPE")
    static void p17Bytes() {
        LateSet set = new LateSet();
        due("none", set.count(4), 0);
        set.feed(0, 0, 0, 0, 0);
        due("20", set.count(4), 20);
        set.ask(3);
        due("none", set.count(4), 0);
    }

    @Says(at = "Promise 17", words = "5: PIECES of all COVERS together.")
    static void p17Pieces() {
        due("none", new LateSet().count(5), 0);
        due("1 and 10 and 6", Edges.of(5, 0, 64, 0, 6, 1, 63, 0, 7, 0, 63, 0).count(5), 17);
        due("the same PIECE of two", Edges.of(5, 0, 64, 0, 6, 0, 64, 0).count(5), 2);
        due("40", Edges.many(40).count(5), 40);
    }

    @Says(at = "Promise 17", words = "NONE for another what.")
    static void p17AnotherWhat() {
        LateSet set = Edges.of(5, 0, 1, 0);
        for (int what : new int[] {-1, 6, Integer.MIN_VALUE, Integer.MAX_VALUE}) {
            due("count(" + what + ")", set.count(what), NONE);
        }
    }

    @Says(at = "Promise 18", words = "Of the k-th LIFE, what 0: NUMBER, 1: BIRTH, 2: DEATH, 3: WORTH, 4: PIECES of its COVER")
    static void p18TheKthLife() {
        LateSet set = Edges.of(999, 63, 64, 99, 0, 1, 63, 0, 0, 0, 1, 1);
        int[][] due = {{0, 0, 1, 1, 1}, {0, 1, 63, 0, 10}, {999, 63, 64, 99, 1}};
        for (int k = 0; k < due.length; k++) {
            for (int what = 0; what < 5; what++) {
                due("life(" + k + ", " + what + ")", set.life(k, what), due[k][what]);
            }
        }
        LateSet full = Edges.many(40);
        due("the last of 40", full.life(39, 0), 139);
    }

    @Says(at = "Promise 18", words = "NoSuchElementException: others")
    static void p18AnotherWhat() {
        LateSet set = Edges.of(5, 0, 1, 0);
        for (int what : new int[] {-1, 5, Integer.MIN_VALUE, Integer.MAX_VALUE}) {
            Check.noSuchLife(set, 0, what);
        }
    }

    @Says(at = "Promise 18", words = "none such.")
    static void p18NoSuchLife() {
        LateSet set = Edges.of(5, 0, 1, 0);
        for (int k : new int[] {-1, 1, 39, 40, Integer.MIN_VALUE, Integer.MAX_VALUE}) {
            for (int what = -1; what <= 5; what++) {
                Check.noSuchLife(set, k, what);
            }
        }
        Check.noSuchLife(new LateSet(), 0, 0);
        Check.noSuchLife(Edges.many(40), 40, 0);
    }

    @Says(at = "Promise 18", words = "`int life(int k, int what) throws NoSuchElementException`")
    static void p18ThrowsThatOneItself() {
        String thrown = "";
        try {
            new LateSet().life(0, 0);
        } catch (RuntimeException e) {
            thrown = e.getClass().getName();
        }
        Check.due("thrown", thrown, NoSuchElementException.class.getName());
    }

    @Says(at = "Promise 19", words = "Which LIFE a NUMBER LIVES at an HOUR")
    static void p19Which() {
        LateSet set = Edges.of(5, 10, 20, 0, 5, 20, 21, 0, 5, 63, 64, 0, 0, 0, 64, 0, 999, 20, 21, 0);
        due("which(0, 0)", set.which(0, 0), 0);
        due("which(0, 63)", set.which(0, 63), 0);
        due("which(5, 10)", set.which(5, 10), 1);
        due("which(5, 19)", set.which(5, 19), 1);
        due("which(5, 20)", set.which(5, 20), 2);
        due("which(5, 63)", set.which(5, 63), 3);
        due("which(999, 20)", set.which(999, 20), 4);
    }

    @Says(at = "Promise 19", words = "-2: none")
    static void p19None() {
        LateSet set = Edges.of(5, 10, 20, 0);
        due("which(5, 9)", set.which(5, 9), ABSENT);
        due("which(5, 20)", set.which(5, 20), ABSENT);
        due("which(4, 10)", set.which(4, 10), ABSENT);
        due("which(6, 10)", set.which(6, 10), ABSENT);
    }

    @Says(at = "Promise 19", words = "NONE: out of bounds.")
    static void p19OutOfBounds() {
        LateSet set = Edges.of(0, 0, 64, 0, 999, 0, 64, 0);
        for (int number : NO_NUMBERS) {
            due("which(" + number + ", 0)", set.which(number, 0), NONE);
        }
        for (int hour : NO_HOURS) {
            due("which(0, " + hour + ")", set.which(0, hour), NONE);
        }
    }

    // ---- 20 to 27, at an hour

    @Says(at = "Promise 20", words = "How many LIVE at an HOUR")
    static void p20Alive() {
        LateSet set = Edges.of(5, 0, 1, 0, 6, 63, 64, 0, 0, 10, 20, 0, 999, 19, 20, 0);
        int[] hours = {0, 1, 9, 10, 18, 19, 20, 62, 63};
        int[] due = {1, 0, 0, 1, 1, 2, 0, 0, 1};
        for (int i = 0; i < hours.length; i++) {
            due("alive(" + hours[i] + ")", set.alive(hours[i]), due[i]);
        }
        due("40", Edges.many(40).alive(10), 40);
    }

    @Says(at = "Promise 20", words = "NONE: none such.")
    static void p20NoSuchHour() {
        LateSet set = Edges.of(5, 0, 64, 0);
        for (int hour : NO_HOURS) {
            due("alive(" + hour + ")", set.alive(hour), NONE);
        }
    }

    @Says(at = "Promise 21", words = "The least NUMBER that LIVES at an HOUR and is that one or above it")
    static void p21Next() {
        LateSet set = Edges.of(0, 10, 20, 0, 5, 10, 20, 0, 999, 10, 20, 0, 6, 20, 30, 0, 1, 0, 10, 0);
        due("next(0, 10)", set.next(0, 10), 0);
        due("next(1, 10)", set.next(1, 10), 5);
        due("next(5, 19)", set.next(5, 19), 5);
        due("next(6, 19)", set.next(6, 19), 999);
        due("next(999, 19)", set.next(999, 19), 999);
        due("next(0, 9)", set.next(0, 9), 1);
        due("next(0, 20)", set.next(0, 20), 6);
    }

    @Says(at = "Promise 21", words = "-2: none")
    static void p21None() {
        LateSet set = Edges.of(5, 10, 20, 0);
        due("next(6, 10)", set.next(6, 10), ABSENT);
        due("next(5, 9)", set.next(5, 9), ABSENT);
        due("next(5, 20)", set.next(5, 20), ABSENT);
        due("next(999, 10)", set.next(999, 10), ABSENT);
    }

    @Says(at = "Promise 21", words = "NONE: out of bounds.")
    static void p21OutOfBounds() {
        LateSet set = Edges.of(0, 0, 64, 0, 999, 0, 64, 0);
        for (int number : NO_NUMBERS) {
            due("next(" + number + ", 0)", set.next(number, 0), NONE);
        }
        for (int hour : NO_HOURS) {
            due("next(0, " + hour + ")", set.next(0, hour), NONE);
        }
    }

    @Says(at = "Promise 22", words = "The greatest that is that one or below it")
    static void p22Before() {
        LateSet set = Edges.of(0, 10, 20, 0, 5, 10, 20, 0, 999, 10, 20, 0, 6, 20, 30, 0, 1, 0, 10, 0);
        due("before(999, 10)", set.before(999, 10), 999);
        due("before(998, 10)", set.before(998, 10), 5);
        due("before(5, 19)", set.before(5, 19), 5);
        due("before(4, 19)", set.before(4, 19), 0);
        due("before(0, 19)", set.before(0, 19), 0);
        due("before(999, 9)", set.before(999, 9), 1);
        due("before(999, 20)", set.before(999, 20), 6);
    }

    @Says(at = "Promise 22", words = "likewise.")
    static void p22NoneOrOutOfBounds() {
        LateSet set = Edges.of(5, 10, 20, 0);
        due("before(4, 10)", set.before(4, 10), ABSENT);
        due("before(0, 10)", set.before(0, 10), ABSENT);
        due("before(5, 9)", set.before(5, 9), ABSENT);
        due("before(5, 20)", set.before(5, 20), ABSENT);
        for (int number : NO_NUMBERS) {
            due("before(" + number + ", 10)", set.before(number, 10), NONE);
        }
        for (int hour : NO_HOURS) {
            due("before(5, " + hour + ")", set.before(5, hour), NONE);
        }
    }

    @Says(at = "Promise 23", words = "How many that LIVE at an HOUR are below a NUMBER")
    static void p23Rank() {
        LateSet set = Edges.of(0, 10, 20, 0, 5, 10, 20, 0, 999, 10, 20, 0, 6, 20, 30, 0);
        due("rank(0, 10)", set.rank(0, 10), 0);
        due("rank(1, 10)", set.rank(1, 10), 1);
        due("rank(5, 10)", set.rank(5, 10), 1);
        due("rank(6, 19)", set.rank(6, 19), 2);
        due("rank(999, 19)", set.rank(999, 19), 2);
        due("rank(999, 20)", set.rank(999, 20), 1);
        due("rank(999, 9)", set.rank(999, 9), 0);
    }

    @Says(at = "Promise 23", words = "NONE: out of bounds.")
    static void p23OutOfBounds() {
        LateSet set = Edges.of(0, 0, 64, 0);
        for (int number : NO_NUMBERS) {
            due("rank(" + number + ", 0)", set.rank(number, 0), NONE);
        }
        for (int hour : NO_HOURS) {
            due("rank(5, " + hour + ")", set.rank(5, hour), NONE);
        }
    }

    @Says(at = "Promise 24", words = "The k-th NUMBER (from 0) that LIVES at an HOUR")
    static void p24Kth() {
        LateSet set = Edges.of(0, 10, 20, 0, 5, 10, 20, 0, 999, 10, 20, 0, 3, 20, 30, 0);
        due("kth(10, 0)", set.kth(10, 0), 0);
        due("kth(10, 1)", set.kth(10, 1), 5);
        due("kth(19, 2)", set.kth(19, 2), 999);
        due("kth(20, 0)", set.kth(20, 0), 3);
        due("the 40th", Edges.many(40).kth(10, 39), 139);
    }

    @Says(at = "Promise 24", words = "-2: not so many")
    static void p24NotSoMany() {
        LateSet set = Edges.of(5, 10, 20, 0, 6, 10, 20, 0);
        due("kth(10, 2)", set.kth(10, 2), ABSENT);
        due("kth(9, 0)", set.kth(9, 0), ABSENT);
        due("kth(20, 0)", set.kth(20, 0), ABSENT);
        due("kth(10, MAX)", set.kth(10, Integer.MAX_VALUE), ABSENT);
        due("kth(10, 40) of 40", Edges.many(40).kth(10, 40), ABSENT);
    }

    @Says(at = "Promise 24", words = "NONE: no such HOUR, k below 0.")
    static void p24NoSuchHour() {
        LateSet set = Edges.of(5, 0, 64, 0);
        for (int hour : NO_HOURS) {
            due("kth(" + hour + ", 0)", set.kth(hour, 0), NONE);
        }
        due("kth(10, -1)", set.kth(10, -1), NONE);
        due("kth(10, MIN)", set.kth(10, Integer.MIN_VALUE), NONE);
    }

    @Says(at = "Promise 25", words = "WORTHS of those from a NUMBER to another one (both) that LIVE at an HOUR together")
    static void p25Sum() {
        LateSet set = Edges.of(0, 10, 20, 1, 5, 10, 20, 20, 999, 10, 20, 70, 6, 20, 30, 9);
        due("sum(10, 0, 999)", set.sum(10, 0, 999), 91);
        due("sum(19, 0, 0)", set.sum(19, 0, 0), 1);
        due("sum(19, 999, 999)", set.sum(19, 999, 999), 70);
        due("sum(19, 0, 5)", set.sum(19, 0, 5), 21);
        due("sum(19, 5, 999)", set.sum(19, 5, 999), 90);
        due("sum(19, 1, 4)", set.sum(19, 1, 4), 0);
        due("sum(19, 6, 998)", set.sum(19, 6, 998), 0);
        due("sum(20, 0, 999)", set.sum(20, 0, 999), 9);
        due("sum(9, 0, 999)", set.sum(9, 0, 999), 0);
    }

    @Says(at = "Promise 25", words = "NONE: out of bounds, the second below the first.")
    static void p25OutOfBounds() {
        LateSet set = Edges.of(0, 0, 64, 1, 999, 0, 64, 2);
        for (int hour : NO_HOURS) {
            due("sum(" + hour + ", 0, 999)", set.sum(hour, 0, 999), NONE);
        }
        for (int number : NO_NUMBERS) {
            due("sum(0, " + number + ", 999)", set.sum(0, number, 999), NONE);
            due("sum(0, 0, " + number + ")", set.sum(0, 0, number), NONE);
            due("sum(0, " + number + ", " + number + ")", set.sum(0, number, number), NONE);
        }
        due("sum(0, 6, 5)", set.sum(0, 6, 5), NONE);
        due("sum(0, 999, 0)", set.sum(0, 999, 0), NONE);
        due("sum(0, 6, 6)", set.sum(0, 6, 6), 0);
    }

    @Says(at = "Promise 26", words = "The lower one of the two neighbours at an HOUR that are farthest apart")
    static void p26Gap() {
        LateSet set = Edges.of(0, 10, 20, 0, 400, 10, 20, 0, 999, 10, 19, 0, 500, 18, 20, 0);
        due("gap(10)", set.gap(10), 400);
        due("gap(18)", set.gap(18), 500);
        due("gap(19)", set.gap(19), 0);
        due("wider and wider", Edges.of(100, 0, 1, 0, 110, 0, 1, 0, 200, 0, 1, 0, 400, 0, 1, 0, 500, 0, 1, 0).gap(0), 200);
        due("side by side", Edges.of(0, 0, 1, 0, 1, 0, 1, 0).gap(0), 0);
        due("0 and 999", Edges.of(0, 0, 1, 0, 999, 0, 1, 0).gap(0), 0);
    }

    @Says(at = "Promise 26", words = "(the first such)")
    static void p26TheFirstSuch() {
        due("three alike", Edges.of(3, 0, 1, 0, 4, 0, 1, 0, 14, 0, 1, 0, 24, 0, 1, 0, 34, 0, 1, 0).gap(0), 4);
    }

    @Says(at = "Promise 26", words = "-2: fewer than two LIVE")
    static void p26FewerThanTwo() {
        LateSet set = Edges.of(0, 10, 20, 0, 999, 19, 21, 0);
        due("none", set.gap(9), ABSENT);
        due("one", set.gap(10), ABSENT);
        due("two", set.gap(19), 0);
        due("one", set.gap(20), ABSENT);
        due("two LIVES of one NUMBER", Edges.of(5, 0, 1, 0, 5, 1, 2, 0).gap(0), ABSENT);
    }

    @Says(at = "Promise 26", words = "NONE: no such HOUR.")
    static void p26NoSuchHour() {
        LateSet set = Edges.of(0, 0, 64, 0, 5, 0, 64, 0);
        for (int hour : NO_HOURS) {
            due("gap(" + hour + ")", set.gap(hour), NONE);
        }
    }

    @Says(at = "Promise 27", words = "How many BIRTHS (what 0), DEATHS (1) are at an HOUR (END, too)")
    static void p27Changes() {
        LateSet set = Edges.of(5, 0, 10, 0, 5, 10, 64, 0, 6, 0, 64, 0, 7, 63, 64, 0, 8, 9, 10, 0);
        due("changes(0, 0)", set.changes(0, 0), 2);
        due("changes(0, 1)", set.changes(0, 1), 0);
        due("changes(10, 0)", set.changes(10, 0), 1);
        due("changes(10, 1)", set.changes(10, 1), 2);
        due("changes(9, 0)", set.changes(9, 0), 1);
        due("changes(9, 1)", set.changes(9, 1), 0);
        due("changes(63, 0)", set.changes(63, 0), 1);
        due("changes(63, 1)", set.changes(63, 1), 0);
        due("changes(64, 0)", set.changes(64, 0), 0);
        due("changes(64, 1)", set.changes(64, 1), 3);
    }

    @Says(at = "Promise 27", words = "NONE: others, none such.")
    static void p27OutOfBounds() {
        LateSet set = Edges.of(5, 0, 64, 0);
        for (int hour : new int[] {-1, 65, Integer.MIN_VALUE, Integer.MAX_VALUE}) {
            due("changes(" + hour + ", 0)", set.changes(hour, 0), NONE);
            due("changes(" + hour + ", 1)", set.changes(hour, 1), NONE);
        }
        for (int what : new int[] {-1, 2, Integer.MIN_VALUE, Integer.MAX_VALUE}) {
            due("changes(0, " + what + ")", set.changes(0, what), NONE);
            due("changes(64, " + what + ")", set.changes(64, what), NONE);
        }
    }

    // ---- 28 to 32, over hours

    @Says(at = "Promise 28", words = "The least NUMBER, that one or above it, that LIVES at all HOURS from one to another (both)")
    static void p28Always() {
        LateSet set = Edges.of(0, 10, 20, 0, 5, 10, 21, 0, 999, 0, 64, 0);
        due("always(0, 10, 19)", set.always(0, 10, 19), 0);
        due("always(1, 10, 19)", set.always(1, 10, 19), 5);
        due("always(0, 10, 20)", set.always(0, 10, 20), 5);
        due("always(0, 9, 19)", set.always(0, 9, 19), 999);
        due("always(5, 10, 10)", set.always(5, 10, 10), 5);
        due("always(6, 10, 10)", set.always(6, 10, 10), 999);
        due("always(999, 0, 63)", set.always(999, 0, 63), 999);
        due("always(0, 63, 63)", set.always(0, 63, 63), 999);
        due("always(0, 0, 0)", set.always(0, 0, 0), 999);
    }

    @Says(at = "Promise 28", words = "whatever LIVES it takes")
    static void p28WhateverLivesItTakes() {
        LateSet set = Edges.of(5, 0, 10, 0, 5, 10, 20, 0, 5, 20, 64, 0, 4, 0, 10, 0, 4, 11, 64, 0);
        due("always(0, 0, 63)", set.always(0, 0, 63), 5);
        due("always(0, 0, 9)", set.always(0, 0, 9), 4);
        due("always(0, 9, 10)", set.always(0, 9, 10), 5);
        due("always(0, 11, 63)", set.always(0, 11, 63), 4);
    }

    @Says(at = "Promise 28", words = "-2: none")
    static void p28None() {
        LateSet set = Edges.of(5, 10, 20, 0);
        due("always(6, 10, 19)", set.always(6, 10, 19), ABSENT);
        due("always(5, 9, 19)", set.always(5, 9, 19), ABSENT);
        due("always(5, 10, 20)", set.always(5, 10, 20), ABSENT);
        due("always(999, 10, 10)", set.always(999, 10, 10), ABSENT);
    }

    @Says(at = "Promise 28", words = "NONE: out of bounds, the second below the first.")
    static void p28OutOfBounds() {
        LateSet set = Edges.of(0, 0, 64, 0, 999, 0, 64, 0);
        for (int number : NO_NUMBERS) {
            due("always(" + number + ", 0, 63)", set.always(number, 0, 63), NONE);
        }
        for (int hour : NO_HOURS) {
            due("always(0, " + hour + ", 63)", set.always(0, hour, 63), NONE);
            due("always(0, 0, " + hour + ")", set.always(0, 0, hour), NONE);
            due("always(0, " + hour + ", " + hour + ")", set.always(0, hour, hour), NONE);
        }
        due("always(0, 6, 5)", set.always(0, 6, 5), NONE);
        due("always(0, 63, 0)", set.always(0, 63, 0), NONE);
        due("always(0, 6, 6)", set.always(0, 6, 6), 0);
    }

    @Says(at = "Promise 29", words = "Likewise at some of them.")
    static void p29Ever() {
        LateSet set = Edges.of(0, 10, 20, 0, 5, 19, 21, 0, 5, 30, 31, 0, 999, 63, 64, 0);
        due("ever(0, 0, 10)", set.ever(0, 0, 10), 0);
        due("ever(0, 19, 63)", set.ever(0, 19, 63), 0);
        due("ever(0, 20, 63)", set.ever(0, 20, 63), 5);
        due("ever(5, 30, 30)", set.ever(5, 30, 30), 5);
        due("ever(0, 21, 30)", set.ever(0, 21, 30), 5);
        due("ever(0, 31, 63)", set.ever(0, 31, 63), 999);
        due("ever(999, 0, 63)", set.ever(999, 0, 63), 999);
        due("-2: ever(0, 0, 9)", set.ever(0, 0, 9), ABSENT);
        due("-2: ever(0, 21, 29)", set.ever(0, 21, 29), ABSENT);
        due("-2: ever(0, 31, 62)", set.ever(0, 31, 62), ABSENT);
        due("-2: ever(999, 0, 62)", set.ever(999, 0, 62), ABSENT);
    }

    @Says(at = "Promise 29", words = "Likewise")
    static void p29OutOfBounds() {
        LateSet set = Edges.of(0, 0, 64, 0, 999, 0, 64, 0);
        for (int number : NO_NUMBERS) {
            due("ever(" + number + ", 0, 63)", set.ever(number, 0, 63), NONE);
        }
        for (int hour : NO_HOURS) {
            due("ever(0, " + hour + ", 63)", set.ever(0, hour, 63), NONE);
            due("ever(0, 0, " + hour + ")", set.ever(0, 0, hour), NONE);
            due("ever(0, " + hour + ", " + hour + ")", set.ever(0, hour, hour), NONE);
        }
        due("ever(0, 6, 5)", set.ever(0, 6, 5), NONE);
        due("ever(0, 63, 0)", set.ever(0, 63, 0), NONE);
        due("ever(0, 6, 6)", set.ever(0, 6, 6), 0);
    }

    @Says(at = "Promise 30", words = "In how many HOURS both LIVE")
    static void p30Both() {
        LateSet set = Edges.of(0, 0, 64, 0, 5, 10, 20, 0, 5, 20, 30, 0, 6, 29, 31, 0, 999, 30, 64, 0);
        due("both(0, 5)", set.both(0, 5), 20);
        due("both(5, 0)", set.both(5, 0), 20);
        due("both(5, 6)", set.both(5, 6), 1);
        due("both(5, 999)", set.both(5, 999), 0);
        due("both(0, 999)", set.both(0, 999), 34);
        due("no such NUMBER", set.both(0, 1), 0);
    }

    @Says(at = "Promise 30", words = "NONE: out of bounds")
    static void p30OutOfBounds() {
        LateSet set = Edges.of(0, 0, 64, 0);
        for (int number : NO_NUMBERS) {
            due("both(" + number + ", 0)", set.both(number, 0), NONE);
            due("both(0, " + number + ")", set.both(0, number), NONE);
            due("both(" + number + ", the same)", set.both(number, number), NONE);
        }
    }

    @Says(at = "Promise 30", words = "(one and itself: its HOURS)")
    static void p30OneAndItself() {
        LateSet set = Edges.of(0, 0, 64, 0, 5, 10, 20, 0, 5, 25, 30, 0, 999, 63, 64, 0);
        due("both(0, 0)", set.both(0, 0), 64);
        due("both(5, 5)", set.both(5, 5), 15);
        due("both(999, 999)", set.both(999, 999), 1);
        due("both(6, 6)", set.both(6, 6), 0);
    }

    @Says(at = "Promise 31", words = "In how many HOURS the other is the least that LIVES and is above a NUMBER")
    static void p31Reigns() {
        LateSet set = Edges.of(5, 10, 20, 0, 7, 5, 15, 0, 7, 15, 30, 0, 999, 0, 64, 0);
        due("reigns(0, 5)", set.reigns(0, 5), 10);
        due("reigns(4, 5)", set.reigns(4, 5), 10);
        due("reigns(5, 5): not above itself", set.reigns(5, 5), 0);
        due("reigns(7, 5): not above", set.reigns(7, 5), 0);
        due("reigns(4, 7)", set.reigns(4, 7), 15);
        due("reigns(5, 7)", set.reigns(5, 7), 25);
        due("reigns(0, 999)", set.reigns(0, 999), 39);
        due("reigns(998, 999)", set.reigns(998, 999), 64);
        due("reigns(999, 999)", set.reigns(999, 999), 0);
        due("reigns(0, 0)", set.reigns(0, 0), 0);
        due("reigns(0, 6)", set.reigns(0, 6), 0);
    }

    @Says(at = "Promise 31", words = "(whether that LIVES or not)")
    static void p31WhetherItLivesOrNot() {
        LateSet set = Edges.of(5, 10, 20, 0, 7, 5, 30, 0);
        due("it lives at some", set.reigns(5, 7), 25);
        due("it never lives", set.reigns(6, 7), 25);
        due("it never lives", set.reigns(3, 5), 10);
    }

    @Says(at = "Promise 31", words = "NONE: out of bounds.")
    static void p31OutOfBounds() {
        LateSet set = Edges.of(0, 0, 64, 0);
        for (int number : NO_NUMBERS) {
            due("reigns(" + number + ", 0)", set.reigns(number, 0), NONE);
            due("reigns(0, " + number + ")", set.reigns(0, number), NONE);
        }
    }

    @Says(at = "Promise 32", words = "The first HOUR at which most LIVE (what 0), how many those are (1)")
    static void p32MostLive() {
        due("none: crowd(0)", new LateSet().crowd(0), 0);
        due("none: crowd(1)", new LateSet().crowd(1), 0);
        LateSet set = Edges.of(5, 10, 20, 0, 6, 12, 14, 0, 7, 18, 20, 99);
        due("the first of two", set.crowd(0), 12);
        due("how many", set.crowd(1), 2);
        set.span(8, 63, 64, 0);
        set.span(9, 63, 64, 0);
        set.span(4, 63, 64, 0);
        due("the last HOUR", set.crowd(0), 63);
        due("how many", set.crowd(1), 3);
        due("all alike", Edges.of(5, 0, 64, 0).crowd(0), 0);
        due("40", Edges.many(40).crowd(1), 40);
    }

    @Says(at = "Promise 32", words = "the first at which their WORTHS together are most (2), that (3)")
    static void p32MostWorth() {
        due("none: crowd(2)", new LateSet().crowd(2), 0);
        due("none: crowd(3)", new LateSet().crowd(3), 0);
        LateSet set = Edges.of(5, 10, 20, 5, 6, 12, 14, 5, 7, 18, 20, 5, 8, 30, 40, 0);
        due("the first of two", set.crowd(2), 12);
        due("how much", set.crowd(3), 10);
        set.span(0, 63, 64, 11);
        due("the last HOUR", set.crowd(2), 63);
        due("how much", set.crowd(3), 11);
        set.span(999, 1, 2, 12);
        due("NUMBER 999", set.crowd(2), 1);
        due("no WORTH", Edges.of(5, 10, 20, 0).crowd(2), 0);
    }

    @Says(at = "Promise 32", words = "NONE for another what.")
    static void p32AnotherWhat() {
        LateSet set = Edges.of(5, 10, 20, 5);
        for (int what : new int[] {-1, 4, Integer.MIN_VALUE, Integer.MAX_VALUE}) {
            due("crowd(" + what + ")", set.crowd(what), NONE);
        }
    }

    // ---- 33 to 35, the tree of hours

    @Says(at = "Promise 33", words = "Which PIECE of its COVER has an HOUR at which a NUMBER LIVES")
    static void p33Cover() {
        LateSet set = Edges.of(5, 1, 63, 0, 6, 0, 64, 0, 7, 63, 64, 0, 8, 0, 1, 0, 9, 0, 32, 0, 9, 32, 64, 0);
        int[] hours = {1, 2, 3, 4, 7, 8, 15, 16, 31, 32, 47, 48, 55, 56, 59, 60, 61, 62};
        int[] due = {65, 33, 33, 17, 17, 9, 9, 5, 5, 6, 6, 14, 14, 30, 30, 62, 62, 126};
        for (int i = 0; i < hours.length; i++) {
            due("cover(5, " + hours[i] + ")", set.cover(5, hours[i]), due[i]);
        }
        due("cover(6, 0)", set.cover(6, 0), 1);
        due("cover(6, 63)", set.cover(6, 63), 1);
        due("cover(7, 63)", set.cover(7, 63), 127);
        due("cover(8, 0)", set.cover(8, 0), 64);
        due("each LIFE has its own COVER", set.cover(9, 31), 2);
        due("each LIFE has its own COVER", set.cover(9, 32), 3);
    }

    @Says(at = "Promise 33", words = "-2: it doesn't")
    static void p33ItDoesNotLive() {
        LateSet set = Edges.of(5, 10, 20, 0);
        due("cover(5, 9)", set.cover(5, 9), ABSENT);
        due("cover(5, 20)", set.cover(5, 20), ABSENT);
        due("cover(6, 10)", set.cover(6, 10), ABSENT);
    }

    @Says(at = "Promise 33", words = "NONE: out of bounds.")
    static void p33OutOfBounds() {
        LateSet set = Edges.of(0, 0, 64, 0, 999, 0, 64, 0);
        for (int number : NO_NUMBERS) {
            due("cover(" + number + ", 0)", set.cover(number, 0), NONE);
        }
        for (int hour : NO_HOURS) {
            due("cover(0, " + hour + ")", set.cover(0, hour), NONE);
        }
    }

    @Says(at = "Promise 34", words = "How many LIVES have a PIECE (1 to 127) in their COVER")
    static void p34On() {
        LateSet set = Edges.of(5, 0, 64, 0, 6, 0, 64, 0, 7, 63, 64, 0, 8, 1, 64, 0);
        due("on(1)", set.on(1), 2);
        due("on(127)", set.on(127), 1);
        due("on(2): half of another PIECE", set.on(2), 0);
        due("on(3)", set.on(3), 1);
        due("on(65)", set.on(65), 1);
        due("on(64)", set.on(64), 0);
        due("40", Edges.many(40).on(74), 40);
        int all = 0;
        for (int piece = 1; piece <= 127; piece++) {
            all += set.on(piece);
        }
        due("all PIECES", all, set.count(5));
    }

    @Says(at = "Promise 34", words = "NONE: none such.")
    static void p34NoSuchPiece() {
        LateSet set = Edges.of(5, 0, 64, 0);
        for (int piece : new int[] {0, -1, 128, Integer.MIN_VALUE, Integer.MAX_VALUE}) {
            due("on(" + piece + ")", set.on(piece), NONE);
        }
    }

    @Says(at = "Promise 35", words = "The NUMBER of the k-th of these")
    static void p35OnAt() {
        LateSet set = Edges.of(999, 0, 64, 0, 6, 0, 64, 0, 7, 63, 64, 0, 0, 1, 64, 0, 0, 0, 1, 0);
        due("onAt(1, 0)", set.onAt(1, 0), 6);
        due("onAt(1, 1)", set.onAt(1, 1), 999);
        due("onAt(127, 0)", set.onAt(127, 0), 7);
        due("onAt(3, 0)", set.onAt(3, 0), 0);
        due("onAt(64, 0)", set.onAt(64, 0), 0);
        due("the 40th", Edges.many(40).onAt(74, 39), 139);
    }

    @Says(at = "Promise 35", words = "-2: not so many")
    static void p35NotSoMany() {
        LateSet set = Edges.of(5, 0, 64, 0, 6, 0, 64, 0);
        due("onAt(1, 2)", set.onAt(1, 2), ABSENT);
        due("onAt(2, 0)", set.onAt(2, 0), ABSENT);
        due("onAt(127, 0)", set.onAt(127, 0), ABSENT);
        due("onAt(1, MAX)", set.onAt(1, Integer.MAX_VALUE), ABSENT);
        due("onAt(74, 40) of 40", Edges.many(40).onAt(74, 40), ABSENT);
    }

    @Says(at = "Promise 35", words = "NONE: no such PIECE, k below 0.")
    static void p35NoSuchPiece() {
        LateSet set = Edges.of(5, 0, 64, 0);
        for (int piece : new int[] {0, -1, 128, Integer.MIN_VALUE, Integer.MAX_VALUE}) {
            due("onAt(" + piece + ", 0)", set.onAt(piece, 0), NONE);
        }
        due("onAt(1, -1)", set.onAt(1, -1), NONE);
        due("onAt(1, MIN)", set.onAt(1, Integer.MIN_VALUE), NONE);
    }
}
