/** Each promise of the document: ordinary inputs, edges, wrong inputs. */
public final class PromisesTest {
    private static final int NONE = -1;
    private static final int ABSENT = -2;
    private static final int END = 64;

    public static void main(String[] args) {
        newObject();
        born();
        span();
        died();
        unborn();
        revived();
        shifted();
        worthed();
        lock();
        undo();
        keep();
        feed();
        text();
        textFaults();
        ran();
        askOfLives();
        askOfHours();
        askFaults();
        report();
        count();
        life();
        which();
        atAnHour();
        sum();
        gap();
        changes();
        overHours();
        reigns();
        crowd();
        cover();
        pieces();
        nothingStaysOfTheGone();
        Check.close();
    }

    /** 20 all hours; 30 from 0 to 5 (7), from 5 to 10 (10); 40 from 56 on (9). */
    private static LateSet some() {
        LateSet set = new LateSet();
        set.born(40, 56, 9);
        set.span(30, 5, 10, 10);
        set.span(30, 0, 5, 7);
        set.born(20, 0, 0);
        return set;
    }

    private static void newObject() {
        LateSet set = new LateSet();
        Check.due("new: NONE", LateSet.NONE, -1);
        for (int what = 0; what <= 5; what++) {
            Check.due("new: count(" + what + ")", set.count(what), 0);
        }
        Check.due("new: undo()", set.undo(), NONE);
        Check.due("new: keep(0, back)", set.keep(0, true), false);
        Check.due("new: ran(0)", set.ran(0), NONE);
        Check.due("new: report", Words.report(set), "");
        set.born(1, 1, 1);
        Check.due("new: another one is another", new LateSet().count(0), 0);
    }

    private static void born() {
        LateSet set = new LateSet();
        Check.due("born(30, 5, 10)", set.born(30, 5, 10), 0);
        Check.due("born: report", Words.report(set), "30 from 5 on worth 10 ; ");
        int[][] wrong = {{-1, 0, 0}, {1000, 0, 0}, {0, -1, 0}, {0, 64, 0}, {0, 0, -1}, {0, 0, 100},
            {Integer.MIN_VALUE, 0, 0}, {0, Integer.MAX_VALUE, 0}, {0, 0, Integer.MIN_VALUE}};
        for (int[] w : wrong) {
            Check.due("born out of bounds", set.born(w[0], w[1], w[2]), 1);
        }
        Check.due("born: a clash", set.born(30, 63, 0), 4);
        Check.due("born(0, 0, 0)", set.born(0, 0, 0), 0);
        Check.due("born(999, 63, 99)", set.born(999, 63, 99), 0);
        set.lock(10);
        Check.due("born: locked", set.born(50, 9, 0), 3);
        Check.due("born: locked ahead of a clash", set.born(30, 4, 0), 3);
        Check.due("born: no locked hour changes, a clash", set.born(30, 5, 0), 4);
        Check.due("born at the lock", set.born(50, 10, 0), 0);
        Check.due("born: out of bounds ahead of locked", set.born(50, 9, 100), 1);
        set.lock(END);
        Check.due("born: all is locked", set.born(60, 63, 0), 3);
        Check.due("born: report at last", Words.report(set),
            "0 from 0 on ; 30 from 5 on worth 10 ; 50 from 10 on ; 999 from 63 on worth 99 ; ");
        Check.due("born: edits", set.count(3), 4);
    }

    private static void span() {
        LateSet set = new LateSet();
        Check.due("span(5, 8, 16, 3)", set.span(5, 8, 16, 3), 0);
        int[][] wrong = {{-1, 0, 1, 0}, {1000, 0, 1, 0}, {1, -1, 1, 0}, {1, 64, 64, 0}, {1, 64, 65, 0},
            {1, 0, 65, 0}, {1, 3, 3, 0}, {1, 3, 2, 0}, {1, 0, 1, -1}, {1, 0, 1, 100},
            {1, 0, Integer.MAX_VALUE, 0}, {1, Integer.MIN_VALUE, 5, 0}};
        for (int[] w : wrong) {
            Check.due("span out of bounds", set.span(w[0], w[1], w[2], w[3]), 1);
        }
        Check.due("span: to the other's birth", set.span(5, 0, 8, 0), 0);
        Check.due("span: from the other's death", set.span(5, 16, END, 0), 0);
        Check.due("span: a clash of one hour", set.span(5, 15, 16, 0), 4);
        Check.due("span: a clash around", set.span(5, 0, END, 0), 4);
        Check.due("span: the last hour", set.span(4, 63, 64, 0), 0);
        Check.due("span: report", Words.report(set),
            "4 from 63 on ; 5 from 0 to 8 ; 5 from 8 to 16 worth 3 ; 5 from 16 on ; ");
        LateSet many = new LateSet();
        for (int k = 0; k < 40; k++) {
            Check.due("span: life " + k, many.span(k % 7, 63 - k, 64 - k, k), 0);
        }
        Check.due("span: 40 lives", many.span(500, 0, 1, 0), 5);
        Check.due("span: a clash ahead of 40 lives", many.span(0, 63, 64, 0), 4);
        many.lock(1);
        Check.due("span: locked ahead of 40 lives", many.span(500, 0, 1, 0), 3);
        Check.due("span: out of bounds ahead of 40 lives", many.span(500, 1, 1, 0), 1);
        Check.due("born: 40 lives", many.born(500, 1, 0), 5);
        Check.due("died with 40 lives", many.died(0, 63), 0);
        Check.due("span: room again", many.span(500, 1, 2, 0), 0);
        Check.due("shifted with 40 lives", many.shifted(500, 1, 1), 0);
        Check.due("worthed with 40 lives", many.worthed(500, 2, 1), 0);
        Check.due("revived with 40 lives", many.revived(500, 3), 0);
        Check.due("unborn with 40 lives", many.unborn(500, 3), 0);
        Check.due("span: 39 lives", many.count(0), 39);
    }

    private static void died() {
        LateSet set = some();
        Check.due("died: out of bounds", set.died(1000, 0), 1);
        Check.due("died: out of bounds", set.died(-1, 0), 1);
        Check.due("died: out of bounds", set.died(20, 64), 1);
        Check.due("died: out of bounds", set.died(20, -1), 1);
        Check.due("died: none lives", set.died(40, 55), 2);
        Check.due("died: no such number", set.died(41, 60), 2);
        Check.due("died: at its death", set.died(30, 10), 2);
        Check.due("died(20, 33)", set.died(20, 33), 0);
        Check.due("died: the next life at its birth", set.died(30, 5), 0);
        Check.due("died: report", Words.report(set),
            "20 from 0 to 33 ; 30 from 0 to 5 worth 7 ; 40 from 56 on worth 9 ; ");
        set.lock(4);
        Check.due("died: locked", set.died(30, 3), 3);
        Check.due("died: no life ahead of locked", set.died(31, 3), 2);
        Check.due("died at the lock", set.died(30, 4), 0);
        Check.due("died: at 0, locked", set.died(30, 0), 3);
        set.lock(0);
        Check.due("died: at 0, gone", set.died(30, 0), 0);
        Check.due("died: lives", set.count(0), 2);
    }

    private static void unborn() {
        LateSet set = some();
        Check.due("unborn: out of bounds", set.unborn(1000, 0), 1);
        Check.due("unborn: out of bounds", set.unborn(20, 64), 1);
        Check.due("unborn: out of bounds", set.unborn(20, -1), 1);
        Check.due("unborn: none lives", set.unborn(40, 55), 2);
        set.lock(1);
        Check.due("unborn: locked", set.unborn(20, 63), 3);
        Check.due("unborn: later than the lock", set.unborn(40, 63), 0);
        set.lock(5);
        Check.due("unborn: the birth at the lock", set.unborn(30, 9), 0);
        Check.due("unborn: report", Words.report(set), "20 from 0 on ; 30 from 0 to 5 worth 7 ; ");
        set.lock(0);
        Check.due("unborn(30, 0)", set.unborn(30, 0), 0);
        Check.due("unborn(20, 0)", set.unborn(20, 0), 0);
        Check.due("unborn: none", set.count(0), 0);
    }

    private static void revived() {
        LateSet set = some();
        Check.due("revived: out of bounds", set.revived(1000, 5), 1);
        Check.due("revived: out of bounds", set.revived(30, 0), 1);
        Check.due("revived: out of bounds", set.revived(30, -1), 1);
        Check.due("revived: END is no hour", set.revived(20, 64), 1);
        Check.due("revived: no such death", set.revived(30, 9), 2);
        Check.due("revived: no such number", set.revived(31, 10), 2);
        Check.due("revived: a clash", set.revived(30, 5), 4);
        set.lock(11);
        Check.due("revived: locked", set.revived(30, 10), 3);
        Check.due("revived: locked ahead of a clash", set.revived(30, 5), 3);
        set.lock(10);
        Check.due("revived: no locked hour would change", set.revived(30, 5), 4);
        Check.due("revived(30, 10)", set.revived(30, 10), 0);
        Check.due("revived: report", Words.report(set), "20 from 0 on ; 30 from 0 to 5 worth 7 ; "
            + "30 from 5 on worth 10 ; 40 from 56 on worth 9 ; ");
        Check.due("revived again", set.revived(30, 10), 2);
        set.lock(END);
        Check.due("revived: all locked, all lived: a clash", set.revived(30, 5), 4);
        LateSet first = new LateSet();
        first.span(0, 0, 63, 0);
        Check.due("revived: the first life", first.revived(0, 63), 0);
    }

    private static void shifted() {
        LateSet set = some();
        int[][] wrong = {{1000, 0, 1}, {-1, 0, 1}, {30, -1, 1}, {30, 64, 1}, {30, 6, 0}, {30, 6, 64}, {30, 6, -64},
            {30, 6, Integer.MAX_VALUE}, {30, 6, Integer.MIN_VALUE}, {31, 6, 0}, {31, 6, 64},
            {31, 6, -64}};
        for (int[] w : wrong) {
            Check.due("shifted out of bounds", set.shifted(w[0], w[1], w[2]), 1);
        }
        Check.due("shifted: no life", set.shifted(30, 10, 63), 2);
        Check.due("shifted: no life", set.shifted(31, 0, -63), 2);
        Check.due("shifted: death above END", set.shifted(30, 9, 55), 1);
        Check.due("shifted: birth below 0", set.shifted(30, 9, -6), 1);
        Check.due("shifted: birth beyond", set.shifted(40, 63, 8), 1);
        Check.due("shifted: a clash", set.shifted(30, 9, -5), 4);
        Check.due("shifted: a clash of one hour", set.shifted(30, 0, 1), 4);
        Check.due("shifted past the other life", set.shifted(30, 0, 10), 0);
        Check.due("shifted: report", Words.report(set), "20 from 0 on ; 30 from 5 to 10 worth 10 ; "
            + "30 from 10 to 15 worth 7 ; 40 from 56 on worth 9 ; ");
        Check.due("shifted over itself", set.shifted(30, 9, -1), 0);
        Check.due("shifted: a death comes to END", set.shifted(30, 12, 49), 0);
        Check.due("shifted: that death stays", set.shifted(30, 60, -3), 0);
        Check.due("shifted: END stays", set.shifted(40, 60, 7), 0);
        Check.due("shifted: report", Words.report(set), "20 from 0 on ; 30 from 4 to 9 worth 10 ; "
            + "30 from 56 on worth 7 ; 40 from 63 on worth 9 ; ");
        set.lock(9);
        Check.due("shifted: locked", set.shifted(30, 8, 1), 3);
        set.lock(4);
        Check.due("shifted: to a locked hour", set.shifted(30, 8, -1), 3);
        Check.due("shifted: from the lock on", set.shifted(30, 8, 1), 0);
        Check.due("shifted: 1 ahead of locked", set.shifted(20, 8, -1), 1);
        Check.due("shifted: locked ahead of a clash", set.shifted(30, 60, -53), 3);
        set.lock(5);
        Check.due("shifted: no locked hour, a clash", set.shifted(30, 60, -51), 4);
        Check.due("shifted: by 63", set.shifted(20, 8, 63), 3);
        set.lock(0);
        Check.due("shifted: by 63", set.shifted(20, 8, 63), 0);
        Check.due("shifted: by -63", set.shifted(20, 63, -63), 0);
        Check.due("shifted: there", set.which(20, 0), 0);
    }

    private static void worthed() {
        LateSet set = some();
        int[][] wrong = {{1000, 0, 0}, {-1, 0, 0}, {20, 64, 0}, {20, -1, 0}, {20, 0, 100}, {20, 0, -1}};
        for (int[] w : wrong) {
            Check.due("worthed out of bounds", set.worthed(w[0], w[1], w[2]), 1);
        }
        Check.due("worthed: no life", set.worthed(40, 55, 1), 2);
        Check.due("worthed: the same", set.worthed(40, 60, 9), 6);
        Check.due("worthed(40, 60, 99)", set.worthed(40, 60, 99), 0);
        Check.due("worthed: of that hour's life", set.worthed(30, 5, 0), 0);
        set.lock(56);
        Check.due("worthed: the birth at the lock", set.worthed(40, 63, 1), 0);
        set.lock(57);
        Check.due("worthed: the birth is locked", set.worthed(40, 63, 2), 3);
        Check.due("worthed: locked ahead of the same", set.worthed(40, 63, 1), 3);
        Check.due("worthed: no life ahead of locked", set.worthed(41, 63, 1), 2);
        Check.due("worthed: report", Words.report(set),
            "20 from 0 on ; 30 from 0 to 5 worth 7 ; 30 from 5 to 10 ; 40 from 56 on worth 1 ; ");
        Check.due("worthed: edits", set.count(3), 7);
    }

    private static void lock() {
        LateSet set = new LateSet();
        Check.due("lock(5)", set.lock(5), 0);
        Check.due("lock(64)", set.lock(64), 5);
        Check.due("lock(65)", set.lock(65), NONE);
        Check.due("lock(-1)", set.lock(-1), NONE);
        Check.due("lock: no change by these", set.count(2), 64);
        Check.due("lock(0)", set.lock(0), 64);
        Check.due("lock is no edit", set.count(3), 0);
        Check.due("lock: undo()", set.undo(), NONE);
    }

    private static void undo() {
        LateSet set = new LateSet();
        set.lock(3);
        set.born(1, 5, 5);
        set.lock(4);
        set.worthed(1, 5, 6);
        set.lock(9);
        set.worthed(1, 5, 7);
        set.worthed(1, 60, 100);
        Check.due("undo: refused edits are none", set.count(3), 2);
        Check.due("undo()", set.undo(), 1);
        Check.due("undo: lock as it was", set.count(2), 4);
        Check.due("undo: worth as it was", set.life(0, 3), 5);
        Check.due("undo()", set.undo(), 0);
        Check.due("undo: lock as it was", set.count(2), 3);
        Check.due("undo: no lives", set.count(0), 0);
        Check.due("undo: no more", set.undo(), NONE);
        Check.due("undo: lock stays", set.count(2), 3);
        set.lock(0);
        for (int k = 0; k < 25; k++) {
            Check.due("undo: born", set.born(k, k, k), 0);
        }
        Check.due("undo: 20 at most", set.count(3), 20);
        for (int k = 19; k >= 0; k--) {
            Check.due("undo()", set.undo(), k);
            Check.due("undo: lives", set.count(0), k + 5);
        }
        Check.due("undo: the oldest five stay", set.undo(), NONE);
        Check.due("undo: lives", set.count(1), 5);
        set.unborn(2, 60);
        set.died(3, 10);
        set.shifted(4, 10, 5);
        set.revived(3, 10);
        Check.due("undo()", set.undo(), 3);
        Check.due("undo()", set.undo(), 2);
        Check.due("undo()", set.undo(), 1);
        Check.due("undo()", set.undo(), 0);
        Check.due("undo: report", Words.report(set),
            "0 from 0 on ; 1 from 1 on worth 1 ; 2 from 2 on worth 2 ; 3 from 3 on worth 3 ; 4 from 4 on worth 4 ; ");
    }

    private static void keep() {
        LateSet set = some();
        Check.due("keep: none such", set.keep(2, false), false);
        Check.due("keep: none such", set.keep(-1, false), false);
        Check.due("keep: none such", set.keep(2, true), false);
        Check.due("keep: none such", set.keep(-1, true), false);
        Check.due("keep: nothing in it", set.keep(1, true), false);
        set.lock(7);
        Check.due("keep(1, false)", set.keep(1, false), true);
        Check.due("keep: laid, edits stay", set.count(3), 4);
        Check.due("keep: nothing in the other", set.keep(0, true), false);
        Check.due("keep: edits stay", set.count(3), 4);
        set.lock(0);
        set.unborn(20, 0);
        String other = Words.report(set);
        set.keep(0, false);
        Words.feed(set, "a tape");
        Check.due("keep(1, true)", set.keep(1, true), true);
        Check.due("keep: lives", Words.report(set), Words.report(some()));
        Check.due("keep: lock", set.count(2), 7);
        Check.due("keep: nothing to take back", set.count(3), 0);
        Check.due("keep: undo()", set.undo(), NONE);
        Check.due("keep: the tape stays", set.count(4), 20);
        set.unborn(40, 60);
        Check.due("keep: undo()", set.undo(), 0);
        set.unborn(40, 60);
        Check.due("keep(0, true)", set.keep(0, true), true);
        Check.due("keep: lives", Words.report(set), other);
        Check.due("keep: lock", set.count(2), 0);
        Check.due("keep(1, true) again", set.keep(1, true), true);
        Check.due("keep: lives", Words.report(set), Words.report(some()));
        LateSet empty = new LateSet();
        Check.due("keep: no lives are laid too", empty.keep(0, false), true);
        empty.born(1, 1, 1);
        Check.due("keep: no lives", empty.keep(0, true), true);
        Check.due("keep: no lives", empty.count(0), 0);
    }

    private static void feed() {
        LateSet set = new LateSet();
        for (int k = 1; k <= 30; k++) {
            Check.due("feed", set.feed(0, -1, Integer.MIN_VALUE, 1, k), 20 * k);
        }
        Check.due("feed: 600 are there", set.feed(0, 0, 0, 0, 0), NONE);
        Check.due("feed: none came", set.count(4), 600);
        Check.due("feed: bytes are no tokens", set.text(600), -2);
        Check.due("feed: empty then", set.count(4), 0);
        // "abcd" is 0x61626364: the highest byte first, the numbers in order
        set.feed(0x37626f72, 0x6e203920, 0x776f7274, 0x68203b20, 0x33203b0a);
        Check.due("feed: order of bytes", set.text(20), -2 - 14);
        set.feed(0x37626f72, 0x6e203920, 0x776f7274, 0x68203320, 0x20203b0a);
        Check.due("feed: order of bytes", set.text(20), 1);
        Check.due("feed: order of bytes", Words.report(set), "7 from 9 on worth 3 ; ");
        Check.due("feed: a byte above 127", feedOnly(0x80000000), -2);
        Check.due("feed: a byte 255", feedOnly(0x203bff20), -2 - 1);
    }

    private static int feedOnly(int first) {
        LateSet set = new LateSet();
        set.feed(first, 0, 0, 0, 0);
        return set.text(20);
    }

    private static void text() {
        LateSet set = new LateSet();
        Check.due("text: not so many", set.text(1), NONE);
        Check.due("text(0)", set.text(0), 0);
        Check.due("text(0) ran", set.ran(0), 0);
        Words.feed(set, "lock 5;");
        Check.due("text: below 0", set.text(-1), NONE);
        Check.due("text: below 0", set.text(Integer.MIN_VALUE), NONE);
        Check.due("text: too many", set.text(21), NONE);
        Check.due("text: the tape stays", set.count(4), 20);
        Check.due("text(7)", set.text(7), 1);
        Check.due("text: the tape is empty", set.count(4), 0);
        Check.due("text: lock", set.count(2), 5);
        Check.due("text of blanks", Words.text(set, " \n  \n"), 0);
        Check.due("text: all kinds", Words.text(set, "lock 0 ; 5 born 8 worth 3 ; 6 born 7;\n"
            + "7from1to64worth99;8from3to9;8dies5;8unborn4;7dies9;7revives9;6shifts8by3;6shifts10by-8;"
            + "5 worth 44 at 9;undo"
            + ";"), 13);
        Check.due("text: report", Words.report(set),
            "5 from 8 on worth 3 ; 6 from 2 on ; 7 from 1 on worth 99 ; ");
        Check.due("text: left out", Words.text(set, "1 born 64; 999 born 0; 999 born 0; lock 65; lock 64; "
            + "998 born 0; lock 0; 5 dies 7; 5 dies 8; 6 shifts 9 by 0; 6 shifts 9 by - 0; 6 worth 0 at 3;"), 4);
        Check.due("text: ran lines", set.ran(0), 12);
        Check.due("text: ran left out", set.ran(1), 8);
        Check.due("text: report", Words.report(set), "6 from 2 on ; 7 from 1 on worth 99 ; 999 from 0 on ; ");
        Check.due("text: undo goes back behind the text", Words.text(set, "undo;undo;undo;undo;undo;"), 5);
        Check.due("text: edits", set.count(3), 7);
        LateSet many = new LateSet();
        StringBuilder undos = new StringBuilder();
        for (int k = 0; k < 120; k++) {
            undos.append("undo;");
        }
        Check.due("text: 120 lines", Words.text(many, undos.toString()), 0);
        Check.due("text: 120 lines ran", many.ran(0), 120);
        Words.feed(many, "1 born 2; 3 born 4; x");
        Check.due("text: the first bytes alone", many.text(9), 1);
        Check.due("text: the first bytes alone", many.count(0), 1);
    }

    private static void textFaults() {
        String[] texts = {"x", ";", "lock", "lock ", "lock lock", "lock 5", "lock 5 5", "undo 5", "undo",
            "5", "5 5", "5 lock 3;", "5 bornn 3;", "5 born ;", "5 born 3 4;", "5 born 3 worth;",
            "5 from 3 4;", "5 from 3 to;", "5 from 3 to 4 5;", "5 from 3 to 4 worth 5 6;",
            "5 dies;", "5 dies 3 worth 3;", "5 unborn - 3;", "5 revives by;", "5 shifts 5;",
            "5 shifts 5 by -;", "5 shifts 5 by + 3;", "5 shifts 5 by - - 3;", "5 worth 5;", "5 worth 5 at;",
            "5 worth 5 at 6", "1234 born 5;", "5 born 1000;", "5 born 3; Undo;", "undo;;", "undo\t;",
            "abcdefgh", "undo; revivess", "undoundo;", "undoz;", "aundo;", "lives where 1 = 1", "5 born 3 worth 1234 ?",
            "5 born worth ?", "undo;#", "-5 born 3;", "(undo);", "5 born 3,", "5born3worth5a;", "lock 12345678"};
        int[] places = {0, 0, 4, 5, 5, 6, 7, 5, 4,
            1, 2, 2, 2, 7, 9, 14,
            9, 11, 14, 22,
            6, 9, 9, 10, 10,
            15, 14, 16, 9, 12,
            14, 0, 7, 10, 5, 4,
            0, 6, 0, 0, 0, 0, 15,
            7, 5, 0, 0, 8, 12, 5};
        for (int i = 0; i < texts.length; i++) {
            LateSet set = some();
            Check.due("text: fault of " + texts[i], Words.text(set, texts[i]), -2 - places[i]);
            Check.due("text: nothing done", Words.report(set), Words.report(some()));
            Check.due("text: the tape is empty", set.count(4), 0);
            Check.due("text: nothing ran", set.ran(0), NONE);
        }
        LateSet set = new LateSet();
        Check.due("text: nothing is done ahead of a fault", Words.text(set, "5 born 3; lock 4; lock"), -2 - 22);
        Check.due("text: nothing is done", set.count(0) + set.count(2), 0);
        StringBuilder blanks = new StringBuilder();
        for (int k = 0; k < 600; k++) {
            blanks.append(' ');
        }
        blanks.setCharAt(599, '?');
        Check.due("text: a fault at the last byte", Words.text(set, blanks.toString()), -2 - 599);
        blanks.setCharAt(0, '5');
        blanks.setCharAt(599, ' ');
        Check.due("text: a fault at the end", Words.text(set, blanks.toString()), -2 - 600);
        String signs = blanks.toString().replaceAll("[ 5]", ";");
        Check.due("text: 600 tokens", Words.text(set, signs), -2);
        Check.due("ask: 600 tokens", Words.ask(set, signs), Words.fault(0, 1));
    }

    private static void ran() {
        LateSet set = new LateSet();
        Check.due("ran ahead of any", set.ran(0), NONE);
        Words.text(set, "lock");
        for (int what = -1; what <= 4; what++) {
            Check.due("ran ahead of any", set.ran(what), NONE);
        }
        ranIs(set, "undo;", 1, 1, 0, 2);
        ranIs(set, "lock 65;", 1, 1, 0, 1);
        ranIs(set, "5 born 3; lock 2; undo;", 3, 0, NONE, 0);
        ranIs(set, "5 born 3; 5 born 3; undo; undo;", 4, 2, 1, 4);
        ranIs(set, "6 dies 3; 5 born 3; 5 born 64;", 3, 2, 0, 2);
        ranIs(set, "5 worth 0 at 3; 5 born 64;", 2, 2, 0, 6);
        ranIs(set, "lock 4; 5 dies 3;", 2, 1, 1, 3);
        ranIs(set, "5 revives 0;", 1, 1, 0, 1);
        Words.text(set, "undo; undo");
        Check.due("ran: a text with a fault is none", set.ran(3), 1);
        set.text(99);
        Check.due("ran: no text is none", set.ran(3), 1);
        Check.due("ran(4)", set.ran(4), NONE);
        Check.due("ran(-1)", set.ran(-1), NONE);
        ranIs(set, "", 0, 0, NONE, 0);
        set.lock(0);
        for (int k = 0; k < 40; k++) {
            set.span(900, k, k + 1, 0);
        }
        ranIs(set, "1 born 1;", 1, 1, 0, 5);
    }

    private static void ranIs(LateSet set, String text, int lines, int leftOut, int first, int why) {
        Check.due("ran: " + text, Words.text(set, text), lines - leftOut);
        Check.due("ran(0) of " + text, set.ran(0), lines);
        Check.due("ran(1) of " + text, set.ran(1), leftOut);
        Check.due("ran(2) of " + text, set.ran(2), first);
        Check.due("ran(3) of " + text, set.ran(3), why);
    }

    private static void askOfLives() {
        LateSet set = some();
        Check.due("ask: not so many", set.ask(1), NONE);
        Check.due("ask: below 0", set.ask(-1), NONE);
        Words.feed(set, "lives where 1 = 1 and");
        Check.due("ask: not so many", set.ask(41), NONE);
        Check.due("ask: the tape stays", set.count(4), 40);
        Check.due("ask: the first bytes", set.ask(17), 4);
        Check.due("ask: the tape is empty", set.count(4), 0);
        askIs(set, "lives where number = 30", 2);
        askIs(set, "worth where number = 30", 17);
        askIs(set, "lives where birth = 0", 2);
        askIs(set, "lives where death = 64", 2);
        askIs(set, "lives where long = 5", 2);
        askIs(set, "lives where long < 9", 3);
        askIs(set, "worth where worth > 7", 19);
        askIs(set, "lives where worth = 0", 1);
        askIs(set, "lives where pieces = 1", 2);
        askIs(set, "lives where pieces = 2", 1);
        askIs(set, "lives where pieces = 3", 1);
        askIs(set, "lives where number + birth - death < 0 - 20", 1);
        askIs(set, "lives where number - birth - death = 15", 1);
        askIs(set, "worth where not number = 30 and worth > 0", 9);
        askIs(set, "lives where not ( number = 30 and worth > 7 )", 3);
        askIs(set, "lives where number = 20 or number = 30 and worth = 7", 2);
        askIs(set, "lives where ( number = 20 or number = 30 ) and worth = 7", 1);
        askIs(set, "lives where number = 30 and worth = 7 or number = 20", 2);
        askIs(set, "lives where not not number = 20", 1);
        askIs(set, "lives\nwhere(birth<death)and not(5=birth)", 3);
        askIs(set, "worth where 999 < 1", 0);
        askIs(set, "worth where 1 > 999 or 0 = 000", 26);
        askIs(new LateSet(), "lives where 1 = 1", 0);
        askIs(new LateSet(), "worth where 1 = 1", 0);
    }

    private static void askOfHours() {
        LateSet set = some();
        askIs(set, "hours where 0 = 0", 64);
        askIs(set, "run where 0 = 0", 64);
        askIs(set, "run where 0 = 1", 0);
        askIs(set, "hours where count = 2", 18);
        askIs(set, "run where count = 2", 10);
        askIs(set, "run where count = 1", 46);
        askIs(set, "hours where hour < 3 or hour > 60", 6);
        askIs(set, "run where hour < 2 or hour > 60", 3);
        askIs(set, "hours where sum = 7", 5);
        askIs(set, "hours where sum > 8", 13);
        askIs(set, "hours where least = 20", 64);
        askIs(set, "hours where most = 30", 10);
        askIs(set, "hours where most = 20", 46);
        askIs(set, "hours where most - least = 20", 8);
        askIs(set, "hours where count + sum + hour = 9", 1);
        LateSet empty = new LateSet();
        askIs(empty, "hours where least = 0 - 1", 64);
        askIs(empty, "hours where most + 1 = 0", 64);
        askIs(empty, "hours where count = 0 and sum = 0", 64);
        empty.born(0, 60, 5);
        askIs(empty, "hours where least = 0 and most = 0 and sum = 5", 4);
        StringBuilder longest = new StringBuilder("run where 1=2");
        while (longest.length() + 5 <= 600) {
            longest.append("or1=2");
        }
        longest.setLength(longest.length() - 3);
        longest.append("1=1");
        askIs(empty, longest.toString(), 64);
    }

    private static void askIs(LateSet set, String question, int answer) {
        Check.due("ask: " + question, Words.ask(set, question), answer);
    }

    private static void askFaults() {
        Object[][] faults = {
            {"", 0, 1}, {"   ", 3, 1}, {"lives", 5, 1}, {"lives ", 6, 1}, {"lives where", 11, 1},
            {"live where", 0, 1}, {"number where 1 = 1", 0, 1}, {"where", 0, 1}, {"lives when 1 = 1", 6, 1},
            {"lives where 1", 13, 1}, {"lives where 1 =", 15, 1}, {"lives where 1 = 1 =", 18, 1},
            {"lives where 1 = 1 ;", 18, 1}, {"lives where 1 = 1 )", 18, 1}, {"lives where 1 = 1 2", 18, 1},
            {"lives where hour = 1", 12, 1}, {"worth where count = 1", 12, 1}, {"hours where birth = 1", 12, 1},
            {"run where 1 = worth", 14, 1}, {"hours where sum = most and pieces = 1", 27, 1},
            {"lives where + 1 = 1", 12, 1}, {"lives where - 1 = 1", 12, 1}, {"lives where ( 1 + 2 ) = 3", 20, 1},
            {"lives where ( 1 = 1", 19, 1}, {"lives where () 1 = 1", 13, 1}, {"lives where not", 15, 1},
            {"lives where not and", 16, 1}, {"lives where 1 = 1 and", 21, 1}, {"lives where 1 = 1 or or", 21, 1},
            {"lives where 1 == 1", 15, 1}, {"lives where 1 = 1000", 16, 1}, {"lives where 1 = 1 # 2", 18, 1},
            {"lives where numbers = 1", 12, 1}, {"lives where numberss = 1", 12, 1}, {"lives where born = 1", 12, 1},
            {"lives where 1 = 1 not 1 = 1", 18, 1}, {"lives where 1 and 1 = 1", 14, 1},
            {"lives where not not not not not not 1 = 1", 32, 2}, {"lives where ((((((1 = 1", 17, 2},
            {"lives where (not(not(not 1 = 1", 21, 2}, {"lives where not ((((( ?", 20, 2},
            {"lives where ((((( ? (", 18, 1}, {"lives where (((((1 = 1)))) not", 27, 1},
            {"lives where (((((1 = 1))))) (", 28, 1}, {"lives where not not not not not not", 32, 2},
            {"lives where (((((1 = 1 (", 23, 1}, {"Lives where 1 = 1", 0, 1}, {"lives where 1\t= 1", 13, 1}};
        LateSet set = some();
        for (Object[] fault : faults) {
            String question = (String) fault[0];
            int due = Words.fault((Integer) fault[1], (Integer) fault[2]);
            Check.due("ask: fault of " + question, Words.ask(set, question), due);
            Check.due("ask: the tape is empty", set.count(4), 0);
        }
        askIs(set, "lives where not not not not not 1 = 2", 4);
        askIs(set, "lives where (((((1 = 1)))))", 4);
        askIs(set, "lives where not not 1 = 1 and (((((1 = 1))))) and not not not not not 1 = 2", 4);
        askIs(set, "lives where ((((not 1 = 2 and not 1 = 2) or (1 = 1)) and not 1 = 2))", 4);
        Check.due("ask: nothing ran", set.ran(0), NONE);
    }

    private static void report() {
        LateSet set = new LateSet();
        Check.due("report(-1)", set.report(-1), 0);
        Check.due("report(0)", set.report(0), ABSENT);
        Check.due("report(-2)", set.report(-2), NONE);
        Check.due("report below", set.report(Integer.MIN_VALUE), NONE);
        set.span(7, 9, 10, 5);
        set.span(105, 0, 64, 0);
        set.span(90, 62, 63, 99);
        set.span(0, 10, 11, 10);
        set.span(100, 20, 21, 1);
        String due = "0 from 10 to 11 worth 10 ; 7 from 9 to 10 worth 5 ; 90 from 62 to 63 worth 99 ; "
            + "100 from 20 to 21 worth 1 ; 105 from 0 on ; ";
        Check.due("report", Words.report(set), due);
        Check.due("report: at its end", set.report(due.length()), ABSENT);
        Check.due("report: beyond", set.report(Integer.MAX_VALUE), ABSENT);
        LateSet longest = new LateSet();
        for (int k = 0; k < 40; k++) {
            longest.span(999 - k, 10, 63, 99);
        }
        Check.due("report: the longest", longest.report(-1), 40 * 29);
        Check.due("report: the longest's last blank", longest.report(40 * 29 - 1), ' ');
        Check.due("report: the longest's first digit", longest.report(0), '9');
        LateSet again = new LateSet();
        Words.text(again, Words.report(some()).replace(" on", " to 64"));
        Check.due("report: told again", Words.report(again), Words.report(some()));
    }

    private static void count() {
        LateSet set = some();
        set.lock(2);
        Words.feed(set, "x");
        int[] due = {4, 3, 2, 4, 20, 1 + 2 + 3 + 1};
        for (int what = 0; what < due.length; what++) {
            Check.due("count(" + what + ")", set.count(what), due[what]);
        }
        Check.due("count(6)", set.count(6), NONE);
        Check.due("count(-1)", set.count(-1), NONE);
        set.unborn(30, 5);
        Check.due("count(1)", set.count(1), 3);
        set.lock(0);
        set.unborn(30, 4);
        Check.due("count(1)", set.count(1), 2);
    }

    private static void life() {
        LateSet set = some();
        int[][] due = {{20, 0, 64, 0, 1}, {30, 0, 5, 7, 2}, {30, 5, 10, 10, 3}, {40, 56, 64, 9, 1}};
        for (int k = 0; k < due.length; k++) {
            for (int what = 0; what < 5; what++) {
                Check.due("life(" + k + ", " + what + ")", set.life(k, what), due[k][what]);
            }
            Check.noSuchLife(set, k, 5);
            Check.noSuchLife(set, k, -1);
        }
        Check.noSuchLife(set, 4, 0);
        Check.noSuchLife(set, -1, 0);
        Check.noSuchLife(set, Integer.MAX_VALUE, Integer.MIN_VALUE);
        Check.noSuchLife(new LateSet(), 0, 0);
    }

    private static void which() {
        LateSet set = some();
        Check.due("which(20, 63)", set.which(20, 63), 0);
        Check.due("which(30, 4)", set.which(30, 4), 1);
        Check.due("which(30, 5)", set.which(30, 5), 2);
        Check.due("which(30, 10)", set.which(30, 10), ABSENT);
        Check.due("which(40, 55)", set.which(40, 55), ABSENT);
        Check.due("which(40, 56)", set.which(40, 56), 3);
        Check.due("which(41, 56)", set.which(41, 56), ABSENT);
        Check.due("which(1000, 0)", set.which(1000, 0), NONE);
        Check.due("which(-1, 0)", set.which(-1, 0), NONE);
        Check.due("which(0, 64)", set.which(0, 64), NONE);
        Check.due("which(0, -1)", set.which(0, -1), NONE);
    }

    private static void atAnHour() {
        LateSet set = some();
        Check.due("alive(4)", set.alive(4), 2);
        Check.due("alive(10)", set.alive(10), 1);
        Check.due("alive(64)", set.alive(64), NONE);
        Check.due("alive(-1)", set.alive(-1), NONE);
        Check.due("next(0, 5)", set.next(0, 5), 20);
        Check.due("next(20, 5)", set.next(20, 5), 20);
        Check.due("next(21, 5)", set.next(21, 5), 30);
        Check.due("next(21, 10)", set.next(21, 10), ABSENT);
        Check.due("next(31, 63)", set.next(31, 63), 40);
        Check.due("next(999, 63)", set.next(999, 63), ABSENT);
        Check.due("before(999, 63)", set.before(999, 63), 40);
        Check.due("before(40, 63)", set.before(40, 63), 40);
        Check.due("before(39, 63)", set.before(39, 63), 20);
        Check.due("before(39, 5)", set.before(39, 5), 30);
        Check.due("before(19, 5)", set.before(19, 5), ABSENT);
        Check.due("before(0, 5)", set.before(0, 5), ABSENT);
        Check.due("rank(0, 5)", set.rank(0, 5), 0);
        Check.due("rank(20, 5)", set.rank(20, 5), 0);
        Check.due("rank(21, 5)", set.rank(21, 5), 1);
        Check.due("rank(999, 60)", set.rank(999, 60), 2);
        Check.due("kth(5, 0)", set.kth(5, 0), 20);
        Check.due("kth(5, 1)", set.kth(5, 1), 30);
        Check.due("kth(5, 2)", set.kth(5, 2), ABSENT);
        Check.due("kth(60, 1)", set.kth(60, 1), 40);
        Check.due("kth(5, -1)", set.kth(5, -1), NONE);
        Check.due("kth(64, 0)", set.kth(64, 0), NONE);
        Check.due("kth(-1, 0)", set.kth(-1, 0), NONE);
        Check.due("kth beyond", set.kth(5, Integer.MAX_VALUE), ABSENT);
        int[][] wrong = {{-1, 0}, {1000, 0}, {0, -1}, {0, 64}, {Integer.MAX_VALUE, Integer.MIN_VALUE}};
        for (int[] w : wrong) {
            Check.due("next out of bounds", set.next(w[0], w[1]), NONE);
            Check.due("before out of bounds", set.before(w[0], w[1]), NONE);
            Check.due("rank out of bounds", set.rank(w[0], w[1]), NONE);
        }
    }

    private static void sum() {
        LateSet set = some();
        Check.due("sum(4, 0, 999)", set.sum(4, 0, 999), 7);
        Check.due("sum(5, 0, 999)", set.sum(5, 0, 999), 10);
        Check.due("sum(5, 30, 30)", set.sum(5, 30, 30), 10);
        Check.due("sum(5, 0, 29)", set.sum(5, 0, 29), 0);
        Check.due("sum(5, 31, 999)", set.sum(5, 31, 999), 0);
        set.worthed(20, 0, 50);
        Check.due("sum(5, 20, 30)", set.sum(5, 20, 30), 60);
        Check.due("sum(60, 20, 40)", set.sum(60, 20, 40), 59);
        Check.due("sum(60, 20, 39)", set.sum(60, 20, 39), 50);
        int[][] wrong = {{-1, 0, 0}, {64, 0, 0}, {0, -1, 0}, {0, 1000, 1000}, {0, 0, 1000}, {0, 0, -1}, {0, 2, 1}};
        for (int[] w : wrong) {
            Check.due("sum out of bounds", set.sum(w[0], w[1], w[2]), NONE);
        }
    }

    private static void gap() {
        LateSet set = some();
        Check.due("gap: one lives", set.gap(10), ABSENT);
        LateSet near = new LateSet();
        near.born(0, 0, 0);
        near.born(1, 0, 0);
        near.born(2, 0, 0);
        Check.due("gap: all are one apart", near.gap(0), 0);
        Check.due("gap: none lives", new LateSet().gap(10), ABSENT);
        Check.due("gap(5)", set.gap(5), 20);
        Check.due("gap(64)", set.gap(64), NONE);
        Check.due("gap(-1)", set.gap(-1), NONE);
        set.span(40, 0, 6, 0);
        Check.due("gap: the first such", set.gap(5), 20);
        set.span(51, 0, 5, 0);
        Check.due("gap: the wider one", set.gap(4), 40);
        Check.due("gap: then alone", set.gap(5), 20);
        set.born(0, 5, 0);
        Check.due("gap: from 0", set.gap(5), 0);
        set.born(999, 5, 0);
        Check.due("gap: to 999", set.gap(5), 40);
    }

    private static void changes() {
        LateSet set = some();
        Check.due("changes(0, 0)", set.changes(0, 0), 2);
        Check.due("changes(0, 1)", set.changes(0, 1), 0);
        Check.due("changes(5, 0)", set.changes(5, 0), 1);
        Check.due("changes(5, 1)", set.changes(5, 1), 1);
        Check.due("changes(64, 0)", set.changes(64, 0), 0);
        Check.due("changes(64, 1)", set.changes(64, 1), 2);
        Check.due("changes(56, 0)", set.changes(56, 0), 1);
        int[][] wrong = {{-1, 0}, {65, 1}, {5, 2}, {5, -1}};
        for (int[] w : wrong) {
            Check.due("changes out of bounds", set.changes(w[0], w[1]), NONE);
        }
    }

    private static void overHours() {
        LateSet set = some();
        Check.due("always(0, 0, 63)", set.always(0, 0, 63), 20);
        Check.due("always(21, 0, 9)", set.always(21, 0, 9), 30);
        Check.due("always(30, 4, 5)", set.always(30, 4, 5), 30);
        Check.due("always(21, 9, 10)", set.always(21, 9, 10), ABSENT);
        Check.due("always(31, 56, 63)", set.always(31, 56, 63), 40);
        Check.due("always(31, 55, 63)", set.always(31, 55, 63), ABSENT);
        Check.due("always(41, 0, 0)", set.always(41, 0, 0), ABSENT);
        Check.due("ever(0, 5, 5)", set.ever(0, 5, 5), 20);
        Check.due("ever(21, 9, 60)", set.ever(21, 9, 60), 30);
        Check.due("ever(21, 10, 60)", set.ever(21, 10, 60), 40);
        Check.due("ever(21, 10, 55)", set.ever(21, 10, 55), ABSENT);
        Check.due("ever(21, 10, 56)", set.ever(21, 10, 56), 40);
        Check.due("ever(30, 0, 0)", set.ever(30, 0, 0), 30);
        int[][] wrong = {{-1, 0, 0}, {1000, 0, 0}, {0, -1, 0}, {0, 0, 64}, {0, 64, 64}, {0, 5, 4}};
        for (int[] w : wrong) {
            Check.due("always out of bounds", set.always(w[0], w[1], w[2]), NONE);
            Check.due("ever out of bounds", set.ever(w[0], w[1], w[2]), NONE);
        }
        Check.due("both(20, 30)", set.both(20, 30), 10);
        Check.due("both(30, 20)", set.both(30, 20), 10);
        Check.due("both(30, 30)", set.both(30, 30), 10);
        Check.due("both(20, 20)", set.both(20, 20), 64);
        Check.due("both(30, 40)", set.both(30, 40), 0);
        Check.due("both(20, 21)", set.both(20, 21), 0);
        Check.due("both(0, 1000)", set.both(0, 1000), NONE);
        Check.due("both(-1, 0)", set.both(-1, 0), NONE);
        Check.due("both(1000, 0)", set.both(1000, 0), NONE);
    }

    private static void reigns() {
        LateSet set = some();
        Check.due("reigns(0, 20)", set.reigns(0, 20), 64);
        Check.due("reigns(0, 30)", set.reigns(0, 30), 0);
        Check.due("reigns(20, 30)", set.reigns(20, 30), 10);
        Check.due("reigns(20, 40)", set.reigns(20, 40), 8);
        Check.due("reigns(29, 30)", set.reigns(29, 30), 10);
        Check.due("reigns(30, 30)", set.reigns(30, 30), 0);
        Check.due("reigns(30, 20)", set.reigns(30, 20), 0);
        Check.due("reigns(25, 40)", set.reigns(25, 40), 8);
        Check.due("reigns(999, 999)", set.reigns(999, 999), 0);
        set.span(35, 60, 62, 0);
        Check.due("reigns: another between", set.reigns(20, 40), 6);
        Check.due("reigns(0, 1000)", set.reigns(0, 1000), NONE);
        Check.due("reigns(1000, 0)", set.reigns(1000, 0), NONE);
        Check.due("reigns(0, -1)", set.reigns(0, -1), NONE);
        Check.due("reigns(-1, 0)", set.reigns(-1, 0), NONE);
    }

    private static void crowd() {
        LateSet set = new LateSet();
        for (int what = 0; what < 4; what++) {
            Check.due("crowd of none", set.crowd(what), 0);
        }
        Check.due("crowd(4)", set.crowd(4), NONE);
        Check.due("crowd(-1)", set.crowd(-1), NONE);
        set.span(5, 3, 9, 0);
        Check.due("crowd(0)", set.crowd(0), 3);
        Check.due("crowd(1)", set.crowd(1), 1);
        Check.due("crowd(2)", set.crowd(2), 0);
        Check.due("crowd(3)", set.crowd(3), 0);
        set.span(6, 8, 12, 4);
        set.span(7, 63, 64, 5);
        Check.due("crowd(0)", set.crowd(0), 8);
        Check.due("crowd(1)", set.crowd(1), 2);
        Check.due("crowd(2)", set.crowd(2), 63);
        Check.due("crowd(3)", set.crowd(3), 5);
        set.born(0, 63, 2);
        Check.due("crowd: 0 is a number too", set.crowd(3), 7);
        set.unborn(0, 63);
        set.worthed(5, 3, 1);
        Check.due("crowd: the first such", set.crowd(2), 8);
        Check.due("crowd(3)", set.crowd(3), 5);
    }

    private static void cover() {
        LateSet set = new LateSet();
        set.born(30, 5, 0);
        int[] hours = {5, 6, 7, 8, 15, 16, 31, 32, 63};
        int[] due = {69, 35, 35, 9, 9, 5, 5, 3, 3};
        for (int i = 0; i < hours.length; i++) {
            Check.due("cover(30, " + hours[i] + ")", set.cover(30, hours[i]), due[i]);
        }
        Check.due("cover(30, 4)", set.cover(30, 4), ABSENT);
        Check.due("cover(31, 5)", set.cover(31, 5), ABSENT);
        Check.due("cover(1000, 5)", set.cover(1000, 5), NONE);
        Check.due("cover(-1, 5)", set.cover(-1, 5), NONE);
        Check.due("cover(30, 64)", set.cover(30, 64), NONE);
        Check.due("cover(30, -1)", set.cover(30, -1), NONE);
        set.born(20, 0, 0);
        Check.due("cover of all", set.cover(20, 63), 1);
        set.span(21, 1, 63, 0);
        Check.due("cover(21, 1)", set.cover(21, 1), 65);
        Check.due("cover(21, 62)", set.cover(21, 62), 126);
        Check.due("cover(21, 31)", set.cover(21, 31), 5);
        Check.due("cover(21, 32)", set.cover(21, 32), 6);
        Check.due("cover: the most pieces", set.life(1, 4), 10);
        set.span(22, 63, 64, 0);
        Check.due("cover(22, 63)", set.cover(22, 63), 127);
        LateSet two = some();
        Check.due("cover of each life alone", two.cover(30, 4), 68);
        Check.due("cover of each life alone", two.cover(30, 5), 69);
    }

    private static void pieces() {
        LateSet set = some();
        Check.due("on(1)", set.on(1), 1);
        Check.due("on(2)", set.on(2), 0);
        Check.due("on(15)", set.on(15), 1);
        Check.due("on(16)", set.on(16), 1);
        Check.due("on(127)", set.on(127), 0);
        Check.due("on(0)", set.on(0), NONE);
        Check.due("on(128)", set.on(128), NONE);
        Check.due("on(-5)", set.on(-5), NONE);
        set.span(10, 0, 4, 0);
        set.span(999, 0, 7, 0);
        Check.due("on(16)", set.on(16), 3);
        Check.due("onAt(16, 0)", set.onAt(16, 0), 10);
        Check.due("onAt(16, 1)", set.onAt(16, 1), 30);
        Check.due("onAt(16, 2)", set.onAt(16, 2), 999);
        Check.due("onAt(16, 3)", set.onAt(16, 3), ABSENT);
        Check.due("onAt(16, -1)", set.onAt(16, -1), NONE);
        Check.due("onAt(0, 0)", set.onAt(0, 0), NONE);
        Check.due("onAt(128, 0)", set.onAt(128, 0), NONE);
        Check.due("onAt(127, 0)", set.onAt(127, 0), ABSENT);
        Check.due("onAt beyond", set.onAt(16, Integer.MAX_VALUE), ABSENT);
        set.span(0, 63, 64, 0);
        Check.due("onAt(127, 0)", set.onAt(127, 0), 0);
    }

    private static void nothingStaysOfTheGone() {
        LateSet set = new LateSet();
        set.born(5, 0, 3);
        set.span(9, 0, 64, 4);
        set.unborn(9, 0);
        Check.due("gone: count(0)", set.count(0), 1);
        Check.due("gone: count(1)", set.count(1), 1);
        Check.due("gone: count(5)", set.count(5), 1);
        Check.due("gone: which", set.which(9, 0), ABSENT);
        Check.due("gone: died", set.died(9, 5), 2);
        Check.due("gone: alive", set.alive(0), 1);
        Check.due("gone: next", set.next(6, 0), ABSENT);
        Check.due("gone: before", set.before(999, 0), 5);
        Check.due("gone: rank", set.rank(999, 0), 1);
        Check.due("gone: kth", set.kth(0, 1), ABSENT);
        Check.due("gone: sum", set.sum(0, 0, 999), 3);
        Check.due("gone: gap", set.gap(0), ABSENT);
        Check.due("gone: changes", set.changes(0, 0), 1);
        Check.due("gone: changes", set.changes(64, 1), 1);
        Check.due("gone: always", set.always(6, 0, 63), ABSENT);
        Check.due("gone: ever", set.ever(6, 0, 63), ABSENT);
        Check.due("gone: both", set.both(9, 9), 0);
        Check.due("gone: reigns", set.reigns(5, 9), 0);
        Check.due("gone: crowd", set.crowd(1), 1);
        Check.due("gone: crowd", set.crowd(3), 3);
        Check.due("gone: on", set.on(1), 1);
        Check.due("gone: onAt", set.onAt(1, 1), ABSENT);
        Check.due("gone: cover", set.cover(9, 0), ABSENT);
        Check.due("gone: report", Words.report(set), "5 from 0 on worth 3 ; ");
        Check.noSuchLife(set, 1, 0);
        askIs(set, "lives where 1 = 1", 1);
        askIs(set, "hours where most = 9", 0);
        set.span(4, 0, 9, 0);
        set.died(4, 9);
        set.died(4, 0);
        Check.due("gone: revived", set.revived(4, 9), 2);
    }
}
