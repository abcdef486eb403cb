/** The example of README.md. */
public final class Example {
    public static void main(String[] args) {
        LateSet set = new LateSet();
        tell("30 is born at 5, of worth 10", set.born(30, 5, 10));
        tell("30 dies at 20", set.died(30, 20));
        tell("40 lived from 8 to 16, told late", set.span(40, 8, 16, 4));
        tell("30 is born again at 12: a clash", set.born(30, 12, 0));
        tell("who lives at 10, 31 or above", set.next(31, 10));
        tell("who lives at 16, 31 or above: none", set.next(31, 16));
        tell("the piece that covers hour 10 for 40", set.cover(40, 10));

        tell("hours below 10 are locked: lock was", set.lock(10));
        tell("30 dies at 8: locked", set.died(30, 8));
        tell("done of a text", set.text(feed(set, "50 born 10 worth 3 ; 40 dies 9 ; 30 dies 12 ;")));
        tell("left out of it", set.ran(1));
        tell("the first that was left out", set.ran(2));
        tell("why", set.ran(3));

        tell("hours with more than one", set.ask(feed(set, "hours where count > 1")));
        tell("worths of some", set.ask(feed(set, "worth where long < 9 and not number = 50")));
        tell("a fault: hour is no field of lives", set.ask(feed(set, "lives where hour = 1")));

        tell("the latest edit is taken back, left", set.undo());
        System.out.println(report(set));
    }

    private static void tell(String what, int answer) {
        System.out.println(what + ": " + answer);
    }

    /** Brings words onto the tape, twenty bytes a call, filled up with blanks: how many bytes they have. */
    private static int feed(LateSet set, String words) {
        for (int i = 0; i < words.length(); i += 20) {
            set.feed(four(words, i), four(words, i + 4), four(words, i + 8), four(words, i + 12), four(words, i + 16));
        }
        return words.length();
    }

    private static int four(String words, int from) {
        int four = 0;
        for (int i = from; i < from + 4; i++) {
            four = four << 8 | (i < words.length() ? words.charAt(i) : ' ');
        }
        return four;
    }

    private static String report(LateSet set) {
        StringBuilder report = new StringBuilder();
        int bytes = set.report(LateSet.NONE);
        for (int i = 0; i < bytes; i++) {
            report.append((char) set.report(i));
        }
        return report.toString();
    }
}
