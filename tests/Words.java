/** Brings words onto THE TAPE and reads reports off an object. */
final class Words {
    private Words() {
    }

    /** Feeds the words, filled up with blanks to twenties of bytes: how many bytes they have. */
    static int feed(LateSet set, String words) {
        for (int from = 0; from < words.length(); from += 20) {
            set.feed(four(words, from), four(words, from + 4), four(words, from + 8),
                four(words, from + 12), four(words, from + 16));
        }
        return words.length();
    }

    static int text(LateSet set, String words) {
        return set.text(feed(set, words));
    }

    static int ask(LateSet set, String words) {
        return set.ask(feed(set, words));
    }

    /** What ask() answers for a FAULT. */
    static int fault(int place, int kind) {
        return -2 - (2 * place + kind);
    }

    static String report(LateSet set) {
        StringBuilder told = new StringBuilder();
        int length = set.report(-1);
        for (int i = 0; i < length; i++) {
            told.append((char) set.report(i));
        }
        return told.toString();
    }

    /** LIVES as life() tells them: "NUMBER BIRTH-DEATH wWORTH, ..". */
    static String lives(LateSet set) {
        StringBuilder told = new StringBuilder();
        int lives = set.count(0);
        for (int k = 0; k < lives; k++) {
            told.append(k == 0 ? "" : ", ").append(set.life(k, 0)).append(' ').append(set.life(k, 1)).append('-')
                .append(set.life(k, 2)).append(" w").append(set.life(k, 3));
        }
        return told.toString();
    }

    /** All that calls may change. */
    static String state(LateSet set) {
        return lives(set) + "; LOCK " + set.count(2) + ", EDITS " + set.count(3) + ", bytes " + set.count(4)
            + ", ran " + set.ran(0) + ' ' + set.ran(1) + ' ' + set.ran(2) + ' ' + set.ran(3);
    }

    static int four(String words, int from) {
        int four = 0;
        for (int i = from; i < from + 4; i++) {
            four = four << 8 | (i < words.length() ? words.charAt(i) & 255 : ' ');
        }
        return four;
    }
}
