/** Compares answers with those that are due, and ends a test. */
final class Due {
    private static int wrong = 0;
    private static int asked = 0;

    private Due() {
    }

    static void due(String what, long got, long want) {
        asked++;
        if (got != want) {
            wrong++;
            System.out.println(what + " answered " + got + ", due is " + want);
        }
    }

    static void isTrue(String what, boolean holds) {
        due(what, holds ? 1 : 0, 1);
    }

    /** Asks what = 0, 1, .. of a call in one row: the answers as one text. */
    static void row(String what, String got, String want) {
        asked++;
        if (!got.equals(want)) {
            wrong++;
            System.out.println(what + " answered " + got + ", due is " + want);
        }
    }

    static void tape(HandLock lock, String text) {
        for (int i = 0; i < text.length(); i++) {
            lock.feed(text.charAt(i));
        }
    }

    static HandLock told(String text) {
        HandLock lock = new HandLock();
        tape(lock, text);
        int lines = lock.text();
        if (lines < 0) {
            due("text() of '" + text + "'", lines, 0);
        }
        return lock;
    }

    /** All that can be asked without a choice: two locks that answer the same are as like as can be seen. */
    static String picture(HandLock lock) {
        return standing(lock) + ' ' + lock.fault() + ' ' + lock.torn();
    }

    /** Likewise without the latest FAULTS. */
    static String standing(HandLock lock) {
        StringBuilder all = new StringBuilder();
        for (int what = 0; what <= 6; what++) {
            all.append(lock.rule(what)).append(' ');
        }
        all.append('|');
        for (int p = 0; p < 5; p++) {
            for (int what = 0; what <= 5; what++) {
                all.append(lock.one(p, what)).append(' ');
            }
        }
        all.append('|');
        for (int i = 0; i < 8; i++) {
            all.append(lock.act(i)).append(' ');
        }
        all.append('|');
        for (int what = 0; what <= 5; what++) {
            all.append(lock.count(what)).append(' ');
        }
        return all.append('|').append(lock.slacks()).toString();
    }

    static void finish() {
        System.out.println(wrong == 0 ? asked + " answers are as due" : wrong + " of " + asked + " answers are not as due");
        if (wrong != 0 || asked == 0) {
            System.exit(1);
        }
    }
}
