/** What the tests share: answers that are due, and texts fed to the tape. */
final class Due {
    private int wrong;

    void is(String call, long got, long want) {
        if (got != want) {
            wrong++;
            System.out.println(call + " answered " + got + ", due is " + want);
        }
    }

    void is(String call, boolean got, boolean want) {
        is(call, got ? 1 : 0, want ? 1 : 0);
    }

    /** Feeds the text; the @ in it shows the place of the token that is wrong, and is not fed. */
    void faultOfQuarter(KnowLocks x, int kind, String marked) {
        int place = marked.indexOf('@');
        feed(x, marked.substring(0, place) + marked.substring(place + 1));
        is("quarter of " + marked, x.quarter(), kind + 16 * place);
    }

    void faultOfHistory(KnowLocks x, int kind, String marked) {
        int place = marked.indexOf('@');
        feed(x, marked.substring(0, place) + marked.substring(place + 1));
        is("history of " + marked, x.history(), kind + 16 * place);
    }

    void quarter(KnowLocks x, String text) {
        feed(x, text);
        is("quarter of " + text, x.quarter(), 0);
    }

    void history(KnowLocks x, String text) {
        feed(x, text);
        is("history of " + text, x.history(), 0);
    }

    KnowLocks told(String text) {
        KnowLocks x = new KnowLocks();
        quarter(x, text);
        return x;
    }

    static void feed(KnowLocks x, String text) {
        for (int at = 0; at < text.length(); at += 24) {
            x.feed(eight(text, at), eight(text, at + 8), eight(text, at + 16));
        }
    }

    /** Eight signs from a place on, the first one highest; a 0 beyond the text is left out by the tape. */
    static long eight(String text, int at) {
        long signs = 0;
        for (int i = 0; i < 8; i++) {
            signs = signs << 8 | (at + i < text.length() ? text.charAt(at + i) : 0);
        }
        return signs;
    }

    void end() {
        System.out.println(wrong == 0 ? "all answers are as due" : wrong + " answers are not as due");
        if (wrong != 0) {
            System.exit(1);
        }
    }
}
