/** What the tests by hand share: an answer held against the one that is due, and worlds and texts that are quickly told. */
abstract class Checks {
    static final int NONE = LastTongue.NONE;
    static final int MIN = Integer.MIN_VALUE, MAX = Integer.MAX_VALUE;
    static final int[] ODD = {-1, -2, 100000, MIN, MAX};
    static final int SPEAKER = 0, HALF = 1, LEARNER = 2, KEEPER = 3, WORKER = 4;
    static final int SAY = 0, HEAR = 1, PLAY = 2, PRINT = 3, MAKE = 4;
    static final int ALL = 0xFFFFFF;

    private static String about = "";
    private static int wrong = 0;
    private static int checks = 0;

    /** What the answers from here on are due by: a promise, or a sentence of the document. */
    static void by(String sentence) { about = sentence; }

    static void due(String what, long got, long want) {
        checks++;
        if (got != want) { wrong++; System.out.println(about + ": " + what + " answered " + got + ", due is " + want); }
    }
    static void yes(String what, boolean got) { due(what, got ? 1 : 0, 1); }
    static void no(String what, boolean got) { due(what, got ? 1 : 0, 0); }
    static void alike(String what, String got, String want) {
        checks++;
        if (!got.equals(want)) { wrong++; System.out.println(about + ": " + what + " is not as due: " + difference(got, want)); }
    }
    private static String difference(String got, String want) {
        int at = 0;
        while (at < got.length() && at < want.length() && got.charAt(at) == want.charAt(at)) at++;
        int from = Math.max(0, at - 40);
        return "'" + got.substring(from, Math.min(got.length(), at + 20)) + "', due is '" + want.substring(from, Math.min(want.length(), at + 20)) + "'";
    }

    static void finish() {
        System.out.println(wrong == 0 ? checks + " answers are as due" : wrong + " answers are not as due");
        if (wrong != 0) System.exit(1);
    }

    /** A FORM by its SOUNDS. */
    static int f(String sounds) { return Integer.parseInt(sounds, 9); }
    static void days(LastTongue x, int n) { for (int i = 0; i < n; i++) x.day(); }

    static void feed(LastTongue x, String text) {
        int had = length(x);
        for (int at = 0; at < text.length(); at += 20) {
            int[] n = new int[5];
            for (int i = 0; i < 20; i++) n[i / 4] = n[i / 4] << 8 | (at + i < text.length() ? text.charAt(at + i) : 32);
            x.feed(n[0], n[1], n[2], n[3], n[4]);
        }
        x.end(had + text.length());
    }
    /** How many bytes the tape has: the first n, from above, that it can be cut to changes nothing. */
    static int length(LastTongue x) {
        int n = 500;
        while (n > 0 && x.end(n) != n) n--;
        return n;
    }
    static int custom(LastTongue x, String text, int from) { feed(x, text); return x.custom(from); }
    static void faulty(String text, int fault, int place) {
        LastTongue x = new LastTongue();
        due("custom of " + text, custom(x, text, 0), fault == 0 ? 0 : NONE);
        due("fault(0) of " + text, x.fault(0), fault);
        due("fault(1) of " + text, x.fault(1), place);
        due("texts behind " + text, x.count(2), fault == 0 ? 1 : 0);
    }

    /** TONGUES that are born one of the other. */
    static LastTongue tongues(int n) {
        LastTongue x = new LastTongue();
        for (int t = 0; t < n; t++) x.tongue(t - 1);
        return x;
    }
    /** TONGUE 0 with WORDS for the MEANINGS 0 .. 5, TONGUE 1 born of it, a WORKER 0 and a SPEAKER 1 of TONGUE 1, both at PLACE 0. */
    static LastTongue village() {
        LastTongue x = tongues(2);
        String[] words = {"1", "12", "123", "21", "31", "413"};
        for (int m = 0; m < words.length; m++) x.word(0, m, f(words[m]));
        x.person(WORKER, 0, 0, 0);
        x.person(SPEAKER, 1, 1, 0);
        x.have(1, 0x3F);
        return x;
    }
    /** TONGUE 0 with a WORD for each MEANING. */
    static LastTongue worded(String form) {
        LastTongue x = tongues(1);
        for (int m = 0; m < 24; m++) x.word(0, m, f(form));
        return x;
    }
    /** A PERSON of TONGUE 0 and CLAN 0: its number. */
    static int person(LastTongue x, int kind, int place, int meanings) {
        int p = x.person(kind, 0, 0, place);
        x.have(p, meanings);
        return p;
    }
}
