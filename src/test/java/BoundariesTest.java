/** For each sentence of the document's terms that names a boundary, a test of its own, which says the sentence. */
public final class BoundariesTest extends Checks {
    public static void main(String[] args) {
        soundsAndForms();
        tonguesAndRules();
        placesAndDays();
        persons();
        textsInForce();
        tokens();
        faults();
        whatMayBe();
        lettersAndTapes();
        asked();
        heldKnownPlayed();
        same();
        heardAndFound();
        next();
        visits();
        copies();
        schools();
        taught();
        made();
        printedAndGranted();
        finish();
    }

    // Term 1

    private static void soundsAndForms() {
        sounds();
        forms();
        meanings();
    }

    private static void sounds() {
        by("SOUNDS are 1 .. 8.");
        LastTongue x = village();
        due("0 becomes 1", x.rule(1, 0, 1, 0, 0), NONE);
        due("9 becomes 1", x.rule(1, 9, 1, 0, 0), NONE);
        due("1 becomes 9", x.rule(1, 1, 9, 0, 0), NONE);
        due("1 becomes -1", x.rule(1, 1, -1, 0, 0), NONE);
        for (int sound = 1; sound <= 8; sound++) {
            yes("a FORM of SOUND " + sound, x.word(0, 0, sound));
            yes("a LETTER of SOUND " + sound, x.letter(0, sound, 1));
            due("SOUND " + sound + " becomes another", x.rule(1, sound, sound % 8 + 1, 0, 0), 0);
            due("and is it", x.form(1, 0), sound % 8 + 1);
            x.unrule(1);
        }
        no("a LETTER of SOUND 0", x.letter(0, 0, 1));
        no("a LETTER of SOUND 9", x.letter(0, 9, 1));
        no("0 within a FORM", x.word(0, 0, f("101")));
        no("0 at its end", x.word(0, 0, f("110")));
        no("0 alone behind 8", x.word(0, 0, f("80")));
        due("the FORM is as it was", x.form(0, 0), 8);
    }

    private static void forms() {
        by("A FORM is a row of 1 .. 6 SOUNDS, told as a number: its digits by 9, the first SOUND highest (so 10 is SOUNDS 1, 1).");
        LastTongue x = tongues(2);
        int[] some = {1, 8, 10, f("18"), f("81"), f("111111"), f("888888")};
        for (int n : some) {
            yes("FORM " + n, x.word(0, 0, n));
            due("FORM " + n, x.form(0, 0), n);
        }
        int[] none = {9, 18, 72, 81, f("101"), f("880888"), 531441, 531442, f("1111111"), f("8888888"), -1, -8, -10, MIN, MAX};
        for (int n : none) no("no FORM " + n, x.word(0, 0, n));
        due("the FORM is as it was", x.form(0, 0), f("888888"));
        x.word(0, 0, 10);
        x.rule(1, 1, 2, 9, 0);
        due("10 is SOUNDS 1, 1, the first highest", x.form(1, 0), f("21"));
        x.unrule(1);
        x.rule(1, 8, 7, 0, 9);
        x.word(0, 0, f("888888"));
        due("six SOUNDS, the last one lowest", x.form(1, 0), f("888887"));
    }

    private static void meanings() {
        by("MEANINGS 0 .. 23 have a FIELD, 0 .. 3 (0 at first).");
        LastTongue x = village();
        custom(x, "say if field=0:no;say if field=1:no;say if field=2:no;say if field=3:no;", 0);
        for (int m = 0; m < 24; m++) due("MEANING " + m + " at first", x.why(SAY, 1, 0, m), 0);
        for (int m = 0; m < 24; m++) yes("FIELD of " + m, x.field(m, (m + 1) % 4));
        for (int m = 0; m < 24; m++) due("MEANING " + m + " then", x.why(SAY, 1, 0, m), (m + 1) % 4);
        no("MEANING -1", x.field(-1, 0));
        no("MEANING 24", x.field(24, 0));
        no("FIELD -1", x.field(0, -1));
        no("FIELD 4", x.field(0, 4));
        yes("a WORD for MEANING 23", x.word(0, 23, 1));
        no("a WORD for MEANING 24", x.word(0, 24, 1));
        no("a WORD for MEANING -1", x.word(0, -1, 1));
        yes("to HAVE MEANING 23", x.have(1, 1 << 23));
        no("to HAVE MEANING 24", x.have(1, 1 << 24));
        due("MEANING 23 is said", x.tell(1, 6), 1 << 23);
        due("nothing of MEANING 24", x.why(SAY, 1, 0, 24), NONE);
    }

    private static void tonguesAndRules() {
        tonguesAtMost();
        rulesAtMost();
        lostOrNotX();
        behindAndAhead();
        allAtOnce();
        wordOrNone();
    }

    private static void tonguesAtMost() {
        by("TONGUES, at most 6, from 0 on, have a PARENT, an earlier TONGUE, or none;");
        LastTongue x = new LastTongue();
        for (int t = 0; t < 6; t++) {
            due("itself as PARENT of " + t, x.tongue(t), NONE);
            due("a later one as PARENT of " + t, x.tongue(t + 1), NONE);
            due("how many", x.count(0), t);
            due("TONGUE " + t, x.tongue(t % 2 == 0 ? NONE : t - 1), t);
        }
        due("a seventh of none", x.tongue(NONE), NONE);
        due("a seventh of the first", x.tongue(0), NONE);
        due("a seventh of the last", x.tongue(5), NONE);
        due("how many", x.count(0), 6);
        due("of none", x.find(4, 0), NONE);
        due("of the one ahead", x.find(5, 0), 0);
    }

    private static void rulesAtMost() {
        by("and RULES, at most 6, one behind the other:");
        LastTongue x = tongues(2);
        x.word(0, 0, 1);
        for (int t = 0; t < 2; t++) {
            for (int i = 0; i < 6; i++) due("RULE " + i, x.rule(t, i + 1, i + 2, 0, 0), i);
            due("a seventh", x.rule(t, 7, 8, 0, 0), NONE);
            due("a seventh", x.rule(t, 7, 8, 0, 0), NONE);
        }
        due("all six, one behind the other", x.form(1, 0), 7);
        yes("the sixth is gone", x.unrule(1));
        due("five", x.form(1, 0), 6);
        due("a sixth again", x.rule(1, 6, 8, 0, 0), 5);
        due("six", x.form(1, 0), 8);
        due("a seventh", x.rule(1, 8, 1, 0, 0), NONE);
        for (int i = 0; i < 6; i++) yes("gone", x.unrule(1));
        no("none is left", x.unrule(1));
        due("without RULES", x.form(1, 0), 1);
    }

    private static void ruled(String word, int x, int y, int c, int d, String made) {
        LastTongue t = tongues(2);
        t.word(0, 0, f(word));
        due("RULE " + x + y + c + d, t.rule(1, x, y, c, d), 0);
        due(word + " by " + x + y + c + d, t.form(1, 0), f(made));
    }

    private static void lostOrNotX() {
        by("SOUND x becomes y (0: it is lost; y is not x) behind c and ahead of d;");
        LastTongue x = tongues(1);
        for (int sound = 1; sound <= 8; sound++) due(sound + " becomes itself", x.rule(0, sound, sound, 0, 0), NONE);
        ruled("123", 1, 0, 0, 0, "23");
        ruled("123", 2, 0, 0, 0, "13");
        ruled("123", 3, 0, 0, 0, "12");
        ruled("123456", 6, 0, 0, 0, "12345");
        ruled("123456", 1, 0, 0, 0, "23456");
        ruled("121212", 2, 0, 0, 0, "111");
        ruled("321", 1, 4, 2, 0, "324");
        ruled("321", 1, 4, 3, 0, "321");
        ruled("123", 1, 4, 0, 2, "423");
        ruled("123", 1, 4, 0, 3, "123");
        ruled("321", 2, 4, 3, 1, "341");
        ruled("123", 2, 4, 3, 1, "123");
    }

    private static void behindAndAhead() {
        by("c, d: 0 whatever is there, 1 .. 8 that SOUND, 9 the edge.");
        ruled("11", 1, 2, 0, 0, "22");
        ruled("1", 1, 2, 0, 0, "2");
        for (int s = 2; s <= 8; s++) {
            ruled("1" + s + "1", 1, s, s, 0, "1" + s + s);
            ruled("1" + s + "1", 1, s, 0, s, "" + s + s + "1");
        }
        ruled("1", 1, 2, 1, 0, "1");
        ruled("1", 1, 2, 0, 1, "1");
        ruled("11", 1, 2, 9, 0, "21");
        ruled("11", 1, 2, 0, 9, "12");
        ruled("1", 1, 2, 9, 9, "2");
        ruled("11", 1, 2, 9, 9, "11");
        ruled("111111", 1, 2, 9, 0, "211111");
        ruled("111111", 1, 2, 0, 9, "111112");
        LastTongue x = tongues(1);
        due("c -1", x.rule(0, 1, 2, -1, 0), NONE);
        due("c 10", x.rule(0, 1, 2, 10, 0), NONE);
        due("d -1", x.rule(0, 1, 2, 0, -1), NONE);
        due("d 10", x.rule(0, 1, 2, 0, 10), NONE);
        due("none is there", x.unrule(0) ? 1 : 0, 0);
        for (int c = 0; c <= 4; c++) due("c " + c + ", d " + (9 - c), x.rule(0, 1, 2, c, 9 - c), c);
        LastTongue y = tongues(1);
        for (int c = 5; c <= 9; c++) due("c " + c + ", d " + (9 - c), y.rule(0, 1, 2, c, 9 - c), c - 5);
    }

    private static void allAtOnce() {
        by("A RULE works at all places at once, by the FORM as it was ahead of it; if all SOUNDS would be lost, it does nothing to that FORM.");
        ruled("111111", 1, 2, 1, 0, "122222");
        ruled("111111", 1, 2, 0, 1, "222221");
        ruled("111111", 1, 2, 1, 1, "122221");
        ruled("211111", 1, 2, 2, 0, "221111");
        ruled("111112", 1, 2, 0, 2, "111122");
        ruled("1222", 2, 0, 2, 0, "12");
        ruled("1221", 2, 0, 0, 2, "121");
        ruled("1212", 1, 0, 2, 0, "122");
        ruled("1", 1, 0, 0, 0, "1");
        ruled("111111", 1, 0, 0, 0, "111111");
        ruled("1", 1, 0, 9, 9, "1");
        ruled("11", 1, 0, 1, 0, "1");
        ruled("11", 1, 0, 9, 0, "1");
        ruled("111112", 1, 0, 0, 0, "2");
        LastTongue x = tongues(2);
        x.word(0, 0, f("12"));
        x.rule(1, 1, 0, 0, 0);
        x.rule(1, 2, 0, 0, 0);
        due("the second RULE would lose all that the first left", x.form(1, 0), f("2"));
        x.rule(1, 2, 3, 0, 0);
        due("yet the third works", x.form(1, 0), f("3"));
    }

    private static void wordOrNone() {
        by("WORD of a MEANING in a TONGUE: the FORM that was told for it there (a BREAK); else, with a PARENT that has a WORD for it, that WORD by all RULES of the TONGUE; else there is none.");
        LastTongue x = tongues(6);
        for (int t = 1; t < 6; t++) x.rule(t, t, t + 1, 0, 0);
        for (int t = 0; t < 6; t++) due("none in TONGUE " + t, x.form(t, 23), 0);
        x.word(0, 23, 1);
        for (int t = 0; t < 6; t++) due("in TONGUE " + t, x.form(t, 23), t + 1);
        x.word(3, 23, f("33"));
        int[] broken = {1, 2, 3, f("33"), f("33"), f("33")};
        for (int t = 0; t < 6; t++) due("with a BREAK, in TONGUE " + t, x.form(t, 23), broken[t]);
        x.word(0, 23, 0);
        int[] orphan = {0, 0, 0, f("33"), f("33"), f("33")};
        for (int t = 0; t < 6; t++) due("with the BREAK alone, in TONGUE " + t, x.form(t, 23), orphan[t]);
        x.word(3, 23, 0);
        for (int t = 0; t < 6; t++) due("none again in TONGUE " + t, x.form(t, 23), 0);
        due("other MEANINGS have none", x.form(0, 22), 0);
        LastTongue y = tongues(1);
        y.tongue(NONE);
        y.word(0, 0, 1);
        due("another TONGUE of no PARENT has none", y.form(1, 0), 0);
    }

    // Term 2

    private static void placesAndDays() {
        roadsAtFirst();
        roadsOfDays();
        daysToTheLast();
    }

    /** How many DAYS go by until somebody that goes is there; it is at no PLACE until then. */
    private static int daysOnTheRoad(int from, int to, int a, int b, int days) {
        LastTongue x = tongues(1);
        if (days >= 0) yes("a ROAD", x.road(a, b, days));
        x.person(SPEAKER, 0, 0, from);
        yes("goes", x.go(0, to));
        int gone = 0;
        while (gone < 20 && x.tell(0, 3) == NONE) { x.day(); gone++; }
        due("there", x.tell(0, 3), to);
        return gone;
    }

    private static int third(int a, int b) {
        int c = 0;
        while (c == a || c == b) c++;
        return c;
    }

    private static void roadsAtFirst() {
        by("PLACES are 0 .. 5; a ROAD between two takes 0 .. 9 DAYS (1 at first; both ways alike).");
        for (int a = 0; a < 6; a++) {
            for (int b = 0; b < 6; b++) {
                if (a == b) continue;
                due("from " + a + " to " + b + " at first", daysOnTheRoad(a, b, a, b, -1), 1);
                due("from " + a + " to " + b, daysOnTheRoad(a, b, a, b, 3), 3);
                due("the way back, from " + b + " to " + a, daysOnTheRoad(b, a, a, b, 3), 3);
                due("another ROAD is not changed", daysOnTheRoad(a, b, a, third(a, b), 7), 1);
            }
        }
        LastTongue x = tongues(1);
        due("PLACE 5", x.person(0, 0, 0, 5), 0);
        due("PLACE 6", x.person(0, 0, 0, 6), NONE);
        due("PLACE -1", x.person(0, 0, 0, -1), NONE);
        no("to PLACE 6", x.go(0, 6));
        no("to PLACE -1", x.go(0, -1));
        no("a ROAD to PLACE 6", x.road(5, 6, 1));
        no("a ROAD to PLACE -1", x.road(-1, 5, 1));
        no("a ROAD of -1 DAYS", x.road(0, 5, -1));
        no("a ROAD of 10 DAYS", x.road(0, 5, 10));
        no("a ROAD within a PLACE", x.road(5, 5, 1));
        yes("to PLACE 0", x.go(0, 0));
        x.day();
        due("in a DAY, as at first", x.tell(0, 3), 0);
    }

    private static void roadsOfDays() {
        by("It GOES to another PLACE: it is on the ROAD, at no PLACE, until as many DAYS as the ROAD takes have gone by (at once, if 0; who dies on it stays there).");
        for (int n = 0; n <= 9; n++) due("a ROAD of " + n, daysOnTheRoad(2, 4, 2, 4, n), n);
        LastTongue x = tongues(1);
        x.road(0, 1, 2);
        x.road(1, 2, 0);
        x.person(SPEAKER, 0, 0, 0);
        x.person(SPEAKER, 0, 0, 0);
        x.person(SPEAKER, 0, 0, 1);
        no("to where it is", x.go(0, 0));
        x.go(0, 1);
        x.day();
        x.go(1, 1);
        no("on the ROAD it goes nowhere", x.go(0, 2));
        no("nor back", x.go(0, 0));
        x.health(0, 0);
        x.day();
        due("who died on the last DAY of it is not there", x.tell(0, 3), NONE);
        due("the other is on it", x.tell(1, 3), NONE);
        x.day();
        due("the other is there", x.tell(1, 3), 1);
        x.health(1, 0);
        due("who dies there stays there", x.tell(1, 3), 1);
        no("the dead go nowhere", x.go(1, 0));
        days(x, 9);
        due("nor come", x.tell(0, 3), NONE);
        yes("no DAY", x.go(2, 2));
        due("at once", x.tell(2, 3), 2);
        yes("and back on the same DAY", x.go(2, 1));
        due("at once", x.tell(2, 3), 1);
    }

    private static void daysToTheLast() {
        by("DAYS go from 0 on, to 999.");
        LastTongue x = village();
        x.person(LEARNER, 0, 1, 0);
        due("a GRANT by the last", x.grant(1, 6, 999), 0);
        due("a text from the last on", custom(x, "say:no;", 999), 0);
        due("at first", x.count(5), 0);
        for (int d = 1; d <= 999; d++) due("the next", x.day(), d);
        due("the text counts", x.count(9), 0);
        due("the last is not over", x.granted(0, 0), 0);
        x.teach(2, 1, 1);
        due("no next one", x.day(), NONE);
        due("nor then", x.day(), NONE);
        due("it is the last", x.count(5), 999);
        due("it did not end", x.tell(1, 8), 7);
        due("nor for who learns", x.tell(2, 7), 2);
        due("no text from DAY 1000 on", custom(x, "", 1000), -2);
        due("no text from DAY -1 on", custom(x, "", -1), -2);
        due("no GRANT by DAY 1000", x.grant(1, 1, 1000), NONE);
        due("no GRANT by DAY -1", x.grant(1, 1, -1), NONE);
    }

    private static void persons() {
        personsAtMost();
        aliveUntil();
        whoSays();
    }

    private static void personsAtMost() {
        by("PERSONS, at most 16, from 0 on, are of a KIND: 0 SPEAKER, 1 HALF, 2 LEARNER, 3 KEEPER, 4 WORKER; have a CLAN, 0 .. 3, a TONGUE, a PLACE, HEALTH, 0 .. 100 (100 at first), HAVE MEANINGS (bits; none at first), SKILL, 0 .. 200 (0 at first), HOURS, 8 each DAY; a WORKER has a WRITING, 0 .. 3.");
        LastTongue x = tongues(6);
        due("KIND -1", x.person(-1, 0, 0, 0), NONE);
        due("KIND 5", x.person(5, 0, 0, 0), NONE);
        due("CLAN -1", x.person(0, -1, 0, 0), NONE);
        due("CLAN 4", x.person(0, 4, 0, 0), NONE);
        due("TONGUE -1", x.person(0, 0, -1, 0), NONE);
        due("TONGUE 6", x.person(0, 0, 6, 0), NONE);
        for (int p = 0; p < 16; p++) {
            due("PERSON " + p, x.person(p % 5, p % 4, p % 6, (p + 3) % 6), p);
            int[] want = {p % 5, p % 4, p % 6, (p + 3) % 6, 100, 0, 0, 0, 8, 0, NONE, 0, 0};
            for (int what = 0; what < want.length; what++) due("of PERSON " + p + ", " + what, x.tell(p, what), want[what]);
        }
        due("a 17th", x.person(0, 0, 0, 0), NONE);
        due("how many", x.count(1), 16);
        due("of the 17th", x.tell(16, 0), -100);
        no("HEALTH 101", x.health(15, 101));
        no("HEALTH -1", x.health(15, -1));
        yes("HEALTH 100", x.health(15, 100));
        yes("HEALTH 1", x.health(15, 1));
        due("alive by 1", x.count(10), 16);
        yes("all MEANINGS", x.have(15, ALL));
        no("and one more", x.have(15, ALL + 1));
        no("and the sign", x.have(15, MIN));
        due("all", x.tell(15, 5), ALL);
        yes("WRITING 3", x.writes(4, 3));
        no("WRITING 4", x.writes(4, 4));
        no("WRITING -1", x.writes(4, -1));
        due("WRITING 3", x.tell(4, 9), 3);
        yes("WRITING 0", x.writes(4, 0));
        due("WRITING 0", x.tell(4, 9), 0);
        for (int p = 0; p < 4; p++) no("who is no WORKER has none", x.writes(p, 0));
    }

    private static void aliveUntil() {
        by("A PERSON is alive until the DAY on which it dies.");
        LastTongue x = village();
        days(x, 7);
        due("alive", x.count(10), 2);
        due("not dead", x.tell(1, 10), NONE);
        due("a ROW", x.ask(0, 1, 0, NONE), 0);
        x.health(1, 0);
        due("not on that DAY", x.count(10), 1);
        due("that DAY", x.tell(1, 10), 7);
        due("no ROW on that DAY", x.ask(0, 1, 1, NONE), NONE);
        due("says nothing on that DAY", x.tell(1, 6), 0);
        LastTongue y = village();
        y.health(1, 0);
        due("on DAY 0", y.tell(1, 10), 0);
        y.day();
        due("it stays that DAY", y.tell(1, 10), 0);
        no("it dies once", y.health(1, 0));
        no("nor gets well", y.health(1, 100));
        due("HEALTH", y.tell(1, 4), 0);
    }

    private static void whoSays() {
        by("A PERSON SAYS a MEANING, if it is alive, HAS it, its TONGUE has a WORD for it, and: it is a SPEAKER or a KEEPER; or a HALF, and the FIELD is 0; or a LEARNER with a SKILL of 100 or more.");
        LastTongue x = worded("1");
        for (int kind = SPEAKER; kind <= WORKER; kind++) x.have(x.person(kind, 0, 0, 0), ALL);
        int[] all = {ALL, ALL, 0, ALL, 0};
        for (int p = 0; p < 5; p++) due("KIND " + p, x.tell(p, 6), all[p]);
        x.field(0, 1);
        x.field(22, 2);
        x.field(23, 3);
        int[] fields = {ALL, ALL & ~(1 | 3 << 22), 0, ALL, 0};
        for (int p = 0; p < 5; p++) due("KIND " + p + ", by FIELDS", x.tell(p, 6), fields[p]);
        x.word(0, 23, 0);
        x.word(0, 1, 0);
        due("a WORD is needed", x.tell(0, 6), ALL & ~(1 << 23 | 2));
        x.have(0, 1 << 23 | 1);
        due("it has to HAVE it", x.tell(0, 6), 1);
        x.have(0, 0);
        due("nothing", x.tell(0, 6), 0);
        for (int i = 0; i < 7; i++) { x.teach(2, 3, 8); x.day(); }
        days(x, 7);
        // 7 times 16, and one less for each of 7 DAYS without.
        due("SKILL", x.tell(2, 7), 105);
        days(x, 5);
        due("SKILL 100", x.tell(2, 6), ALL & ~(1 << 23 | 2));
        x.day();
        due("SKILL 99", x.tell(2, 7), 99);
        due("SKILL 99", x.tell(2, 6), 0);
        due("SKILL 100 by a HALF", x.teach(2, 1, 1), 100);
        due("SKILL 100", x.tell(2, 6), ALL & ~(1 << 23 | 2));
        x.health(2, 0);
        due("dead", x.tell(2, 6), 0);
    }

    // Term 3

    private static void textsInForce() {
        by("CUSTOMS are texts, at most 4, in force from a DAY on; on a DAY the one counts that was told last of those in force from then or earlier.");
        LastTongue x = village();
        due("none counts", x.count(9), NONE);
        due("from DAY 2", custom(x, "", 2), 0);
        due("from DAY 4", custom(x, "say:no;", 4), 1);
        due("from DAY 3", custom(x, "hear:no;", 3), 2);
        due("from DAY 6", custom(x, "play:no;", 6), 3);
        due("a fifth", custom(x, "make:no;", 0), -2);
        int[] counts = {NONE, NONE, 0, 2, 2, 2, 3, 3};
        for (int d = 0; d < counts.length; d++) {
            due("on DAY " + d, x.count(9), counts[d]);
            due("how many", x.count(2), 4);
            due("say, on DAY " + d, x.may(SAY, 1, 0, 0) ? 1 : 0, 1);
            due("hear, on DAY " + d, x.may(HEAR, 1, 0, 0) ? 1 : 0, counts[d] == 2 ? 0 : 1);
            due("play, on DAY " + d, x.may(PLAY, 1, 0, 0) ? 1 : 0, counts[d] == 3 ? 0 : 1);
            x.day();
        }
        LastTongue y = village();
        days(y, 5);
        due("from a DAY that was", custom(y, "say:no;", 0), 0);
        due("it counts at once", y.count(9), 0);
        due("from today", custom(y, "say:yes;", 5), 1);
        due("it counts at once", y.count(9), 1);
        due("from tomorrow", custom(y, "say:no;", 6), 2);
        due("not yet", y.count(9), 1);
        due("a fault is no text", custom(y, "say", 0), NONE);
        due("still", y.count(9), 1);
        due("the fourth, from a DAY that was", custom(y, "", 3), 3);
        due("told last", y.count(9), 3);
        y.day();
        due("told last, though another is from a later DAY", y.count(9), 3);
    }

    private static void tokens() {
        tapeOfBytes();
        everyByte();
        asLongAsTheyGo();
        numbers();
    }

    private static void tapeOfBytes() {
        by("THE TAPE has at most 500 bytes.");
        LastTongue x = new LastTongue();
        for (int n = 20; n <= 500; n += 20) due("twenty more", x.feed(0x20202020, 0x20202020, 0x20202020, 0x20202020, 0x20202020), n);
        due("over 500", x.feed(0, 0, 0, 0, 0), NONE);
        due("nothing came", x.end(501), NONE);
        due("all are there", x.end(500), 500);
        due("and are blanks", x.custom(0), 0);
        for (int cut = 481; cut < 500; cut++) {
            feed(x, " ".repeat(500));
            due("cut", x.end(cut), cut);
            due("over 500", x.feed(0, 0, 0, 0, 0), NONE);
            due("nothing came", x.end(cut + 1), NONE);
            x.end(0);
        }
        feed(x, " ".repeat(480));
        due("just 500", x.feed(0x20202020, 0x20202020, 0x20202020, 0x20202020, 0x2020203F), 500);
        due("the last byte is read", x.custom(0), NONE);
        due("the last byte", x.fault(1), 499);
        feed(x, " ".repeat(493) + "say:no;");
        due("a LINE up to the last byte", x.custom(0), 1);
        feed(x, " ".repeat(494) + "say:no");
        due("a LINE that would need one more", x.custom(0), NONE);
        due("at the end", x.fault(1), 500);
    }

    private static boolean isBlank(int b) { return b == 10 || b == 32; }
    private static boolean isLetter(int b) { return b >= 97 && b <= 122; }
    private static boolean isDigit(int b) { return b >= 48 && b <= 57; }

    /** A text with one byte at a place; the place of its FAULT, NONE without. */
    private static void byteAt(String ahead, int b, String behind, int place) {
        faulty(ahead + (char) b + behind, place == NONE ? 0 : 1, place);
    }

    private static void everyByte() {
        by("blanks (10, 32) between: WORDS, rows of letters a .. z; NUMBERS, 1 to 4 digits; signs : ; < > = one byte each.");
        for (int b = 0; b < 256; b++) {
            byteAt("", b, "", isBlank(b) ? NONE : 0);
            byteAt("", b, "say:no;", isBlank(b) ? NONE : 0);
            byteAt("say", b, ":no;", isBlank(b) ? NONE : isLetter(b) ? 0 : b == ':' ? 4 : 3);
            byteAt("say", b, "no;", b == ':' ? NONE : isBlank(b) ? 4 : isLetter(b) ? 0 : 3);
            byteAt("say:", b, "no;", isBlank(b) ? NONE : 4);
            byteAt("say:no", b, "", b == ';' ? NONE : isBlank(b) ? 7 : isLetter(b) ? 4 : 6);
            byteAt("say:no;", b, "", isBlank(b) ? NONE : 7);
            byteAt("say if clan", b, "1:no;", b == '<' || b == '>' || b == '=' ? NONE : isBlank(b) ? 12 : isLetter(b) ? 7 : 11);
            byteAt("say if clan=", b, ":no;", isDigit(b) ? NONE : isBlank(b) ? 13 : 12);
            byteAt("say if clan=1", b, ":no;", isDigit(b) || isBlank(b) ? NONE : b == ':' ? 14 : 13);
            byteAt("say if clan=1", b, "no;", b == ':' ? NONE : isBlank(b) ? 14 : isDigit(b) ? 14 : 13);
        }
    }

    private static void asLongAsTheyGo() {
        by("TOKENS of a text, as long as they go,");
        faulty("sayif kin:no;", 1, 0);
        faulty("say ifkin:no;", 1, 4);
        faulty("say if notkin:no;", 1, 7);
        faulty("say if kinand kin:no;", 1, 7);
        faulty("say if kin andkin:no;", 1, 11);
        faulty("say if kin and kin:nono;", 1, 19);
        faulty("sa y:no;", 1, 0);
        faulty("say if clan=1and ear=2and kin:no;", 0, NONE);
        faulty("say if clan=1 2:no;", 1, 14);
        faulty("say if clan< 1:no;", 0, NONE);
        faulty("say if clan<=1:no;", 1, 12);
        faulty("say if clan<>1:no;", 1, 12);
        faulty("say:no;;", 1, 7);
        faulty("say::no;", 1, 4);
        faulty("say:no;hear:yes;play:no;print:yes;make:no;", 0, NONE);
        faulty("\n\n say \n:\n  no\n;\n \n", 0, NONE);
    }

    private static void numbers() {
        by("NUMBERS, 1 to 4 digits;");
        String[] fine = {"0", "9", "00", "99", "000", "999", "0000", "9999", "1000"};
        for (String n : fine) faulty("say if dead<" + n + ":no;", 0, NONE);
        faulty("say if dead<:no;", 1, 12);
        String[] none = {"00000", "00001", "10000", "99999", "123456", "4294967296", "18446744073709551616"};
        for (String n : none) {
            faulty("say if dead<" + n + ":no;", 1, 12);
            faulty("say if dead<" + n, 1, 12);
            faulty(n, 1, 0);
            faulty("say:no;" + n, 1, 7);
        }
        faulty("say if dead<" + "9".repeat(488), 1, 12);
        LastTongue x = village();
        custom(x, "say if dead<3:no;say if dead=0003:no;say if dead=12:no;say if dead=0103:no;say if dead>9998:no;say if not dead<9999:no;", 0);
        x.health(1, 0);
        days(x, 2);
        due("2 is less than 3", x.why(SAY, 1, 0, 0), 0);
        days(x, 1);
        due("3 is 0003, not less than 3", x.why(SAY, 1, 0, 0), 1);
        days(x, 1);
        due("4 is none of these", x.why(SAY, 1, 0, 0), NONE);
        days(x, 8);
        due("12", x.why(SAY, 1, 0, 0), 2);
        days(x, 91);
        due("103 is 0103", x.why(SAY, 1, 0, 0), 3);
        days(x, 999 - 103);
        due("999 is not above 9998", x.why(SAY, 1, 0, 0), NONE);
    }

    private static void faults() {
        cutTexts();
        firstFault();
        oneTooMany();
    }

    /** A text that is cut: the FAULT is at the end, or at a WORD that is none any more. */
    private static void cutTexts() {
        by("TEXT: {LINE}. LINE: TOPIC ['if' TEST {'and' TEST}] ':' ('yes' | 'no') ';'.");
        String text = "say if not kin and clan<12 and not season=3 :yes;\nhear : no ; play if ear>0and kind=4and field<2and dead>999:no;";
        int whole = text.indexOf('\n');
        for (int n = 0; n <= text.length(); n++) {
            String cut = text.substring(0, n);
            boolean fine = n == 0 || n == whole || n == whole + 1 || cut.endsWith("no ;") || cut.endsWith("no ; ") || n == text.length();
            int start = n;
            boolean within = n > 0 && n < text.length() && isLetter(text.charAt(n - 1)) && isLetter(text.charAt(n));
            // What is left of 'kind' is 'kin', with which a text goes on.
            within &= !cut.endsWith(" kin");
            while (within && start > 0 && isLetter(text.charAt(start - 1))) start--;
            faulty(cut, fine ? 0 : 1, fine ? NONE : start);
        }
        String[] topics = {"say", "hear", "play", "print", "make"};
        for (String topic : topics) faulty(topic + ":yes;" + topic + " if kin:no;", 0, NONE);
        String[] none = {"if", "and", "yes", "no", "not", "kin", "clan", "ear", "kind", "field", "dead", "season", "1", ":", ";", "<", ">", "="};
        for (String token : none) faulty("say:no; " + token, 1, 8);
        String[] subjects = {"clan", "ear", "kind", "field", "dead", "season"};
        for (String subject : subjects) {
            faulty("make if " + subject + "<1 and not " + subject + ">0 and " + subject + "=1:no;", 0, NONE);
            faulty("make if " + subject + ":no;", 1, 8 + subject.length());
            faulty("make if not " + subject, 1, 12 + subject.length());
        }
        faulty("say if kin<1:no;", 1, 10);
        faulty("say if not not kin:no;", 1, 11);
        faulty("say if kin if kin:no;", 1, 11);
        faulty("say if and kin:no;", 1, 7);
        faulty("say and kin:no;", 1, 4);
        faulty("say:yes no;", 1, 8);
        faulty("say:;", 1, 4);
    }

    private static void firstFault() {
        by("FAULTS, with places (a token's first byte; the end's): 1 the first byte or token with which no text goes on (a longer row of digits is no token).");
        faulty("?", 1, 0);
        faulty("say:no;say:no;?", 1, 14);
        faulty("say ? say ?", 1, 4);
        faulty("say say ?", 1, 4);
        faulty("say ? 12345", 1, 4);
        faulty("say 12345 ?", 1, 4);
        faulty("  say  ", 1, 7);
        faulty("say:no;   say", 1, 13);
        faulty("say:no;   say\n", 1, 14);
        faulty("   maybe:no;", 1, 3);
        faulty("say:  maybe;", 1, 6);
        LastTongue x = new LastTongue();
        due("at first none", x.fault(0), 0);
        due("at no place", x.fault(1), NONE);
        custom(x, "say", 0);
        due("1", x.fault(0), 1);
        x.custom(0);
        due("an empty text has none", x.fault(0), 0);
        due("at no place", x.fault(1), NONE);
    }

    private static String tests(int n) { return "say if kin" + " and kin".repeat(n - 1); }

    private static void oneTooMany() {
        by("If there is none: 3 one too many, at its first token: a 21st LINE, a 5th TEST of a LINE.");
        String line = "make:no;";
        for (int n = 0; n <= 20; n++) faulty(line.repeat(n), 0, NONE);
        faulty(line.repeat(21), 3, 160);
        faulty(line.repeat(62), 3, 160);
        faulty(line.repeat(20) + " \n make:no;", 3, 163);
        faulty(line.repeat(20) + "make", 1, 164);
        faulty(line.repeat(20) + "no", 1, 160);
        faulty(line.repeat(21) + "make", 1, 172);
        faulty(line.repeat(21) + ".", 1, 168);
        for (int n = 1; n <= 4; n++) faulty(tests(n) + ":no;", 0, NONE);
        faulty(tests(5) + ":no;", 3, 39);
        faulty(tests(6) + ":no;", 3, 39);
        faulty(tests(40) + ":no;", 3, 39);
        faulty(tests(4) + " and not clan=1:no;", 3, 39);
        faulty(tests(4) + " and  clan=1:no;", 3, 40);
        faulty(tests(4) + " and clan=:no;", 1, 44);
        faulty(tests(4) + " and:no;", 1, 38);
        faulty(tests(5), 1, 42);
        faulty(tests(5) + ":no;" + "say", 1, 49);
        faulty(tests(4) + ":no;" + tests(4) + ":no;" + tests(4) + ":no;", 0, NONE);
        faulty(tests(4) + ":no;" + tests(5) + ":no;" + tests(5) + ":no;", 3, 38 + 39);
        faulty(line.repeat(19) + tests(5) + ":no;" + line, 3, 152 + 39);
        faulty(line.repeat(20) + tests(5) + ":no;" + line, 3, 160);
        LastTongue x = village();
        for (int i = 0; i < 3; i++) due("too many is no text", custom(x, line.repeat(21), 0), NONE);
        due("none", x.count(2), 0);
        yes("and nothing of it counts", x.may(MAKE, 0, 0, 0));
        due("twenty LINES, the last with four TESTS", custom(x, "say:no;".repeat(19) + "make if kin and clan=0 and ear=0 and kind=4:no;", 0), 0);
        due("the 20th LINE", x.why(MAKE, 0, 0, 0), 19);
        due("its fourth TEST", x.why(MAKE, 1, 1, 0), NONE);
    }

    private static void whatMayBe() {
        firstLine();
        howLongDead();
        seasons();
    }

    private static void firstLine() {
        by("A TOPIC MAY BE of a teller, a hearer and a MEANING today: by the first LINE of it whose TESTS all hold; yes, if none does, or no text counts.");
        LastTongue x = village();
        for (int topic = SAY; topic <= MAKE; topic++) {
            yes("no text, TOPIC " + topic, x.may(topic, 1, 0, 0));
            due("no text, no LINE", x.why(topic, 1, 0, 0), NONE);
        }
        custom(x, "", 0);
        for (int topic = SAY; topic <= MAKE; topic++) {
            yes("an empty text, TOPIC " + topic, x.may(topic, 1, 0, 0));
            due("no LINE", x.why(topic, 1, 0, 0), NONE);
        }
        custom(x, "say if kin:no;say if not kin and clan=0:no;say if not kin and clan=1 and ear=0 and kind=4:yes;say:no;make:no;", 0);
        yes("the third", x.may(SAY, 1, 0, 0));
        due("the third", x.why(SAY, 1, 0, 0), 102);
        no("the first", x.may(SAY, 0, 0, 0));
        due("the first", x.why(SAY, 0, 0, 0), 100);
        no("the second", x.may(SAY, 0, 1, 0));
        due("the second", x.why(SAY, 0, 1, 0), 101);
        x.person(SPEAKER, 3, 0, 0);
        no("the last of it", x.may(SAY, 1, 2, 0));
        due("the last of it", x.why(SAY, 1, 2, 0), 103);
        yes("no LINE of it", x.may(HEAR, 1, 0, 0));
        due("no LINE of it", x.why(HEAR, 1, 0, 0), NONE);
        no("the last LINE", x.may(MAKE, 2, 2, 23));
        due("the last LINE", x.why(MAKE, 2, 2, 23), 104);
        LastTongue texts = village();
        for (int t = 0; t < 4; t++) {
            custom(texts, t % 2 == 0 ? "say:no;hear:yes;say:yes;" : "say:yes;hear:no;say:no;", 0);
            due("text " + t + ", the first of say", texts.why(SAY, 1, 0, 0), 100 * t);
            due("text " + t + ", the first of hear", texts.why(HEAR, 1, 0, 0), 100 * t + 1);
            due("say by text " + t, texts.may(SAY, 1, 0, 0) ? 1 : 0, t % 2);
            due("hear by text " + t, texts.may(HEAR, 1, 0, 0) ? 1 : 0, 1 - t % 2);
        }
        no("TOPIC 5", x.may(5, 1, 0, 0));
        no("TOPIC -1", x.may(-1, 1, 0, 0));
        due("TOPIC 5", x.why(5, 1, 0, 0), NONE);
        due("TOPIC -1", x.why(-1, 1, 0, 0), NONE);
    }

    private static void howLongDead() {
        by("dead: how many DAYS the teller is, 0 if alive;");
        LastTongue x = village();
        custom(x, "say if dead=0:no;say if dead=1:no;say if dead=2:no;say if dead>2:no;", 0);
        days(x, 5);
        due("alive", x.why(SAY, 1, 0, 0), 0);
        x.health(1, 0);
        for (int d = 0; d < 5; d++) {
            due("dead for " + d, x.why(SAY, 1, 0, 0), Math.min(d, 3));
            due("the hearer's death does not count", x.why(SAY, 0, 1, 0), 0);
            x.day();
        }
    }

    private static void seasons() {
        by("season: DAY / 90 % 4.");
        LastTongue x = village();
        custom(x, "say if season=0:no;say if season=1:no;say if season=2:no;say if season=3:no;", 0);
        for (int d = 0; d <= 999; d++) {
            due("season of DAY " + d, x.why(SAY, 1, 0, 0), d < 90 ? 0 : d < 180 ? 1 : d < 270 ? 2 : d < 360 ? 3 : d < 450 ? 0 : d < 540 ? 1 : d < 630 ? 2 : d < 720 ? 3 : d < 810 ? 0 : d < 900 ? 1 : d < 990 ? 2 : 3);
            x.day();
        }
    }

    // Term 4

    private static void lettersAndTapes() {
        letters();
        tapesAtMost();
        goneOnTheDay();
    }

    private static void letters() {
        by("A WRITING has a LETTER, 1 .. 15, for each SOUND (at first its own number).");
        LastTongue x = tongues(1);
        x.word(0, 0, f("123456"));
        x.word(0, 1, f("345678"));
        x.person(WORKER, 0, 0, 0);
        person(x, SPEAKER, 0, 3);
        for (int w = 0; w < 4; w++) {
            x.writes(0, w);
            due("at first", x.row(x.ask(0, 1, 0, NONE), 7), 0x123456);
            due("at first", x.row(x.ask(0, 1, 1, NONE), 7), 0x345678);
        }
        x.day();
        for (int s = 1; s <= 8; s++) yes("LETTER " + (16 - s), x.letter(3, s, 16 - s));
        yes("LETTER 1", x.letter(3, 3, 1));
        due("the greatest ones", x.row(x.ask(0, 1, 0, NONE), 7), 0xFE1CBA);
        due("the greatest ones", x.row(x.ask(0, 1, 1, NONE), 7), 0x1CBA98);
        no("LETTER 0", x.letter(3, 3, 0));
        no("LETTER 16", x.letter(3, 3, 16));
        no("LETTER -1", x.letter(3, 3, -1));
        no("WRITING 4", x.letter(4, 3, 5));
        no("WRITING -1", x.letter(-1, 3, 5));
        due("as before", x.row(x.ask(0, 1, 1, NONE), 7), 0x1CBA98);
        x.writes(0, 2);
        due("another WRITING", x.row(x.ask(0, 1, 1, NONE), 7), 0x345678);
    }

    private static void tapesAtMost() {
        by("TAPES (of sound), at most 16, from 0 on, have a LIFE, 1 .. 400:");
        LastTongue x = new LastTongue();
        due("LIFE 0", x.tape(0), NONE);
        due("LIFE -1", x.tape(-1), NONE);
        due("LIFE 401", x.tape(401), NONE);
        due("LIFE 1", x.tape(1), 0);
        for (int t = 1; t < 16; t++) due("TAPE " + t, x.tape(401 - t), t);
        due("a 17th", x.tape(1), NONE);
        due("how many", x.count(3), 16);
        due("LIFE 400", x.about(1, 0), 400);
        due("of the last", x.about(15, 0), 386);
        due("of a 17th", x.about(16, 0), NONE);
        days(x, 10);
        due("one that is GONE is still one of them", x.tape(1), NONE);
    }

    private static void goneOnTheDay() {
        by("a TAPE is GONE as many DAYS after it was made, or copied last.");
        int[] lives = {1, 2, 3, 399, 400};
        for (int life : lives) {
            LastTongue x = new LastTongue();
            days(x, 2);
            x.tape(life);
            due("the DAY", x.about(0, 1), 2 + life);
            days(x, life - 1);
            due("not the DAY ahead of it", x.about(0, 2), 0);
            yes("so it is copied", x.copy(0));
            due("the DAY", x.about(0, 1), 1 + 2 * life);
            days(x, life - 1);
            due("not the DAY ahead of it", x.about(0, 2), 0);
            days(x, 1);
            due("on it", x.about(0, 2), 1);
            due("that DAY", x.about(0, 1), 1 + 2 * life);
            no("then it is not copied", x.copy(0));
            due("nor then", x.about(0, 1), 1 + 2 * life);
            days(x, 1);
            due("for good", x.about(0, 2), 1);
        }
    }

    private static void asked() {
        hoursAndPlaces();
        rowsAtMost();
        notHeardClearly();
    }

    private static void hoursAndPlaces() {
        by("ASKED by a WORKER: both are alive, at one PLACE, and have an HOUR left; say and hear MAY BE of the PERSON, the WORKER and the MEANING; the PERSON SAYS it.");
        LastTongue x = village();
        for (int i = 0; i < 8; i++) {
            due("HOURS", x.tell(0, 8) * 10 + x.tell(1, 8), (8 - i) * 11);
            due("ROW", x.ask(0, 1, i % 6, NONE), i);
        }
        due("no HOUR", x.tell(0, 8) + x.tell(1, 8), 0);
        due("no HOUR of both", x.ask(0, 1, 0, NONE), NONE);
        x.person(WORKER, 0, 0, 0);
        x.person(SPEAKER, 0, 1, 0);
        x.have(3, 1);
        due("no HOUR of the PERSON", x.ask(2, 1, 0, NONE), NONE);
        due("no HOUR of the WORKER", x.ask(0, 3, 0, NONE), NONE);
        due("nothing was taken", x.tell(2, 8) * 10 + x.tell(3, 8), 88);
        due("an HOUR of both", x.ask(2, 3, 0, NONE), 8);
        x.day();
        x.go(0, 1);
        due("the WORKER is on the ROAD", x.ask(0, 1, 0, NONE), NONE);
        x.go(1, 1);
        due("both are", x.ask(0, 1, 0, NONE), NONE);
        x.day();
        due("both are there", x.ask(0, 1, 0, NONE), 9);
        due("another is not", x.ask(0, 3, 0, NONE), NONE);
        due("MEANING 24", x.ask(0, 1, 24, NONE), NONE);
        due("MEANING -1", x.ask(0, 1, -1, NONE), NONE);
        due("itself", x.ask(0, 0, 0, NONE), NONE);
        custom(x, "say if clan=1 and ear=0 and field=1:no;hear if clan=1 and ear=0 and field=2:no;", 0);
        x.field(1, 1);
        x.field(2, 2);
        due("say is no", x.ask(0, 1, 1, NONE), -2);
        due("hear is no", x.ask(0, 1, 2, NONE), -3);
        due("both may be", x.ask(0, 1, 0, NONE), 10);
        due("of another teller", x.ask(2, 3, 1, NONE), NONE);
        due("no HOUR was taken", x.tell(0, 8) * 10 + x.tell(1, 8), 66);
        x.health(0, 0);
        due("the WORKER is dead", x.ask(0, 1, 1, NONE), NONE);
        LastTongue y = village();
        custom(y, "say:no;hear:no;", 0);
        due("say is no, and hear", y.ask(0, 1, 0, NONE), -2);
        int[] none = {-1, 24, MIN, MAX};
        for (int n : none) {
            due("MEANING " + n + ", though say is no", y.ask(0, 1, n, NONE), NONE);
            due("PERSON " + n + ", though say is no", y.ask(0, n, 0, NONE), NONE);
            due("WORKER " + n + ", though say is no", y.ask(n, 1, 0, NONE), NONE);
            if (n != NONE) due("TAPE " + n + ", though say is no", y.ask(0, 1, 0, n), NONE);
        }
        due("itself, though say is no", y.ask(0, 0, 0, NONE), NONE);
        y.health(1, 0);
        due("the PERSON is dead, though say is no", y.ask(0, 1, 0, NONE), NONE);
    }

    private static void rowsAtMost() {
        by("Then each has an HOUR fewer, and that is a ROW, at most 120, from 0 on:");
        LastTongue x = village();
        x.tape(400);
        for (int r = 0; r < 120; r++) {
            if (r % 8 == 0) x.day();
            due("ROW " + r, x.ask(0, 1, r % 6, 0), r);
        }
        x.day();
        due("a 121st", x.ask(0, 1, 0, 0), NONE);
        due("a 121st without a TAPE", x.ask(0, 1, 0, NONE), NONE);
        due("no HOUR was taken", x.tell(0, 8) * 10 + x.tell(1, 8), 88);
        due("how many", x.count(4), 120);
        due("how many the WORKER KNOWS", x.tell(0, 12), 120);
        due("how many on the TAPE", x.about(0, 3), 120);
        due("the last", x.row(119, 1), 119 % 6);
        due("no 121st", x.row(120, 0), -100);
        due("all are as they were", x.row(0, 5), 1);
    }

    private static void notHeardClearly() {
        by("if the PERSON's HEALTH is below 30, 0 (not heard clearly) at those places i (from 0 on) for which (i + MEANING + DAY) % 3 is 0.");
        int[] clear = {0x023056, 0x120450, 0x103406};
        for (int d = 0; d < 4; d++) {
            for (int m = 0; m < 4; m++) {
                LastTongue x = worded("123456");
                x.person(WORKER, 0, 0, 0);
                person(x, SPEAKER, 0, ALL);
                days(x, d);
                int[] healths = {1, 29, 30, 100};
                for (int h : healths) {
                    x.health(1, h);
                    due("HEALTH " + h + ", DAY " + d + ", MEANING " + m, x.row(x.ask(0, 1, m, NONE), 7), h < 30 ? clear[(m + d) % 3] : 0x123456);
                }
                x.health(1, 29);
                due("HEALTH 29, MEANING " + (20 + m), x.row(x.ask(0, 1, 20 + m, NONE), 7), clear[(20 + m + d) % 3]);
                x.health(1, 100);
                x.health(0, 1);
                due("the WORKER's HEALTH does not count", x.row(x.ask(0, 1, m, NONE), 7), 0x123456);
            }
        }
        LastTongue y = village();
        y.health(1, 29);
        due("one SOUND, not heard", y.ask(0, 1, 0, NONE), 0);
        due("nothing of it", y.row(0, 7), 0);
        y.day();
        due("one SOUND, heard", y.ask(0, 1, 0, NONE), 1);
        due("all of it", y.row(1, 7), 1);
    }

    private static void heldKnownPlayed() {
        held();
        knows();
        plays();
    }

    private static void held() {
        by("A ROW is HELD if its TAPE is there and not GONE.");
        LastTongue x = village();
        x.tape(2);
        x.ask(0, 1, 1, 0);
        x.ask(0, 1, 1, NONE);
        int[] isHeld = {1, 1, 0, 0};
        for (int d = 0; d < 4; d++) {
            due("with a TAPE, on DAY " + d, x.row(0, 8), isHeld[d]);
            due("its WORD, on DAY " + d, x.row(0, 2), isHeld[d] * f("12"));
            due("without, on DAY " + d, x.row(1, 8), 0);
            due("without, the WORD", x.row(1, 2), 0);
            due("it is written still", x.row(0, 7) + x.row(1, 7), 0x24);
            due("ONLY, on DAY " + d, x.tell(1, 11), 6 - isHeld[d]);
            due("HEARD, on DAY " + d, x.find(1, 3), isHeld[d]);
            x.day();
        }
        due("the TAPE is still told", x.row(0, 6), 0);
        due("none is still none", x.row(1, 6), NONE);
        LastTongue y = village();
        y.tape(2);
        y.ask(0, 1, 1, 0);
        y.day();
        y.copy(0);
        y.day();
        due("held by a copy", y.row(0, 8), 1);
        y.day();
        due("no more", y.row(0, 8), 0);
    }

    private static void knows() {
        by("Its WORKER KNOWS it from its DAY on.");
        LastTongue x = village();
        days(x, 3);
        x.ask(0, 1, 5, NONE);
        x.ask(0, 1, 5, NONE);
        due("on its DAY, the latest", x.known(0, 1, 5, 3), 1);
        due("not the DAY ahead of it", x.known(0, 1, 5, 2), NONE);
        due("not on DAY 0", x.known(0, 1, 5, 0), NONE);
        due("not tomorrow yet", x.known(0, 1, 5, 4), NONE);
        due("not on DAY -1", x.known(0, 1, 5, -1), NONE);
        x.day();
        due("today", x.known(0, 1, 5, 4), 1);
        due("the PERSON does not", x.known(1, 1, 5, 4), NONE);
        x.health(0, 0);
        due("the dead KNEW", x.known(0, 1, 5, 4), 1);
        LastTongue y = village();
        y.ask(0, 1, 0, NONE);
        due("on DAY 0", y.known(0, 1, 0, 0), 0);
        due("no other MEANING", y.known(0, 1, 1, 0), NONE);
        due("no other TONGUE", y.known(0, 0, 0, 0), NONE);
        due("TONGUE 2", y.known(0, 2, 0, 0), NONE);
        due("MEANING 24", y.known(0, 1, 24, 0), NONE);
        due("PERSON 2", y.known(2, 1, 0, 0), NONE);
    }

    private static void plays() {
        by("A WORKER PLAYS a TAPE that is not GONE: it KNOWS from then on those ROWS on it for which play MAY BE (of its PERSON, the WORKER, its MEANING).");
        LastTongue x = village();
        x.person(WORKER, 0, 0, 5);
        x.tape(2);
        x.tape(9);
        due("an empty TAPE", x.play(2, 0), 0);
        x.ask(0, 1, 0, 0);
        x.ask(0, 1, 1, 0);
        x.ask(0, 1, 2, 1);
        x.field(1, 1);
        custom(x, "play if field=1 and clan=1 and ear=0 and kind=4:no;", 0);
        x.day();
        due("one of two may be", x.play(2, 0), 1);
        due("none more", x.play(2, 0), 0);
        due("from then on", x.known(2, 1, 0, 1), 0);
        due("not ahead of it", x.known(2, 1, 0, 0), NONE);
        due("not the other", x.known(2, 1, 1, 1), NONE);
        due("its own WORKER KNEW all", x.play(0, 0) + x.play(0, 1), 0);
        x.field(1, 0);
        x.day();
        due("GONE", x.play(2, 0), NONE);
        due("the other TAPE", x.play(2, 1), 1);
        due("ROWS", x.tell(2, 12), 2);
        due("TAPE 2", x.play(2, 2), NONE);
        due("no TAPE", x.play(2, NONE), NONE);
        due("no WORKER", x.play(1, 1), NONE);
        x.health(2, 0);
        due("dead", x.play(2, 1), NONE);
        due("what it KNEW stays", x.known(2, 1, 0, 2), 0);
    }

    private static void same() {
        by("0 if the lengths differ, or at some place no SOUND is of both; 2 if at each place just one is; else 1.");
        LastTongue x = tongues(1);
        String[] words = {"12", "312", "123456", "12345", "1", "123457", "12"};
        for (int m = 0; m < words.length; m++) x.word(0, m, f(words[m]));
        x.person(WORKER, 0, 0, 0);
        person(x, SPEAKER, 0, 0x7F);
        for (int m = 0; m < words.length; m++) x.ask(0, 1, m, NONE);
        due("12 and 12", x.same(0, 6), 2);
        due("12 and 312", x.same(0, 1), 0);
        due("6 and 5 SOUNDS", x.same(2, 3), 0);
        due("the last SOUND differs", x.same(2, 5), 0);
        due("one that is it", x.same(3, 3), NONE);
        due("no ROW 7", x.same(0, 7), NONE);
        due("no ROW -1", x.same(-1, 0), NONE);
        x.letter(0, 7, 6);
        due("the last SOUND may be 6 or 7 of one; 7 is written 6 now", x.same(2, 5), 0);
        x.day();
        x.ask(0, 1, 5, NONE);
        due("6 or 7 of both", x.same(2, 7), 1);
        x.health(1, 1);
        x.day();
        due("ROW 8", x.ask(0, 1, 1, NONE), 8);
        due("312 on DAY 2: the first is not heard", x.row(8, 7), 0x012);
        due("yet it has three places", x.same(8, 0), 0);
        due("of 0 all", x.same(8, 1), 2);
        x.day();
        x.word(0, 1, f("812"));
        x.health(1, 100);
        due("ROW 9", x.ask(0, 1, 1, NONE), 9);
        due("812 is not 312", x.same(9, 1), 0);
        due("but may be of what was not heard", x.same(9, 8), 2);
        x.health(1, 1);
        days(x, 2);
        due("ROW 10", x.ask(0, 1, 1, NONE), 10);
        due("not heard again", x.row(10, 7), 0x012);
        due("of both all eight", x.same(8, 10), 1);
        x.letter(0, 1, 15);
        due("no SOUND is written 1 any more", x.same(8, 10), 0);
        due("nor in one that is alike", x.same(0, 6), 0);
        x.letter(0, 1, 1);
        for (int s = 1; s <= 8; s++) x.letter(0, s, 2);
        x.letter(0, 1, 1);
        due("seven SOUNDS are written 2", x.same(0, 6), 1);
        x.writes(0, 1);
        due("by the WRITING of now", x.same(0, 6), 2);
    }

    // Term 5

    private static void heardAndFound() {
        heard();
        found();
        readings();
    }

    private static void heard() {
        by("HEARD of a TONGUE with a PARENT: the MEANINGS that have a WORD in the PARENT and a HELD ROW in the TONGUE, with the WORD of the latest such ROW.");
        LastTongue x = village();
        x.have(1, ALL);
        x.tape(9);
        x.tape(1);
        due("at first", x.find(1, 3), 0);
        due("of a TONGUE without a PARENT", x.find(0, 3), NONE);
        x.word(1, 23, f("5"));
        x.ask(0, 1, 23, 0);
        due("no WORD in the PARENT", x.find(1, 3), 0);
        x.word(0, 23, f("6"));
        due("a WORD in the PARENT", x.find(1, 3), 1);
        due("5 was HEARD of 6", x.find(1, 1), 6500);
        x.word(0, 23, 0);
        due("none any more", x.find(1, 3), 0);
        x.ask(0, 1, 0, 0);
        due("MEANING 0", x.find(1, 3), 1);
        due("1 was HEARD of 1", x.find(1, 1), 1000);
        x.word(1, 0, f("7"));
        x.ask(0, 1, 0, 1);
        due("the latest ROW: 7", x.find(1, 1), 1700);
        x.word(1, 0, f("8"));
        x.ask(0, 1, 0, NONE);
        due("a ROW that is not HELD does not count: 7", x.find(1, 1), 1700);
        due("one MEANING by two ROWS", x.find(1, 3), 1);
        x.person(SPEAKER, 0, 0, 0);
        x.have(2, ALL);
        x.ask(0, 2, 1, 0);
        due("a ROW of the PARENT does not count", x.find(1, 3), 1);
        x.day();
        due("the latest ROW is on a TAPE that is GONE: 1", x.find(1, 1), 1000);
        due("still HEARD", x.find(1, 3), 1);
        days(x, 8);
        due("the other is GONE, too", x.find(1, 3), 0);
    }

    private static void found() {
        by("FOUND: of all single RULES that by which fewest HEARD MEANINGS are no more (the PARENT's WORD by it is not what was HEARD): OFF; of several with the most of c, d that are 0; then the least x, y, c, d.");
        foundDue(new String[] {}, new String[] {}, 0, 1000, 64);
        foundDue(new String[] {"123", "323", "121"}, new String[] {"13", "323", "121"}, 0, 2013, 1);
        foundDue(new String[] {"12", "32"}, new String[] {"14", "32"}, 0, 2410, 2);
        foundDue(new String[] {"21", "23"}, new String[] {"41", "23"}, 0, 2401, 2);
        foundDue(new String[] {"12", "121"}, new String[] {"14", "121"}, 0, 2409, 2);
        foundDue(new String[] {"21", "121"}, new String[] {"41", "121"}, 0, 2490, 2);
        foundDue(new String[] {"8"}, new String[] {"7"}, 0, 8700, 4);
        foundDue(new String[] {"18"}, new String[] {"1"}, 0, 8000, 4);
        // What SOUND is there no RULE puts a second time.
        foundDue(new String[] {"1"}, new String[] {"11"}, 1, 1000, 64);
        // 1 becomes 2, or 3: each is right of one; the least y.
        foundDue(new String[] {"1", "1"}, new String[] {"3", "2"}, 1, 1200, 8);
        // Two of three are by 3; the least y does not count then.
        foundDue(new String[] {"1", "1", "1"}, new String[] {"3", "2", "3"}, 1, 1300, 4);
        // Both x 4 and x 6: each is right of one; the least x.
        foundDue(new String[] {"6", "4"}, new String[] {"1", "8"}, 1, 4800, 8);
        // Lost it would be whole, so it is not.
        foundDue(new String[] {"11"}, new String[] {"11"}, 0, 1000, 64);
        foundDue(new String[] {"11"}, new String[] {"1"}, 0, 1001, 6);
        // The least and the greatest of x, y, c, d.
        foundDue(new String[] {"1"}, new String[] {"8"}, 0, 1800, 4);
        foundDue(new String[] {"81"}, new String[] {"1"}, 0, 8000, 4);
        foundDue(new String[] {"1", "313"}, new String[] {"2", "323"}, 0, 1200, 1);
        foundDue(new String[] {"1", "13", "31"}, new String[] {"2", "13", "31"}, 0, 1299, 1);
        // At all places at once, and a MEANING is OFF but once.
        foundDue(new String[] {"11"}, new String[] {"22"}, 0, 1200, 1);
        foundDue(new String[] {"2121"}, new String[] {"2323"}, 0, 1300, 2);
        foundDue(new String[] {"1212"}, new String[] {"3232"}, 0, 1300, 2);
        foundDue(new String[] {"21212"}, new String[] {"23232"}, 0, 1300, 4);
        foundDue(new String[] {"1111", "1", "1"}, new String[] {"1111", "2", "2"}, 0, 1299, 1);
        foundDue(new String[] {"1111", "11", "11"}, new String[] {"1111", "22", "22"}, 1, 1200, 1);
    }

    /** What is FOUND of a TONGUE in which of each PARENT's WORD another one was HEARD. */
    private static LastTongue foundDue(String[] words, String[] heard, int off, int rule, int number) {
        LastTongue x = tongues(2);
        x.person(WORKER, 0, 0, 0);
        x.person(SPEAKER, 0, 1, 0);
        x.have(1, ALL);
        x.tape(400);
        for (int m = 0; m < words.length; m++) {
            x.word(0, m, f(words[m]));
            x.word(1, m, f(heard[m]));
            due("ROW", x.ask(0, 1, m, 0), m);
        }
        String all = String.join(", ", words) + " as " + String.join(", ", heard);
        due("OFF of " + all, x.find(1, 0), off);
        due("FOUND of " + all, x.find(1, 1), rule);
        due("READINGS of " + all, x.find(1, 2), number);
        due("HEARD of " + all, x.find(1, 3), words.length);
        due("the first READING", x.reading(1, 0), rule);
        due("the last READING", x.reading(1, number) == NONE && x.reading(1, number - 1) != NONE ? 1 : 0, 1);
        return x;
    }

    private static void readings() {
        by("READINGS: all that have as few OFF, at most the first 64, in that order.");
        LastTongue x = foundDue(new String[] {}, new String[] {}, 0, 1000, 64);
        int k = 0;
        for (int s = 1; s <= 8; s++) for (int y = 0; y <= 8; y++) if (y != s) due("with nothing HEARD, " + k, x.reading(1, k++), 1000 * s + 100 * y);
        due("no 65th", x.reading(1, 64), NONE);
        due("no -1st", x.reading(1, -1), NONE);
        // 1 as 1: whatever x from 2 on, and x 1 where it would be lost: 57 with c and d 0, then the first 7 of the others.
        LastTongue one = foundDue(new String[] {"1"}, new String[] {"1"}, 0, 1000, 64);
        due("the second", one.reading(1, 1), 2000);
        due("the last with c and d 0", one.reading(1, 56), 8700);
        for (int d = 1; d <= 7; d++) due("then c 0 and d " + d, one.reading(1, 56 + d), 1000 + d);
        due("no 65th", one.reading(1, 64), NONE);
        LastTongue two = foundDue(new String[] {"11"}, new String[] {"1"}, 0, 1001, 6);
        // The first 1 is lost: ahead of 1, or behind the edge, or both; or the second.
        int[] want = {1001, 1009, 1010, 1090, 1019, 1091};
        for (int i = 0; i < want.length; i++) due("of 11 as 1, " + i, two.reading(1, i), want[i]);
        LastTongue three = foundDue(new String[] {"1", "1"}, new String[] {"3", "2"}, 1, 1200, 8);
        int[] both = {1200, 1300, 1209, 1290, 1309, 1390, 1299, 1399};
        for (int i = 0; i < both.length; i++) due("of 1 as 2 and 3, " + i, three.reading(1, i), both[i]);
    }

    private static void next() {
        nextMeaning();
        whom();
    }

    /** READINGS 1500, 1509, 1590, 1599; PERSON 1 SAYS MEANINGS with WORDS. */
    private static LastTongue oneHeard() {
        LastTongue x = village();
        x.tape(9);
        x.word(1, 0, f("5"));
        x.ask(0, 1, 0, 0);
        x.word(1, 0, 0);
        return x;
    }

    private static void nextMeaning() {
        by("NEXT: of the MEANINGS with a WORD in the PARENT, not HEARD, which some PERSON of the TONGUE SAYS, the one for which the greatest number of READINGS that make the same FORM of the PARENT's WORD is the least; of several the least MEANING.");
        LastTongue x = oneHeard();
        due("READINGS", x.find(1, 2), 4);
        x.have(1, ALL);
        // 12, 123 and 21 two and two, 31 too; 413 three.
        due("of several the least", x.next(1, 0), 1);
        due("two", x.next(1, 2), 2);
        x.word(0, 23, f("111"));
        // 555, 115, 511, 111.
        due("each READING makes another", x.next(1, 0), 23);
        due("one", x.next(1, 2), 1);
        x.word(1, 22, f("111"));
        due("a WORD in the PARENT is needed", x.next(1, 0), 23);
        x.word(0, 22, f("111"));
        due("of several the least", x.next(1, 0), 22);
        x.word(1, 22, f("8"));
        due("by the PARENT's WORD, whatever the TONGUE's is", x.next(1, 0), 22);
        x.have(1, ALL & ~(1 << 22));
        due("SAID by some PERSON", x.next(1, 0), 23);
        x.person(SPEAKER, 0, 0, 0);
        x.have(2, ALL);
        due("of the TONGUE", x.next(1, 0), 23);
        x.have(1, 1 | 1 << 5);
        due("of the others the one", x.next(1, 0), 5);
        due("three", x.next(1, 2), 3);
        x.have(1, 1 | 1 << 6);
        x.word(0, 6, f("2"));
        due("none is told apart, yet it can be asked for", x.next(1, 0), 6);
        due("all four", x.next(1, 2), 4);
        x.have(1, 1);
        due("HEARD", x.next(1, 0), NONE);
        due("HEARD", x.next(1, 2), NONE);
        days(x, 9);
        due("not HEARD any more", x.next(1, 0), 0);
        // 57 of 64 RULES leave 1 as it is: all but those by which 1 becomes 2 .. 8.
        due("by the first 64", x.next(1, 2), 57);
        x.have(1, 0);
        due("who says nothing", x.next(1, 0), NONE);
        due("of a TONGUE without a PARENT", x.next(0, 0), NONE);
        // Each SOUND by itself stays: all 64 are RULES by which nothing of that changes.
        String[] each = {"1", "2", "3", "4", "5", "6", "7", "8"};
        LastTongue y = foundDue(each, each, 0, 1000, 64);
        y.word(0, 20, f("2"));
        due("all READINGS make the same of it", y.next(1, 0), 20);
        due("all 64", y.next(1, 2), 64);
    }

    private static void whom() {
        by("WHOM: the PERSON that SAYS it with the least HEALTH, of several the least.");
        LastTongue x = oneHeard();
        int[] kinds = {KEEPER, HALF, LEARNER, WORKER, SPEAKER};
        for (int kind : kinds) x.have(x.person(kind, 0, 1, 5), 2);
        due("of several the least", x.next(1, 1), 1);
        x.health(4, 1);
        x.health(5, 1);
        due("who learns and who works SAYS nothing", x.next(1, 1), 1);
        x.health(6, 99);
        due("the least HEALTH", x.next(1, 1), 6);
        x.health(3, 99);
        due("of several the least", x.next(1, 1), 3);
        x.field(1, 1);
        due("a HALF does not SAY it", x.next(1, 1), 6);
        x.health(2, 98);
        due("a KEEPER", x.next(1, 1), 2);
        x.health(2, 0);
        due("who is dead does not SAY it", x.next(1, 1), 6);
        x.go(6, 0);
        due("wherever it is", x.next(1, 1), 6);
        x.have(6, 1);
        due("who SAYS it", x.next(1, 1), 1);
        x.have(1, 1);
        due("a HALF again, of FIELD 0", x.field(1, 0) ? x.next(1, 1) : 0, 3);
        x.health(3, 0);
        due("nobody", x.next(1, 1), NONE);
    }

    // Term 6

    private static void visits() {
        only();
        whoIsVisited();
        howItIsVisited();
    }

    private static void only() {
        by("ONLY of a PERSON: how many MEANINGS it SAYS that no other PERSON of its TONGUE SAYS and no HELD ROW of its TONGUE is of.");
        LastTongue x = village();
        due("all that it SAYS", x.tell(1, 11), 6);
        x.have(1, ALL);
        due("no more than it SAYS", x.tell(1, 11), 6);
        int[] silent = {LEARNER, WORKER};
        for (int kind : silent) x.have(x.person(kind, 0, 1, 0), ALL);
        x.person(SPEAKER, 0, 0, 0);
        x.have(4, ALL);
        due("who HAS, but does not SAY it, or is of another TONGUE", x.tell(1, 11), 6);
        due("of the other TONGUE", x.tell(4, 11), 6);
        due("who SAYS nothing", x.tell(2, 11) + x.tell(3, 11), 0);
        x.person(HALF, 0, 1, 5);
        x.have(5, 3 << 4);
        due("two are SAID by a HALF", x.tell(1, 11), 4);
        due("nor are they its own", x.tell(5, 11), 0);
        x.field(5, 3);
        due("but one", x.tell(1, 11), 5);
        x.health(5, 0);
        due("of the dead none", x.tell(1, 11) * 10 + x.tell(5, 11), 60);
        x.tape(1);
        x.ask(0, 4, 3, 0);
        due("a ROW of another TONGUE", x.tell(1, 11), 6);
        due("of its own", x.tell(4, 11), 5);
        x.ask(0, 1, 2, NONE);
        due("one that is not HELD", x.tell(1, 11), 6);
        x.ask(0, 1, 2, 0);
        x.ask(0, 1, 2, 0);
        due("one that is", x.tell(1, 11), 5);
        x.day();
        due("no more", x.tell(1, 11), 6);
    }

    /** A WORKER 0 at PLACE 0 and SPEAKERS from 1 on at PLACES, each with as many of ONLY; all ROADS take 1 DAY. */
    private static LastTongue region(int[] places, int[] onlys) {
        LastTongue x = worded("1");
        x.person(WORKER, 0, 0, 0);
        int m = 0;
        for (int i = 0; i < places.length; i++) {
            person(x, SPEAKER, places[i], (1 << onlys[i]) - 1 << m);
            m += onlys[i];
        }
        return x;
    }
    private static void visitsDue(String what, LastTongue x, int days, int only, int needed, int... row) {
        int set = 0;
        for (int p : row) set |= 1 << p;
        due(what + ", ONLY in " + days, x.visits(0, days, 0), only);
        due(what + ", DAYS in " + days, x.visits(0, days, 1), needed);
        due(what + ", set in " + days, x.visits(0, days, 2), set);
        due(what + ", PERSONS in " + days, x.visits(0, days, 3), row.length);
        for (int i = 0; i < row.length; i++) due(what + ", place " + i + " in " + days, x.visited(0, days, i), row[i]);
        due(what + ", behind the last in " + days, x.visited(0, days, row.length), NONE);
        due(what + ", ahead of the first in " + days, x.visited(0, days, -1), NONE);
    }

    private static void whoIsVisited() {
        by("VISITS of a WORKER at a PLACE in n DAYS, 1 .. 20: of PERSONS at a PLACE with ONLY above 0 (at most the first 9) some are visited,");
        LastTongue x = region(new int[] {0, 0}, new int[] {1, 1});
        due("in 0 DAYS", x.visits(0, 0, 0), NONE);
        due("in 21 DAYS", x.visits(0, 21, 0), NONE);
        due("in -1 DAYS", x.visits(0, -1, 0), NONE);
        due("in 0 DAYS", x.visited(0, 0, 0), NONE);
        due("in 21 DAYS", x.visited(0, 21, 0), NONE);
        visitsDue("one DAY", x, 1, 1, 1, 1);
        visitsDue("twenty DAYS", x, 20, 2, 2, 1, 2);
        due("of who is no WORKER", x.visits(1, 5, 0), NONE);
        due("of PERSON 3", x.visits(3, 5, 0), NONE);
        due("of PERSON -1", x.visits(-1, 5, 0), NONE);
        due("what 4", x.visits(0, 5, 4), NONE);
        due("what -1", x.visits(0, 5, -1), NONE);
        x.have(1, 2);
        visitsDue("ONLY of both is 0", x, 20, 0, 0);
        x.have(1, 1);
        x.go(1, 3);
        visitsDue("one is on the ROAD", x, 20, 1, 1, 2);
        x.day();
        visitsDue("there", x, 20, 2, 3, 2, 1);
        x.health(1, 0);
        visitsDue("dead", x, 20, 1, 1, 2);
        x.go(0, 1);
        due("the WORKER is on the ROAD", x.visits(0, 5, 0), NONE);
        due("the WORKER is on the ROAD", x.visited(0, 5, 0), NONE);
        x.day();
        visitsDue("there", x, 20, 1, 2, 2);
        x.health(0, 0);
        due("the WORKER is dead", x.visits(0, 5, 0), NONE);
        due("the WORKER is dead", x.visited(0, 5, 0), NONE);
        int[] places = new int[11], onlys = new int[11];
        for (int i = 0; i < 11; i++) onlys[i] = i == 2 ? 0 : i < 10 ? 1 : 9;
        LastTongue y = region(places, onlys);
        visitsDue("the first nine with ONLY", y, 20, 9, 9, 1, 2, 4, 5, 6, 7, 8, 9, 10);
        visitsDue("some of these", y, 3, 3, 3, 1, 2, 4);
        y.have(5, 0);
        visitsDue("then the tenth is of them", y, 20, 17, 9, 1, 2, 4, 6, 7, 8, 9, 10, 11);
        visitsDue("and the first", y, 1, 9, 1, 11);
        y.have(6, 0);
        visitsDue("eight", y, 20, 16, 8, 1, 2, 4, 7, 8, 9, 10, 11);
        LastTongue none = region(new int[] {}, new int[] {});
        visitsDue("nobody", none, 20, 0, 0);
    }

    private static void howItIsVisited() {
        by("one after the other: the ROAD to each (none within a PLACE) and a DAY there, n together at most: so that most of their ONLY is heard; with the fewest DAYS; the least set (bits by PERSONS); then the least row.");
        LastTongue x = region(new int[] {1, 2, 2}, new int[] {1, 2, 3});
        x.road(0, 1, 9);
        x.road(0, 2, 9);
        x.road(1, 2, 0);
        visitsDue("too far", x, 9, 0, 0);
        visitsDue("just", x, 10, 3, 10, 3);
        visitsDue("two at one PLACE", x, 11, 5, 11, 2, 3);
        visitsDue("all; 1 has the least number", x, 12, 6, 12, 1, 2, 3);
        x.road(1, 2, 1);
        visitsDue("a ROAD of 1 between", x, 12, 5, 11, 2, 3);
        visitsDue("all", x, 13, 6, 13, 1, 2, 3);
        x.road(0, 2, 8);
        visitsDue("2 first is shorter", x, 13, 6, 12, 2, 3, 1);
        x.road(0, 3, 0);
        x.road(3, 2, 0);
        visitsDue("the ROAD goes there at once, not by another PLACE", x, 8, 0, 0);
        LastTongue far = region(new int[] {1, 2, 3}, new int[] {1, 1, 1});
        int[][] roads = {{0, 1}, {0, 2}, {0, 3}, {1, 2}, {1, 3}, {2, 3}};
        for (int[] r : roads) far.road(r[0], r[1], 9);
        visitsDue("in 20 DAYS two", far, 20, 2, 20, 1, 2);
        visitsDue("in 19 one", far, 19, 1, 10, 1);
        far.road(2, 3, 8);
        visitsDue("the fewest DAYS ahead of the least set", far, 20, 2, 19, 2, 3);
        far.road(2, 3, 9);
        far.road(1, 3, 8);
        visitsDue("the fewest DAYS ahead of the least set", far, 20, 2, 19, 1, 3);
        LastTongue even = region(new int[] {1, 1, 2, 2}, new int[] {1, 1, 1, 1});
        for (int[] r : roads) even.road(r[0], r[1], 0);
        visitsDue("the least set", even, 2, 2, 2, 1, 2);
        visitsDue("the least row", even, 4, 4, 4, 1, 2, 3, 4);
        even.road(1, 2, 1);
        visitsDue("1 and 2, then the ROAD", even, 5, 4, 5, 1, 2, 3, 4);
        visitsDue("no ROAD", even, 4, 3, 4, 1, 2, 3);
        visitsDue("no ROAD", even, 3, 2, 2, 1, 2);
        LastTongue cross = region(new int[] {2, 1, 2}, new int[] {1, 1, 1});
        visitsDue("2 at PLACE 1, then 1, 3; or 1, 3, then 2", cross, 5, 3, 5, 1, 3, 2);
        cross.road(0, 1, 0);
        visitsDue("by PLACE 1", cross, 5, 3, 4, 2, 1, 3);
        LastTongue more = region(new int[] {1, 2, 0}, new int[] {3, 1, 1});
        visitsDue("more of ONLY ahead of fewer DAYS", more, 2, 3, 2, 1);
        visitsDue("3 of one, or 2 of two", more, 3, 4, 3, 3, 1);
    }

    private static void copies() {
        worth();
        daysOfCopies();
        doneAtTheLatest();
        mostWorth();
        firstTwelve();
    }

    private static void worth() {
        by("WORTH being how many (TONGUE, MEANING) of its ROWS no other TAPE that is not GONE has:");
        LastTongue x = village();
        x.person(SPEAKER, 0, 0, 0);
        x.have(2, 0x3F);
        x.tape(9);
        x.tape(2);
        x.ask(0, 1, 0, 0);
        x.ask(0, 1, 0, 0);
        due("one MEANING by two ROWS", x.about(0, 4), 1);
        x.ask(0, 2, 0, 1);
        due("of another TONGUE it is another", x.about(0, 4) * 10 + x.about(1, 4), 11);
        x.ask(0, 2, 0, 0);
        due("both TONGUES", x.about(0, 4) * 10 + x.about(1, 4), 10);
        x.ask(0, 1, 0, NONE);
        due("a ROW without a TAPE does not count", x.about(0, 4), 1);
        due("COPIES", x.copies(0), 1);
        x.day();
        x.ask(0, 1, 1, 1);
        due("another MEANING", x.about(0, 4) * 10 + x.about(1, 4), 11);
        due("COPIES", x.copies(0), 2);
        x.day();
        due("the other is GONE", x.about(0, 4), 2);
        due("COPIES of the one that is not", x.copies(0) * 10 + x.copies(2), 21);
        days(x, 7);
        due("all are GONE", x.copies(0) + x.copies(1) + x.copies(2), 0);
        due("each MEANING once, though GONE", x.about(0, 4) * 10 + x.about(1, 4), 22);
    }

    /** WORKERS 0 .. 3 and SPEAKERS 4 .. 7, so that 32 ROWS can be made each DAY, all of TONGUE 0. */
    private static LastTongue studio() {
        LastTongue x = worded("1");
        for (int w = 0; w < 4; w++) person(x, WORKER, 0, 0);
        for (int s = 0; s < 4; s++) person(x, SPEAKER, 0, ALL);
        return x;
    }
    /** So many ROWS more on a TAPE, of MEANINGS from one on, as many of them as is told. */
    private static void record(LastTongue x, int tape, int rows, int first, int meanings) {
        for (int i = 0; i < rows; i++) {
            int w = 0;
            while (w < 3 && x.tell(w, 8) == 0) w++;
            if (x.ask(w, 4 + w, first + i % meanings, tape) < 0) due("a ROW", 0, 1);
        }
    }
    private static void copiesDue(String what, LastTongue x, int worth, int days, int... tapes) {
        int set = 0;
        for (int t : tapes) set |= 1 << t;
        due(what + ", WORTH", x.copies(0), worth);
        due(what + ", DAYS", x.copies(1), days);
        due(what + ", set", x.copies(2), set);
        due(what + ", what 3", x.copies(3), NONE);
        due(what + ", what -1", x.copies(-1), NONE);
    }

    private static void daysOfCopies() {
        by("a DAY for each 4 ROWS of it or part of that,");
        copiesDue("nothing", new LastTongue(), 0, 0);
        for (int rows = 1; rows <= 17; rows++) {
            LastTongue x = studio();
            x.tape(400);
            record(x, 0, rows, 3, 1);
            copiesDue(rows + " ROWS", x, 1, rows <= 4 ? 1 : rows <= 8 ? 2 : rows <= 12 ? 3 : rows <= 16 ? 4 : 5, 0);
        }
        LastTongue y = studio();
        y.tape(400);
        copiesDue("an empty TAPE has no WORTH", y, 0, 0);
    }

    private static void doneAtTheLatest() {
        by("each done on the DAY on which it is GONE at the latest:");
        LastTongue x = studio();
        x.tape(1);
        record(x, 0, 4, 0, 1);
        copiesDue("4 ROWS, GONE tomorrow", x, 1, 1, 0);
        record(x, 0, 1, 0, 1);
        copiesDue("5 ROWS, GONE tomorrow", x, 0, 0);
        LastTongue y = studio();
        days(y, 7);
        y.tape(2);
        y.tape(3);
        record(y, 0, 5, 0, 1);
        record(y, 1, 1, 1, 1);
        copiesDue("2 DAYS, then the third", y, 2, 3, 0, 1);
        record(y, 1, 4, 1, 1);
        copiesDue("the fourth is too late", y, 1, 2, 0);
        y.day();
        copiesDue("a DAY later the first is too late", y, 1, 2, 1);
        y.day();
        copiesDue("the first is GONE, the second too late", y, 0, 0);
        LastTongue z = studio();
        z.tape(3);
        z.tape(2);
        z.tape(1);
        for (int t = 0; t < 3; t++) record(z, t, 4, t, 1);
        copiesDue("the last one first", z, 3, 3, 0, 1, 2);
        z.day();
        copiesDue("one is GONE", z, 2, 2, 0, 1);
    }

    private static void mostWorth() {
        by("most WORTH together; then the fewest DAYS; then the least set (bits by TAPES).");
        LastTongue x = studio();
        x.tape(1);
        x.tape(1);
        record(x, 0, 1, 0, 1);
        record(x, 1, 2, 1, 2);
        copiesDue("most WORTH", x, 2, 1, 1);
        record(x, 0, 1, 3, 1);
        copiesDue("the least set", x, 2, 1, 0);
        LastTongue y = studio();
        y.tape(2);
        y.tape(2);
        record(y, 0, 5, 0, 2);
        record(y, 1, 4, 2, 2);
        copiesDue("the fewest DAYS ahead of the least set", y, 2, 1, 1);
        record(y, 1, 1, 2, 1);
        copiesDue("the least set", y, 2, 2, 0);
        record(y, 1, 1, 4, 1);
        copiesDue("most WORTH ahead of all", y, 3, 2, 1);
        LastTongue z = studio();
        z.tape(3);
        z.tape(1);
        z.tape(2);
        z.tape(3);
        record(z, 0, 12, 0, 3);
        for (int t = 1; t < 4; t++) record(z, t, 4, 2 + t, 1);
        copiesDue("3 of one, or 1 of each of three", z, 3, 3, 0);
        record(z, 3, 1, 6, 1);
        copiesDue("3 of two, in 3 DAYS, too", z, 3, 3, 0);
        // The first is GONE later than the second, and there is time for one.
        LastTongue v = studio();
        v.tape(3);
        v.tape(2);
        record(v, 0, 5, 0, 1);
        record(v, 1, 5, 1, 1);
        copiesDue("the least set, though GONE later", v, 1, 2, 0);
        record(v, 1, 1, 2, 1);
        copiesDue("most WORTH ahead of the least set", v, 2, 2, 1);
        LastTongue u = studio();
        u.tape(2);
        u.tape(1);
        record(u, 0, 5, 0, 2);
        record(u, 1, 4, 2, 2);
        copiesDue("the fewest DAYS ahead of the least set", u, 2, 1, 1);
        LastTongue w = studio();
        for (int t = 0; t < 16; t++) w.tape(1);
        record(w, 15, 1, 0, 1);
        copiesDue("the last TAPE", w, 1, 1, 15);
        record(w, 8, 1, 1, 1);
        copiesDue("the least set", w, 1, 1, 8);
    }

    private static void firstTwelve() {
        by("COPIES: of TAPES that are not GONE and have WORTH above 0 (at most the first 12),");
        LastTongue x = studio();
        for (int t = 0; t < 16; t++) x.tape(t == 2 ? 1 : 400 - t);
        record(x, 2, 1, 20, 1);
        record(x, 4, 1, 21, 1);
        record(x, 5, 1, 21, 1);
        x.day();
        // 2 is GONE, 4 and 5 have no WORTH; 0 is without a ROW. So 1, 3 and 6 .. 15 are twelve.
        for (int t = 1; t < 16; t++) if (t != 2 && t != 4 && t != 5) record(x, t, 1, t, 1);
        copiesDue("twelve", x, 12, 12, 1, 3, 6, 7, 8, 9, 10, 11, 12, 13, 14, 15);
        record(x, 0, 2, 22, 2);
        copiesDue("the thirteenth is not of them", x, 13, 12, 0, 1, 3, 6, 7, 8, 9, 10, 11, 12, 13, 14);
        record(x, 15, 5, 16, 4);
        copiesDue("whatever its WORTH", x, 13, 12, 0, 1, 3, 6, 7, 8, 9, 10, 11, 12, 13, 14);
        record(x, 15, 1, 1, 1);
        copiesDue("1 has none any more, so it is", x, 17, 13, 0, 3, 6, 7, 8, 9, 10, 11, 12, 13, 14, 15);
    }

    private static void schools() {
        by("SCHOOLS for a sum: of TONGUES, each with a COST (1 .. 999, 100 at first) and as many MEANINGS as some PERSON of it SAYS: the set, within the sum, with the most of these together; then the least COST; then the least bits.");
        LastTongue x = tongues(6);
        for (int m = 0; m < 24; m++) x.word(0, m, 1);
        schoolsDue("nobody SAYS a thing", x, 10000, 0, 0, 0);
        for (int t = 0; t < 6; t++) { x.person(SPEAKER, 0, t, 0); x.have(t, ALL); }
        schoolsDue("for 0", x, 0, 0, 0, 0);
        schoolsDue("for 99", x, 99, 0, 0, 0);
        schoolsDue("for 100", x, 100, 24, 100, 1);
        schoolsDue("for 199", x, 199, 24, 100, 1);
        schoolsDue("for 600", x, 600, 144, 600, 63);
        schoolsDue("for 10000", x, 10000, 144, 600, 63);
        due("for 10001", x.schools(10001, 0), NONE);
        due("for -1", x.schools(-1, 0), NONE);
        due("what 3", x.schools(100, 3), NONE);
        due("what -1", x.schools(100, -1), NONE);
        no("COST 0", x.cost(0, 0));
        no("COST 1000", x.cost(0, 1000));
        no("COST -1", x.cost(0, -1));
        no("of TONGUE 6", x.cost(6, 1));
        no("of TONGUE -1", x.cost(-1, 1));
        for (int t = 0; t < 6; t++) yes("COST 999", x.cost(t, 999));
        schoolsDue("for 5993", x, 5993, 120, 4995, 31);
        schoolsDue("for 5994", x, 5994, 144, 5994, 63);
        for (int t = 0; t < 6; t++) yes("COST 1", x.cost(t, 1));
        schoolsDue("for 5", x, 5, 120, 5, 31);
        schoolsDue("for 1", x, 1, 24, 1, 1);
        x.cost(0, 2);
        schoolsDue("the least COST ahead of the least bits", x, 2, 48, 2, 6);
        schoolsDue("the least COST ahead of the least bits", x, 1, 24, 1, 2);
        x.have(5, ALL >> 1);
        schoolsDue("most MEANINGS ahead of the least COST", x, 6, 24 * 5, 6, 31);
        x.have(1, 0);
        schoolsDue("who SAYS nothing costs nothing", x, 10000, 24 * 4 + 23, 6, 61);
        x.person(KEEPER, 0, 1, 0);
        x.have(6, 7);
        x.person(HALF, 0, 1, 0);
        x.have(7, 14);
        schoolsDue("SAID by one or another, each once", x, 10000, 24 * 4 + 23 + 4, 7, 63);
        x.health(7, 0);
        schoolsDue("one is dead", x, 10000, 24 * 4 + 23 + 3, 7, 63);
    }
    private static void schoolsDue(String what, LastTongue x, int sum, int meanings, int cost, int set) {
        due(what + ", MEANINGS", x.schools(sum, 0), meanings);
        due(what + ", COST", x.schools(sum, 1), cost);
        due(what + ", set", x.schools(sum, 2), set);
    }

    // Term 7

    private static void taught() {
        taughtForHours();
        whoCanBeTaught();
        skillGoes();
    }

    /** LEARNER 0, SPEAKER 1, HALF 2, KEEPER 3, WORKER 4, LEARNER 5, all at PLACE 0. */
    private static LastTongue school() {
        LastTongue x = worded("1");
        int[] kinds = {LEARNER, SPEAKER, HALF, KEEPER, WORKER, LEARNER};
        for (int kind : kinds) person(x, kind, 0, kind == LEARNER ? 0 : 0x7F << kind);
        return x;
    }

    private static void taughtForHours() {
        by("for h HOURS that both have: SKILL is 2 * h more (HALF: h), 200 at most; it HAS as many MEANINGS more as h, the least of those that the teacher HAS and it has not.");
        for (int h = 1; h <= 8; h++) {
            int[] teachers = {1, 2, 3};
            for (int t : teachers) {
                LastTongue x = school();
                due("SKILL by " + t + " for " + h, x.teach(0, t, h), t == 2 ? h : 2 * h);
                due("SKILL is that", x.tell(0, 7), t == 2 ? h : 2 * h);
                due("HOURS of both", x.tell(0, 8) * 10 + x.tell(t, 8), (8 - h) * 11);
                int kind = x.tell(t, 0);
                due("MEANINGS", x.tell(0, 5), (1 << Math.min(h, 7)) - 1 << kind);
                due("the teacher HAS what it had", x.tell(t, 5), 0x7F << kind);
            }
        }
        LastTongue x = school();
        due("9 HOURS", x.teach(0, 1, 9), NONE);
        due("0 HOURS", x.teach(0, 1, 0), NONE);
        due("-1 HOURS", x.teach(0, 1, -1), NONE);
        due("nothing changed", x.tell(0, 7) + x.tell(0, 5) + x.tell(0, 8) - x.tell(1, 8), 0);
        due("5 of 8 HOURS", x.teach(0, 1, 5), 10);
        due("the learner has 3", x.teach(0, 3, 4), NONE);
        due("the teacher has 3", x.teach(5, 1, 4), NONE);
        due("these 3", x.teach(0, 3, 3), 16);
        due("no HOUR", x.teach(0, 3, 1), NONE);
        due("those 3", x.teach(5, 1, 3), 6);
        due("no HOUR", x.teach(5, 1, 1), NONE);
        x.day();
        x.have(0, 0x55);
        x.have(1, 0x800EB1);
        due("those it has not: 5, 7, 9", x.teach(0, 1, 3), 22);
        due("the least of them", x.tell(0, 5), 0x55 | 0x2A0);
        due("10, 11 and 23", x.teach(0, 1, 5), 32);
        due("all that the teacher HAS", x.tell(0, 5), 0x55 | 0x800EB1);
        x.day();
        due("nothing is left, but SKILL is more", x.teach(0, 1, 1), 34);
        due("as before", x.tell(0, 5), 0x55 | 0x800EB1);
        due("an HOUR of who is asked counts, too", x.ask(4, 1, 0, NONE), 0);
        due("six are left", x.teach(5, 1, 7), NONE);
        for (int i = 0; i < 10; i++) { x.day(); x.teach(0, 3, 8); }
        due("194", x.tell(0, 7), 194);
        due("196", x.teach(0, 1, 1), NONE);
        x.day();
        due("200 at most", x.teach(0, 1, 4), 200);
        due("200 at most", x.teach(0, 1, 1), 200);
        due("200 at most, by a HALF", x.teach(0, 2, 3), 200);
        due("its HOURS are spent", x.tell(0, 8), 0);
        x.day();
        x.day();
        due("199", x.tell(0, 7), 199);
        due("200, by a HALF", x.teach(0, 2, 1), 200);
        due("200 at most, by a HALF", x.teach(0, 2, 7), 200);
    }

    private static void whoCanBeTaught() {
        by("TAUGHT: a LEARNER by a living SPEAKER, HALF or KEEPER of its TONGUE at the same PLACE,");
        LastTongue x = school();
        for (int learner = 0; learner < 6; learner++) {
            for (int teacher = 0; teacher < 6; teacher++) {
                boolean can = (learner == 0 || learner == 5) && teacher >= 1 && teacher <= 3;
                int answer = x.teach(learner, teacher, 1);
                due(learner + " by " + teacher, answer == NONE ? 0 : 1, can ? 1 : 0);
            }
        }
        due("by PERSON 6", x.teach(0, 6, 1), NONE);
        due("PERSON 6", x.teach(6, 1, 1), NONE);
        due("by PERSON -1", x.teach(0, -1, 1), NONE);
        due("PERSON -1", x.teach(-1, 1, 1), NONE);
        x.tongue(0);
        x.person(SPEAKER, 0, 1, 0);
        due("of another TONGUE", x.teach(0, 6, 1), NONE);
        x.road(0, 1, 2);
        x.go(1, 1);
        due("the teacher is on the ROAD", x.teach(0, 1, 1), NONE);
        x.go(0, 1);
        due("both are", x.teach(0, 1, 1), NONE);
        x.day();
        x.day();
        // 2, 1 and 2, and one less for the second DAY.
        due("both are there", x.teach(0, 1, 1), 4 + 2);
        due("the teacher is at another PLACE", x.teach(0, 3, 1), NONE);
        due("so is the learner", x.teach(5, 1, 1), NONE);
        x.health(1, 0);
        due("the teacher is dead", x.teach(0, 1, 1), NONE);
        x.health(5, 0);
        due("the learner is dead", x.teach(5, 3, 1), NONE);
        due("its SKILL is as it was", x.tell(5, 7), 4);
    }

    private static void skillGoes() {
        by("As a DAY ends, each living LEARNER that was not TAUGHT on it has one SKILL less (0 at least).");
        LastTongue x = school();
        x.teach(0, 1, 1);
        x.teach(5, 2, 1);
        x.day();
        due("both were TAUGHT", x.tell(0, 7) * 10 + x.tell(5, 7), 21);
        x.teach(5, 2, 2);
        x.day();
        due("one was not", x.tell(0, 7) * 10 + x.tell(5, 7), 13);
        x.teach(0, 1, 9);
        x.day();
        due("nor was who could not be", x.tell(0, 7) * 10 + x.tell(5, 7), 2);
        days(x, 2);
        due("0 at least", x.tell(0, 7) * 10 + x.tell(5, 7), 0);
        x.day();
        due("0 at least", x.tell(0, 7) * 10 + x.tell(5, 7), 0);
        x.teach(0, 1, 8);
        x.day();
        x.day();
        x.health(0, 0);
        x.day();
        due("who is dead has none fewer", x.tell(0, 7), 15);
        x.teach(5, 1, 4);
        x.go(5, 3);
        x.day();
        x.day();
        due("wherever it is", x.tell(5, 7), 7);
        due("others have none", x.tell(1, 7) + x.tell(2, 7) + x.tell(3, 7) + x.tell(4, 7), 0);
    }

    private static void made() {
        whatIsMade();
        sixSoundsAtMost();
        noneIfMakeIsNo();
    }

    private static void madeDue(String what, LastTongue x, int tongue, int meaning, String... forms) {
        for (int k = 0; k < forms.length; k++) due(what + ", MADE " + k, x.make(0, tongue, meaning, k), f(forms[k]));
        due(what + ", no more", x.make(0, tongue, meaning, forms.length), NONE);
        due(what + ", none ahead", x.make(0, tongue, meaning, -1), NONE);
    }

    private static void whatIsMade() {
        by("MADE for a MEANING in a TONGUE: of each two unlike MEANINGS of its FIELD with WORDS there, both WORDS one behind the other (in either order), by all RULES of the TONGUE: all these FORMS that are no WORD there, by number, each once;");
        LastTongue x = tongues(2);
        x.person(WORKER, 0, 0, 0);
        madeDue("no WORDS", x, 0, 0);
        x.word(0, 0, f("2"));
        madeDue("one WORD", x, 0, 0);
        x.word(0, 23, f("1"));
        madeDue("two WORDS", x, 0, 0, "12", "21");
        madeDue("of a third MEANING of the FIELD", x, 0, 7, "12", "21");
        x.word(0, 23, f("2"));
        madeDue("two WORDS alike, of unlike MEANINGS", x, 0, 0, "22");
        x.word(0, 23, f("1"));
        x.field(23, 3);
        madeDue("of unlike FIELDS", x, 0, 0);
        madeDue("of the other FIELD", x, 0, 23);
        x.field(0, 3);
        madeDue("of that FIELD", x, 0, 0, "12", "21");
        madeDue("of the first FIELD none are left", x, 0, 7);
        x.word(0, 7, f("12"));
        madeDue("what is a WORD there, of whatever FIELD", x, 0, 0, "21");
        x.word(1, 8, f("21"));
        madeDue("a WORD of another TONGUE does not count", x, 0, 0, "21");
        // In TONGUE 1, with the BREAK 21, both are WORDS.
        madeDue("in the child", x, 1, 0);
        x.rule(1, 1, 3, 0, 0);
        x.rule(1, 3, 4, 9, 0);
        // WORDS 2, 4, 42 and 21: by the RULES 24 becomes 24, 42 stays 42, which is a WORD.
        madeDue("by the RULES", x, 1, 0, "24");
        x.word(1, 7, f("5"));
        madeDue("that WORD is another now", x, 1, 0, "24", "42");
        x.word(1, 23, f("1"));
        // 21 becomes 23; 12 becomes 32, then 42.
        madeDue("a BREAK, too", x, 1, 0, "23", "42");
        LastTongue y = tongues(1);
        y.person(WORKER, 0, 0, 0);
        y.word(0, 0, f("1"));
        y.word(0, 1, f("11"));
        y.word(0, 2, f("111"));
        // 111 is a WORD; 1111 and 11111 each come twice.
        madeDue("each once", y, 0, 0, "1111", "11111");
        y.rule(0, 1, 0, 1, 0);
        madeDue("all become 1, a WORD", y, 0, 0);
        y.word(0, 0, f("8"));
        // 18 and 81: of 118, 1118, 811, 8111; 1 of the others.
        madeDue("by number", y, 0, 0, "1", "18", "81");
    }

    private static void sixSoundsAtMost() {
        by("if that is 6 SOUNDS at most,");
        String six = "123456";
        for (int a = 1; a <= 6; a++) {
            for (int b = 1; b <= 6; b++) {
                LastTongue x = tongues(1);
                x.person(WORKER, 0, 0, 0);
                x.word(0, 0, f(six.substring(0, a)));
                x.word(0, 1, f("888888".substring(0, b)));
                String both = six.substring(0, a) + "888888".substring(0, b), other = "888888".substring(0, b) + six.substring(0, a);
                if (a + b <= 6) madeDue(both, x, 0, 0, both, other);
                else madeDue(both, x, 0, 0);
                x.rule(0, 8, 0, 0, 0);
                if (a + b > 6) madeDue("ahead of the RULES, " + both, x, 0, 0);
            }
        }
        LastTongue long4 = worded("1234");
        long4.person(WORKER, 0, 0, 0);
        madeDue("all MEANINGS have WORDS, of 4 SOUNDS", long4, 0, 0);
        long4.word(0, 23, f("12"));
        madeDue("one has a WORD of 2", long4, 0, 0, "121234", "123412");
    }

    private static void noneIfMakeIsNo() {
        by("none if make is no (a PERSON is teller and hearer).");
        LastTongue x = worded("1");
        x.person(WORKER, 2, 0, 0);
        x.person(SPEAKER, 1, 0, 0);
        due("no text", x.make(0, 0, 0, 0), f("11"));
        x.field(23, 1);
        x.field(22, 1);
        custom(x, "make if kin and clan=2 and ear=2 and field=1:no;say:no;", 0);
        due("make is no", x.make(0, 0, 23, 0), NONE);
        due("of another FIELD", x.make(0, 0, 0, 0), f("11"));
        due("to another PERSON", x.make(1, 0, 23, 0), f("11"));
        x.health(0, 0);
        custom(x, "make if dead>0:no;make if kind=4:yes;make:no;", 0);
        due("dead today", x.make(0, 0, 23, 0), f("11"));
        due("another", x.make(1, 0, 23, 0), NONE);
        x.day();
        due("dead since yesterday", x.make(0, 0, 23, 0), NONE);
        LastTongue y = worded("1");
        y.person(WORKER, 0, 0, 0);
        due("PERSON 1", y.make(1, 0, 0, 0), NONE);
        due("PERSON -1", y.make(-1, 0, 0, 0), NONE);
        due("TONGUE 1", y.make(0, 1, 0, 0), NONE);
        due("TONGUE -1", y.make(0, -1, 0, 0), NONE);
        due("MEANING 24", y.make(0, 0, 24, 0), NONE);
        due("MEANING -1", y.make(0, 0, -1, 0), NONE);
        due("MEANING 23", y.make(0, 0, 23, 0), f("11"));
    }

    private static void printedAndGranted() {
        printedAtMost();
        fell();
        grantsAtMost();
        keptOpenLost();
    }

    private static void printedAtMost() {
        by("PRINTED, at most 40, from 0 on: a WORD as it is then, if print MAY BE (of the PERSON of the latest ROW of it, and who prints).");
        LastTongue x = village();
        due("no ROW", x.print(0, 1, 0), NONE);
        x.ask(0, 1, 0, NONE);
        for (int k = 0; k < 40; k++) {
            if (k % 10 == 9) x.day();
            due("PRINTED", x.print(k % 2, 1, 0), k);
            due("its DAY", x.printed(k, 3), (k + 1) / 10);
            due("how many", x.count(6), k + 1);
        }
        due("a 41st", x.print(0, 1, 0), NONE);
        due("how many", x.count(6), 40);
        due("of a 41st", x.printed(40, 0), NONE);
        LastTongue y = village();
        y.person(SPEAKER, 2, 1, 0);
        y.have(2, 1);
        y.tape(1);
        y.ask(0, 1, 0, NONE);
        custom(y, "print if clan=2 and ear=0 and kind=4:no;", 0);
        due("of the PERSON of the ROW", y.print(0, 1, 0), 0);
        y.ask(0, 2, 0, 0);
        y.ask(0, 1, 1, NONE);
        due("of the latest of it", y.print(0, 1, 0), NONE);
        due("by another ear", y.print(1, 1, 0), 1);
        due("of another MEANING", y.print(0, 1, 1), 2);
        y.day();
        due("though its TAPE is GONE", y.print(0, 1, 0), NONE);
        y.ask(0, 1, 0, NONE);
        due("of a later one", y.print(0, 1, 0), 3);
        y.health(0, 0);
        y.health(1, 0);
        due("nobody needs to live", y.print(0, 1, 0), 4);
        y.word(0, 0, f("4"));
        due("the WORD of now", y.printed(y.print(0, 1, 0), 2), f("4"));
        due("the WORD of then", y.printed(4, 2), f("1"));
        y.word(0, 0, 0);
        due("no WORD", y.print(0, 1, 0), NONE);
        due("no ROW of that TONGUE", y.print(0, 0, 1), NONE);
    }

    private static void fell() {
        by("It FELL if the WORD is another one now, or none.");
        LastTongue x = village();
        x.ask(0, 1, 1, NONE);
        x.print(0, 1, 1);
        due("as it was", x.printed(0, 4) * 10 + x.count(7), 0);
        x.rule(1, 2, 3, 0, 0);
        due("another by a RULE", x.printed(0, 4) * 10 + x.count(7), 11);
        x.print(0, 1, 1);
        due("the other as it is", x.printed(1, 4) * 10 + x.count(7), 1);
        x.unrule(1);
        due("then that one FELL", x.printed(0, 4) * 100 + x.printed(1, 4) * 10 + x.count(7), 11);
        x.word(0, 1, 0);
        due("none: both FELL", x.printed(0, 4) * 100 + x.printed(1, 4) * 10 + x.count(7), 112);
        x.word(1, 1, f("12"));
        due("the same by a BREAK", x.printed(0, 4) * 100 + x.printed(1, 4) * 10 + x.count(7), 11);
        x.field(1, 3);
        days(x, 5);
        due("no DAY changes it", x.printed(0, 4), 0);
    }

    private static void grantsAtMost() {
        by("GRANTS, at most 8, from 0 on: n MEANINGS of a TONGUE, 1 .. 24, by a DAY.");
        LastTongue x = village();
        due("0 MEANINGS", x.grant(1, 0, 5), NONE);
        due("25 MEANINGS", x.grant(1, 25, 5), NONE);
        due("-1 MEANINGS", x.grant(1, -1, 5), NONE);
        due("TONGUE 2", x.grant(2, 1, 5), NONE);
        due("TONGUE -1", x.grant(-1, 1, 5), NONE);
        due("by DAY -1", x.grant(1, 1, -1), NONE);
        due("by DAY 1000", x.grant(1, 1, 1000), NONE);
        for (int g = 0; g < 8; g++) {
            due("how many", x.count(8), g);
            due("GRANT", x.grant(g % 2, g % 2 == 0 ? 1 : 24, g % 3 == 0 ? 0 : 999), g);
        }
        due("a ninth", x.grant(1, 1, 5), NONE);
        due("how many", x.count(8), 8);
        due("of a ninth", x.granted(8, 0), NONE);
        due("of GRANT -1", x.granted(-1, 0), NONE);
        due("what 2", x.granted(7, 2), NONE);
        due("what -1", x.granted(7, -1), NONE);
        LastTongue y = worded("1");
        for (int w = 0; w < 3; w++) person(y, WORKER, 0, 0);
        for (int s = 0; s < 3; s++) person(y, SPEAKER, 0, ALL);
        y.grant(0, 24, 0);
        for (int m = 0; m < 24; m++) {
            due("not yet all", y.granted(0, 0), 0);
            due("how many", y.granted(0, 1), m);
            y.ask(m / 8, 3 + m / 8, m, NONE);
        }
        due("all 24", y.granted(0, 0), 1);
        due("all 24", y.granted(0, 1), 24);
    }

    private static void keptOpenLost() {
        by("1 kept: so many have ROWS of that DAY or earlier; else 0 open: that DAY is not over, and with those that have no ROW, but are SAID by some PERSON, there are n; else 2 lost.");
        LastTongue x = village();
        x.person(SPEAKER, 0, 0, 0);
        x.have(2, 0x3F);
        x.grant(1, 2, 3);
        x.grant(1, 6, 3);
        x.grant(1, 7, 3);
        x.grant(1, 2, 4);
        stateDue("at first", x, 0, 0, 2, 0);
        x.ask(0, 2, 0, NONE);
        due("a ROW of another TONGUE", x.granted(0, 1), 0);
        x.ask(0, 1, 0, NONE);
        x.ask(0, 1, 0, NONE);
        due("one MEANING by two ROWS, without a TAPE", x.granted(0, 1), 1);
        stateDue("one", x, 0, 0, 2, 0);
        x.have(1, 0x3E);
        stateDue("one has a ROW, five are SAID", x, 0, 0, 2, 0);
        x.have(1, 0x3F);
        stateDue("what has a ROW and is SAID counts once", x, 0, 0, 2, 0);
        x.have(1, 0x3C);
        stateDue("five together", x, 0, 2, 2, 0);
        x.have(1, 0);
        stateDue("one alone", x, 2, 2, 2, 2);
        x.have(1, 0x3F);
        days(x, 3);
        stateDue("that DAY is not over", x, 0, 0, 2, 0);
        x.day();
        stateDue("that DAY is over", x, 2, 2, 2, 0);
        x.ask(0, 1, 1, NONE);
        stateDue("too late, but for the last", x, 2, 2, 2, 1);
        due("one in time", x.granted(0, 1), 1);
        due("two in time", x.granted(3, 1), 2);
        due("by a DAY that was", x.grant(1, 1, 0), 4);
        due("kept at once", x.granted(4, 0), 1);
        due("one too many", x.granted(x.grant(1, 2, 0), 0), 2);
        x.health(1, 0);
        x.health(2, 0);
        x.day();
        stateDue("kept stays kept", x, 2, 2, 2, 1);
        LastTongue y = village();
        y.grant(1, 1, 2);
        days(y, 2);
        y.ask(0, 1, 0, NONE);
        due("a ROW of that DAY", y.granted(0, 0), 1);
        LastTongue z = village();
        z.grant(0, 1, 9);
        due("SAID by a PERSON of another TONGUE", z.granted(0, 0), 2);
        z.person(HALF, 0, 0, 0);
        z.have(2, 1);
        due("SAID by some PERSON", z.granted(0, 0), 0);
        z.field(0, 1);
        due("a HALF that does not SAY it", z.granted(0, 0), 2);
        LastTongue first = tongues(1);
        first.word(0, 0, 1);
        person(first, SPEAKER, 0, 1);
        first.grant(0, 1, 0);
        due("SAID by PERSON 0", first.granted(0, 0), 0);
        first.day();
        due("its DAY is over", first.granted(0, 0), 2);
    }
    private static void stateDue(String what, LastTongue x, int... states) {
        for (int g = 0; g < states.length; g++) due(what + ", GRANT " + g, x.granted(g, 0), states[g]);
    }
}
