/** For each promise of the document: ordinary inputs, the edges that it names, and wrong inputs. */
public final class PromisesTest extends Checks {
    public static void main(String[] args) {
        by("promise 1"); aNewObject();
        by("promise 2"); tongue();
        by("promise 3"); rule();
        by("promise 4"); unrule();
        by("promise 5"); word();
        by("promise 6"); form();
        by("promise 7"); field();
        by("promise 8"); road();
        by("promise 9"); person();
        by("promise 10"); have();
        by("promise 11"); health();
        by("promise 12"); go();
        by("promise 13"); day();
        by("promise 14"); tell();
        by("promise 15"); feed();
        by("promise 16"); end();
        by("promise 17"); custom();
        by("promise 18"); fault();
        by("promise 19"); may();
        by("promise 20"); why();
        by("promise 21"); writes();
        by("promise 22"); letter();
        by("promise 23"); tape();
        by("promise 24"); copy();
        by("promise 25"); about();
        by("promise 26"); ask();
        by("promise 27"); row();
        by("promise 28"); play();
        by("promise 29"); known();
        by("promise 30"); same();
        by("promise 31"); find();
        by("promise 32"); reading();
        by("promise 33"); next();
        by("promise 34"); visits();
        by("promise 35"); visited();
        by("promise 36"); copies();
        by("promise 37"); cost();
        by("promise 38"); schools();
        by("promise 39"); teach();
        by("promise 40"); make();
        by("promise 41"); print();
        by("promise 42"); printed();
        by("promise 43"); grant();
        by("promise 44"); granted();
        by("promise 45"); count();
        by("promise 46"); image();
        by("promise 47"); again();
        finish();
    }

    private static void aNewObject() {
        LastTongue x = new LastTongue();
        for (int what = 0; what <= 10; what++) due("count(" + what + ")", x.count(what), what == 9 ? NONE : 0);
        due("fault(0)", x.fault(0), 0);
        due("fault(1)", x.fault(1), NONE);
        due("end(0)", x.end(0), 0);
        due("end(1)", x.end(1), NONE);
        for (int k = 0; k < 3; k++) no("again", x.again(k));
        due("NONE", LastTongue.NONE, -1);
        due("copies", x.copies(0) + x.copies(1) + x.copies(2), 0);
        due("schools", x.schools(10000, 0) + x.schools(0, 1) + x.schools(5, 2), 0);
    }

    private static void tongue() {
        LastTongue x = new LastTongue();
        due("parent that is not there", x.tongue(0), NONE);
        due("first", x.tongue(NONE), 0);
        due("itself as parent", x.tongue(1), NONE);
        due("second", x.tongue(0), 1);
        for (int odd : ODD) if (odd != NONE) due("parent " + odd, x.tongue(odd), NONE);
        for (int i = 2; i < 6; i++) due("more", x.tongue(i - 1), i);
        due("a seventh", x.tongue(NONE), NONE);
        due("how many", x.count(0), 6);
    }

    private static void ruled(String word, int x, int y, int c, int d, String made) {
        LastTongue t = new LastTongue();
        t.tongue(NONE);
        t.tongue(0);
        t.word(0, 0, f(word));
        due("rule", t.rule(1, x, y, c, d), 0);
        due(word + " by " + x + y + c + d, t.form(1, 0), f(made));
    }
    private static void rule() {
        ruled("121", 1, 3, 0, 0, "323");
        ruled("311", 1, 2, 3, 0, "321");
        ruled("113", 1, 2, 0, 3, "123");
        ruled("111", 1, 2, 1, 0, "122");
        ruled("111", 1, 2, 0, 1, "221");
        ruled("111", 1, 2, 1, 1, "121");
        ruled("111", 1, 2, 9, 0, "211");
        ruled("111", 1, 2, 0, 9, "112");
        ruled("1", 1, 2, 9, 9, "2");
        ruled("11", 1, 2, 9, 9, "11");
        ruled("121", 1, 0, 0, 0, "2");
        ruled("111", 1, 0, 0, 0, "111");
        ruled("111", 1, 0, 1, 0, "1");
        ruled("888888", 8, 1, 8, 8, "811118");
        ruled("812345", 8, 0, 9, 0, "12345");
        LastTongue x = new LastTongue();
        due("no such tongue", x.rule(0, 1, 2, 0, 0), NONE);
        x.tongue(NONE);
        int[][] cannot = {{0, 1, 0, 0}, {9, 1, 0, 0}, {1, 1, 0, 0}, {1, 9, 0, 0}, {1, -1, 0, 0}, {1, 2, -1, 0}, {1, 2, 10, 0}, {1, 2, 0, -1}, {1, 2, 0, 10}};
        for (int[] r : cannot) due("a rule that can't be", x.rule(0, r[0], r[1], r[2], r[3]), NONE);
        for (int i = 0; i < 6; i++) due("number", x.rule(0, 8, 0, 9, 9), i);
        due("a seventh", x.rule(0, 1, 2, 0, 0), NONE);
        for (int odd : ODD) due("tongue " + odd, x.rule(odd, 1, 2, 0, 0), NONE);
        LastTongue y = new LastTongue();
        y.tongue(NONE);
        y.tongue(0);
        y.word(0, 0, f("1"));
        y.rule(1, 1, 2, 0, 0);
        y.rule(1, 2, 3, 0, 0);
        due("one behind the other", y.form(1, 0), f("3"));
    }

    private static void unrule() {
        LastTongue x = new LastTongue();
        no("no such tongue", x.unrule(0));
        x.tongue(NONE);
        x.tongue(0);
        no("it has none", x.unrule(1));
        x.word(0, 0, f("1"));
        x.rule(1, 1, 2, 0, 0);
        x.rule(1, 2, 3, 0, 0);
        yes("the last", x.unrule(1));
        due("the first stays", x.form(1, 0), f("2"));
        due("its number is free", x.rule(1, 2, 4, 0, 0), 1);
        yes("again", x.unrule(1));
        yes("the first", x.unrule(1));
        no("none is left", x.unrule(1));
        due("as the parent", x.form(1, 0), f("1"));
        for (int odd : ODD) no("tongue " + odd, x.unrule(odd));
    }

    private static void word() {
        LastTongue x = new LastTongue();
        no("no such tongue", x.word(0, 0, 1));
        x.tongue(NONE);
        x.tongue(0);
        x.rule(1, 1, 2, 0, 0);
        yes("a word", x.word(0, 0, f("11")));
        due("10 is 1, 1", x.form(0, 0), 10);
        yes("a break", x.word(1, 0, f("1")));
        due("no rule works on a break", x.form(1, 0), f("1"));
        yes("none any more", x.word(1, 0, 0));
        due("by the rule again", x.form(1, 0), f("22"));
        yes("none of none", x.word(1, 5, 0));
        int[] noForm = {9, 18, -1, 81, 90, 531441, 531442, Integer.MAX_VALUE, Integer.MIN_VALUE, f("101"), f("100000")};
        for (int n : noForm) no("no form " + n, x.word(0, 0, n));
        due("nothing changed", x.form(0, 0), 10);
        yes("the longest", x.word(0, 23, 531440));
        due("888888", x.form(0, 23), f("888888"));
        no("meaning 24", x.word(0, 24, 1));
        for (int odd : ODD) { no("meaning " + odd, x.word(0, odd, 1)); no("tongue " + odd, x.word(odd, 0, 1)); }
    }

    private static void form() {
        LastTongue x = new LastTongue();
        due("no such tongue", x.form(0, 0), 0);
        x.tongue(NONE);
        x.tongue(0);
        x.tongue(1);
        due("no word", x.form(2, 3), 0);
        x.word(0, 3, f("123"));
        x.rule(1, 1, 0, 0, 0);
        x.rule(2, 2, 4, 9, 0);
        due("the oldest", x.form(0, 3), f("123"));
        due("its child", x.form(1, 3), f("23"));
        due("and its", x.form(2, 3), f("43"));
        x.word(1, 3, f("22"));
        due("a break goes on to the children", x.form(2, 3), f("42"));
        due("a late child has the words too", x.form(x.tongue(2), 3), f("42"));
        x.word(0, 3, 0);
        due("still by the break", x.form(2, 3), f("42"));
        x.word(1, 3, 0);
        due("none any more", x.form(2, 3), 0);
        due("meaning 24", x.form(0, 24), 0);
        for (int odd : ODD) { due("meaning " + odd, x.form(0, odd), 0); due("tongue " + odd, x.form(odd, 3), 0); }
        LastTongue y = new LastTongue();
        y.tongue(NONE);
        y.rule(0, 1, 2, 0, 0);
        y.word(0, 0, f("1"));
        due("rules of a tongue without a parent touch no word", y.form(0, 0), f("1"));
    }

    private static void field() {
        LastTongue x = village();
        x.person(HALF, 0, 1, 0);
        x.have(2, 7);
        due("all of field 0", x.tell(2, 6), 7);
        yes("field", x.field(1, 3));
        due("a half says field 0 alone", x.tell(2, 6), 5);
        yes("field", x.field(1, 0));
        due("again", x.tell(2, 6), 7);
        no("field 4", x.field(1, 4));
        no("meaning 24", x.field(24, 1));
        for (int odd : ODD) { no("field " + odd, x.field(1, odd)); no("meaning " + odd, x.field(odd, 1)); }
        due("nothing changed", x.tell(2, 6), 7);
        yes("the last", x.field(23, 3));
    }

    private static void road() {
        LastTongue x = village();
        yes("two days", x.road(0, 1, 2));
        yes("go", x.go(1, 1));
        days(x, 1);
        due("on the road", x.tell(1, 3), NONE);
        days(x, 1);
        due("there", x.tell(1, 3), 1);
        yes("back", x.go(1, 0));
        days(x, 1);
        due("both ways alike", x.tell(1, 3), NONE);
        days(x, 1);
        due("back", x.tell(1, 3), 0);
        yes("no day", x.road(5, 0, 0));
        yes("go", x.go(1, 5));
        due("at once", x.tell(1, 3), 5);
        no("one place", x.road(1, 1, 1));
        no("ten days", x.road(0, 1, 10));
        no("place 6", x.road(0, 6, 1));
        no("place 6", x.road(6, 0, 1));
        yes("nine days", x.road(0, 1, 9));
        for (int odd : ODD) { no("a " + odd, x.road(odd, 1, 1)); no("b " + odd, x.road(0, odd, 1)); no("days " + odd, x.road(0, 1, odd)); }
    }

    private static void person() {
        LastTongue x = new LastTongue();
        due("no tongue", x.person(0, 0, 0, 0), NONE);
        x.tongue(NONE);
        due("first", x.person(KEEPER, 2, 0, 5), 0);
        int[] want = {3, 2, 0, 5, 100, 0, 0, 0, 8, 0, NONE, 0, 0};
        for (int what = 0; what < want.length; what++) due("tell " + what, x.tell(0, what), want[what]);
        due("kind 5", x.person(5, 0, 0, 0), NONE);
        due("clan 4", x.person(0, 4, 0, 0), NONE);
        due("tongue 1", x.person(0, 0, 1, 0), NONE);
        due("place 6", x.person(0, 0, 0, 6), NONE);
        for (int odd : ODD) {
            due("kind " + odd, x.person(odd, 0, 0, 0), NONE);
            due("clan " + odd, x.person(0, odd, 0, 0), NONE);
            due("tongue " + odd, x.person(0, 0, odd, 0), NONE);
            due("place " + odd, x.person(0, 0, 0, odd), NONE);
        }
        for (int i = 1; i < 16; i++) due("more", x.person(i % 5, i % 4, 0, i % 6), i);
        due("a seventeenth", x.person(0, 0, 0, 0), NONE);
    }

    private static void have() {
        LastTongue x = village();
        yes("all", x.have(1, 0xFFFFFF));
        due("has", x.tell(1, 5), 0xFFFFFF);
        yes("none", x.have(1, 0));
        due("has none", x.tell(1, 5), 0);
        no("bit 24", x.have(1, 1 << 24));
        no("below 0", x.have(1, -1));
        no("no such", x.have(2, 1));
        for (int odd : ODD) no("person " + odd, x.have(odd, 1));
        x.health(1, 0);
        yes("the dead have too", x.have(1, 5));
        due("has", x.tell(1, 5), 5);
    }

    private static void health() {
        LastTongue x = village();
        yes("weak", x.health(1, 1));
        due("tell", x.tell(1, 4), 1);
        no("101", x.health(1, 101));
        yes("100", x.health(1, 100));
        for (int odd : ODD) { no("health " + odd, x.health(1, odd)); no("person " + odd, x.health(odd, 5)); }
        days(x, 2);
        due("alive", x.tell(1, 10), NONE);
        due("says", x.tell(1, 6), 0x3F);
        yes("dies", x.health(1, 0));
        due("today", x.tell(1, 10), 2);
        due("health", x.tell(1, 4), 0);
        due("says nothing", x.tell(1, 6), 0);
        due("still has", x.tell(1, 5), 0x3F);
        no("is dead", x.health(1, 50));
        no("is dead", x.health(1, 0));
        days(x, 1);
        due("that day stays", x.tell(1, 10), 2);
    }

    private static void go() {
        LastTongue x = village();
        no("there", x.go(1, 0));
        no("place 6", x.go(1, 6));
        no("no such", x.go(2, 1));
        for (int odd : ODD) { no("place " + odd, x.go(1, odd)); no("person " + odd, x.go(odd, 1)); }
        x.road(0, 3, 3);
        yes("goes", x.go(1, 3));
        due("at no place", x.tell(1, 3), NONE);
        no("on the road", x.go(1, 3));
        no("on the road", x.go(1, 0));
        x.road(0, 3, 9);
        days(x, 2);
        due("not yet", x.tell(1, 3), NONE);
        days(x, 1);
        due("as long as the road took when it went", x.tell(1, 3), 3);
        x.road(3, 4, 2);
        x.go(1, 4);
        days(x, 1);
        x.health(1, 0);
        days(x, 5);
        due("who dies on it stays there", x.tell(1, 3), NONE);
        no("is dead", x.go(1, 0));
        x.health(0, 0);
        no("is dead", x.go(0, 1));
        due("the dead stay", x.tell(0, 3), 0);
    }

    private static void day() {
        LastTongue x = village();
        x.person(LEARNER, 0, 1, 0);
        due("a skill", x.teach(2, 1, 2), 4);
        due("hours", x.tell(1, 8), 6);
        due("day 1", x.day(), 1);
        due("hours anew", x.tell(1, 8), 8);
        due("taught that day", x.tell(2, 7), 4);
        due("day 2", x.day(), 2);
        due("not taught", x.tell(2, 7), 3);
        days(x, 10);
        due("0 at least", x.tell(2, 7), 0);
        x.teach(2, 1, 4);
        x.day();
        x.health(2, 0);
        x.day();
        due("a dead learner loses none", x.tell(2, 7), 8);
        LastTongue y = new LastTongue();
        for (int i = 1; i <= 511; i++) if (y.day() != i) due("day " + i, 0, 1);
        LastTongue z = new LastTongue();
        days(z, 999);
        due("day 999", z.count(5), 999);
        due("no more", z.day(), NONE);
        due("day 999 stays", z.count(5), 999);
    }

    private static void tell() {
        LastTongue x = village();
        x.person(LEARNER, 3, 1, 2);
        x.writes(0, 2);
        int[] worker = {WORKER, 0, 0, 0, 100, 0, 0, 0, 8, 2, NONE, 0, 0};
        int[] speaker = {SPEAKER, 1, 1, 0, 100, 0x3F, 0x3F, 0, 8, 0, NONE, 6, 0};
        for (int what = 0; what <= 12; what++) {
            due("worker, " + what, x.tell(0, what), worker[what]);
            due("speaker, " + what, x.tell(1, what), speaker[what]);
        }
        int tape = x.tape(2);
        x.ask(0, 1, 3, tape);
        x.ask(0, 1, 4, NONE);
        due("rows that it knows", x.tell(0, 12), 2);
        due("the speaker knows none", x.tell(1, 12), 0);
        due("hours", x.tell(0, 8) * 10 + x.tell(1, 8), 66);
        due("only, one is held", x.tell(1, 11), 5);
        x.person(KEEPER, 0, 1, 5);
        x.have(3, 3 | 1 << 10);
        due("only, two are said by another; no word for 10", x.tell(1, 11) * 10 + x.tell(3, 11), 30);
        x.person(SPEAKER, 0, 0, 0);
        x.have(4, 0x3F);
        due("another tongue's do not count", x.tell(1, 11) * 10 + x.tell(4, 11), 36);
        x.have(1, 0x7F);
        due("says what has a word alone", x.tell(1, 6), 0x3F);
        days(x, 2);
        due("only, none is held", x.tell(1, 11), 4);
        x.have(2, 3);
        due("a learner says nothing", x.tell(2, 6), 0);
        due("a worker says nothing", x.have(0, 3) ? x.tell(0, 6) : 1, 0);
        for (int odd : ODD) { due("person " + odd, x.tell(odd, 0), -100); due("what " + odd, x.tell(0, odd), -100); }
        due("what 13", x.tell(0, 13), -100);
        due("person 5", x.tell(5, 0), -100);
    }

    private static void feed() {
        LastTongue x = new LastTongue();
        due("twenty", x.feed('s' << 24 | 'a' << 16 | 'y' << 8 | ':', 'n' << 24 | 'o' << 16 | ';' << 8 | ' ', 0x20202020, 0x0A0A0A0A, 0x20202020), 20);
        due("highest first", x.custom(0), 0);
        x.feed(0x20202020, 0x20202020, 0x20202020, 0x20202020, 0x20202080);
        due("the last byte", x.custom(0) + x.fault(1), 18);
        for (int i = 1; i <= 25; i++) due("more", x.feed(-1, -1, -1, -1, -1), 20 * i);
        due("too many", x.feed(0, 0, 0, 0, 0), NONE);
        due("nothing came", x.end(500), 500);
        x.end(481);
        due("one too many", x.feed(0, 0, 0, 0, 0), NONE);
        x.end(480);
        due("just as many", x.feed(0, 0, 0, 0, 0), 500);
    }

    private static void end() {
        LastTongue x = new LastTongue();
        feed(x, "say:no;;");
        due("too many", x.end(9), NONE);
        for (int odd : ODD) due("n " + odd, x.end(odd), NONE);
        due("all", x.end(8), 8);
        due("without the last", x.end(7), 7);
        due("not so many any more", x.end(8), NONE);
        due("a text", x.custom(0), 0);
        due("empty", x.end(1), NONE);
        due("empty", x.end(0), 0);
    }

    private static void custom() {
        LastTongue x = village();
        due("no day", custom(x, "say:no;", 1000), -2);
        due("it is empty", x.end(1), NONE);
        due("no day", custom(x, "!", -1), -2);
        due("fault", x.fault(0), 0);
        due("place", x.fault(1), NONE);
        due("an empty text", x.custom(999), 0);
        due("from day 3", custom(x, "say:no;", 3), 1);
        due("from day 2", custom(x, "say:yes;", 2), 2);
        due("a fault", custom(x, "say:maybe;", 0), NONE);
        due("it is empty", x.end(1), NONE);
        due("no day, so no text is read", custom(x, "say:maybe;", 1000), -2);
        due("and the fault of before is none", x.fault(0), 0);
        due("and has no place", x.fault(1), NONE);
        due("none counts", x.count(9), NONE);
        days(x, 2);
        due("text 2", x.count(9), 2);
        days(x, 1);
        due("told last, not the latest day", x.count(9), 2);
        due("from day 0", custom(x, " \n\n ", 0), 3);
        due("text 3", x.count(9), 3);
        custom(x, "zzz", 0);
        due("there are 4, so no text is read", x.fault(0), 0);
        due("there are 4", custom(x, "say:no;", 0), -2);
        due("it is empty", x.end(1), NONE);
        due("how many", x.count(2), 4);
        x.feed(0, 0, 0, 0, 0);
        for (int odd : ODD) { due("from " + odd, x.custom(odd), -2); due("empty", x.end(1), NONE); }
    }

    private static void fault() {
        String[] fine = {"", " ", "say:no;", "hear:yes;", "play : no ;", "print\n:\nyes\n;", "make if kin:no;", "say if not kin:no;", "say if clan<1:no;",
            "say if ear>2and kind=3and field<9999and dead>0000:yes;", "say if season=3and not season=2:no;hear:no;", "say if kin and kin and kin and kin:no;"};
        for (String text : fine) faulty(text, 0, NONE);
        faulty("sa", 1, 0);
        faulty("says:no;", 1, 0);
        faulty("sayz:no;", 1, 0);
        faulty("saya:no;", 1, 0);
        faulty("say`:no;", 1, 3);
        faulty("say{:no;", 1, 3);
        faulty("say/:no;", 1, 3);
        faulty("say if dead=90?", 1, 14);
        faulty("say if dead=0909:no;", 0, NONE);
        faulty("say", 1, 3);
        faulty("say  ", 1, 5);
        faulty("say:", 1, 4);
        faulty("say:no", 1, 6);
        faulty("say:no;;", 1, 7);
        faulty("say:no; if", 1, 8);
        faulty("say:no;$", 1, 7);
        faulty("say:No;", 1, 4);
        faulty("say:nO;", 1, 4);
        faulty("say no;", 1, 4);
        faulty("say if:no;", 1, 6);
        faulty("say if not not kin:no;", 1, 11);
        faulty("say if kin=1:no;", 1, 10);
        faulty("say if clan:no;", 1, 11);
        faulty("say if clan=:no;", 1, 12);
        faulty("say if clan==1:no;", 1, 12);
        faulty("say if clan=x:no;", 1, 12);
        faulty("say if clan=12345:no;", 1, 12);
        faulty("say if dead>1 2:no;", 1, 14);
        faulty("say if kin or kin:no;", 1, 11);
        faulty("say if kin and:no;", 1, 14);
        faulty("say if kin;", 1, 10);
        faulty("12345", 1, 0);
        faulty("\tsay:no;", 1, 0);
        faulty("say:no;\u00ff", 1, 7);
        faulty("say:no;\0", 1, 7);
        faulty("say if kin and kin and kin and kin and kin:no;", 3, 39);
        faulty("say if kin and kin and kin and kin and not kin and clan=1:no;", 3, 39);
        faulty("say if kin and kin and kin and kin and:no;", 1, 38);
        String twenty = "say:no;".repeat(20);
        faulty(twenty, 0, NONE);
        faulty(twenty + "hear:no;", 3, 140);
        faulty(twenty + "hear:no;hear:no", 1, 155);
        faulty(twenty + "\nhear if kin and kin and kin and kin and kin:no;", 3, 141);
        faulty("say if kin and kin and kin and kin and kin:no;" + twenty, 3, 39);
        faulty(";".repeat(500), 1, 0);
        faulty("a ".repeat(250), 1, 0);
        faulty(" ".repeat(500), 0, NONE);
        faulty(" ".repeat(497) + "say", 1, 500);
        LastTongue full = new LastTongue();
        for (int i = 0; i < 3; i++) custom(full, twenty, 0);
        due("too many in the last text", custom(full, twenty + "say if kin and kin and kin and kin and kin:no;".repeat(5), 0), NONE);
        due("fault", full.fault(0) * 1000 + full.fault(1), 3140);
        due("a fifth test in its last line", custom(full, "say:no;".repeat(19) + "say if kin and kin and kin and kin and kin and kin:no;", 0), NONE);
        due("fault", full.fault(0) * 1000 + full.fault(1), 3172);
        due("four tests in its last line", custom(full, "say:no;".repeat(19) + "hear if not kin and clan=0 and ear=0 and kind=0:no;", 0), 3);
        LastTongue x = new LastTongue();
        custom(x, "x", 0);
        due("a fault", x.fault(0), 1);
        custom(x, "say:no;", 0);
        due("of the latest alone", x.fault(0), 0);
        due("of the latest alone", x.fault(1), NONE);
        for (int odd : ODD) due("what " + odd, x.fault(odd), NONE);
        due("what 2", x.fault(2), NONE);
    }

    /** Whether say may be of PERSON 1 (clan 1), WORKER 0 (clan 0) and a MEANING of FIELD 2, if the test holds. */
    private static boolean holds(LastTongue x, String test) {
        LastTongue y = x;
        y.image(0);
        custom(y, "say if " + test + ":no;", y.count(5));
        boolean held = !y.may(SAY, 1, 0, 4);
        y.again(0);
        return held;
    }
    private static void may() {
        LastTongue x = village();
        x.field(4, 2);
        yes("no text counts", x.may(SAY, 1, 0, 0));
        String[] hold = {"clan=1", "ear=0", "kind=4", "field=2", "dead=0", "season=0", "not kin", "clan<2", "clan>0", "not clan=0", "field>1 and field<3", "dead<0001"};
        String[] fail = {"kin", "clan=0", "ear=1", "kind=0", "field=0", "dead>0", "season>0", "clan<1", "clan>1", "not clan=1", "field>1 and field<2", "not dead=0"};
        for (String t : hold) yes(t, holds(x, t));
        for (String t : fail) no(t, holds(x, t));
        days(x, 88);
        x.health(1, 0);
        yes("on that day", holds(x, "dead=0"));
        days(x, 1);
        yes("a day later", holds(x, "dead=1"));
        yes("day 89", holds(x, "season=0"));
        days(x, 1);
        yes("day 90", holds(x, "season=1"));
        custom(x, "say if kin:no;say if clan=1:yes;say:no;hear if kind=4:no;", 91);
        yes("not in force yet", x.may(HEAR, 1, 0, 0));
        days(x, 1);
        yes("the second line", x.may(SAY, 1, 0, 0));
        no("the third line", x.may(SAY, 0, 1, 0));
        no("the first line", x.may(SAY, 1, 1, 0));
        no("hear", x.may(HEAR, 1, 0, 0));
        yes("no line of it", x.may(PLAY, 1, 0, 0));
        yes("no line that holds", x.may(HEAR, 0, 1, 0));
        no("topic 5", x.may(5, 0, 1, 0));
        no("person 2", x.may(PLAY, 2, 1, 0));
        no("person 2", x.may(PLAY, 1, 2, 0));
        no("meaning 24", x.may(PLAY, 1, 0, 24));
        for (int odd : ODD) {
            no("topic " + odd, x.may(odd, 1, 0, 0));
            no("teller " + odd, x.may(PLAY, odd, 0, 0));
            no("hearer " + odd, x.may(PLAY, 1, odd, 0));
            no("meaning " + odd, x.may(PLAY, 1, 0, odd));
        }
        days(x, 360 - 91);
        yes("day 360", holds(x, "season=0"));
    }

    private static void why() {
        LastTongue x = village();
        due("no text", x.why(SAY, 1, 0, 0), NONE);
        custom(x, "say if kin:no;say if clan=1:yes;say:no;hear if kind=4:no;", 0);
        due("line 1", x.why(SAY, 1, 0, 0), 1);
        due("line 2", x.why(SAY, 0, 1, 0), 2);
        due("line 0", x.why(SAY, 1, 1, 0), 0);
        due("line 3", x.why(HEAR, 1, 0, 0), 3);
        due("no line told", x.why(HEAR, 0, 1, 0), NONE);
        due("no line told", x.why(MAKE, 0, 1, 0), NONE);
        custom(x, "say:no;".repeat(19) + "make:yes;", 0);
        due("text 1, line 19", x.why(MAKE, 0, 0, 0), 119);
        due("text 1, line 0", x.why(SAY, 0, 0, 0), 100);
        due("topic 5", x.why(5, 0, 1, 0), NONE);
        due("person 2", x.why(SAY, 2, 1, 0), NONE);
        due("meaning 24", x.why(SAY, 1, 0, 24), NONE);
        for (int odd : ODD) {
            due("topic " + odd, x.why(odd, 1, 0, 0), NONE);
            due("teller " + odd, x.why(SAY, odd, 0, 0), NONE);
            due("hearer " + odd, x.why(SAY, 1, odd, 0), NONE);
            due("meaning " + odd, x.why(SAY, 1, 0, odd), NONE);
        }
    }

    private static void writes() {
        LastTongue x = village();
        due("at first", x.tell(0, 9), 0);
        yes("writes", x.writes(0, 3));
        due("tell", x.tell(0, 9), 3);
        no("no worker", x.writes(1, 1));
        due("0 of who is none", x.tell(1, 9), 0);
        no("writing 4", x.writes(0, 4));
        no("no such", x.writes(2, 1));
        for (int odd : ODD) { no("worker " + odd, x.writes(odd, 1)); no("writing " + odd, x.writes(0, odd)); }
        due("nothing changed", x.tell(0, 9), 3);
        x.letter(3, 1, 15);
        due("row", x.ask(0, 1, 1, NONE), 0);
        due("by writing 3", x.row(0, 7), 0xF2);
    }

    private static void letter() {
        LastTongue x = village();
        x.ask(0, 1, 2, NONE);
        due("at first its own number", x.row(0, 7), 0x123);
        yes("another", x.letter(0, 2, 11));
        x.ask(0, 1, 2, NONE);
        due("then", x.row(1, 7), 0x1B3);
        due("what was written stays", x.row(0, 7), 0x123);
        no("letter 0", x.letter(0, 1, 0));
        no("letter 16", x.letter(0, 1, 16));
        no("sound 0", x.letter(0, 0, 1));
        no("sound 9", x.letter(0, 9, 1));
        no("writing 4", x.letter(4, 1, 1));
        for (int odd : ODD) { no("writing " + odd, x.letter(odd, 1, 1)); no("sound " + odd, x.letter(0, odd, 1)); no("letter " + odd, x.letter(0, 1, odd)); }
        yes("the last", x.letter(3, 8, 15));
        x.ask(0, 1, 2, NONE);
        due("other writings do not count", x.row(2, 7), 0x1B3);
    }

    private static void tape() {
        LastTongue x = new LastTongue();
        due("life 0", x.tape(0), NONE);
        due("life 401", x.tape(401), NONE);
        for (int odd : ODD) due("life " + odd, x.tape(odd), NONE);
        due("first", x.tape(1), 0);
        for (int i = 1; i < 16; i++) due("more", x.tape(400), i);
        due("a seventeenth", x.tape(5), NONE);
        due("how many", x.count(3), 16);
    }

    private static void copy() {
        LastTongue x = new LastTongue();
        no("no such", x.copy(0));
        x.tape(3);
        days(x, 2);
        yes("copied", x.copy(0));
        due("gone later", x.about(0, 1), 5);
        days(x, 2);
        due("not gone", x.about(0, 2), 0);
        days(x, 1);
        due("gone", x.about(0, 2), 1);
        no("it is gone", x.copy(0));
        for (int odd : ODD) no("tape " + odd, x.copy(odd));
    }

    private static void about() {
        LastTongue x = village();
        days(x, 1);
        x.tape(2);
        x.tape(400);
        x.ask(0, 1, 0, 0);
        x.ask(0, 1, 0, 0);
        x.ask(0, 1, 1, 0);
        x.ask(0, 1, 1, 1);
        x.ask(0, 1, 2, NONE);
        int[] first = {2, 3, 0, 3, 1};
        int[] second = {400, 401, 0, 1, 0};
        for (int what = 0; what < 5; what++) { due("first, " + what, x.about(0, what), first[what]); due("second, " + what, x.about(1, what), second[what]); }
        days(x, 2);
        due("gone", x.about(0, 2), 1);
        due("rows stay on it", x.about(0, 3), 3);
        due("another that is gone has none", x.about(1, 4), 1);
        due("of a gone one, too, what no other has", x.about(0, 4), 1);
        due("what 5", x.about(0, 5), NONE);
        due("tape 2", x.about(2, 0), NONE);
        for (int odd : ODD) { due("tape " + odd, x.about(odd, 0), NONE); due("what " + odd, x.about(0, odd), NONE); }
    }

    private static void ask() {
        LastTongue x = village();
        x.tape(1);
        due("first", x.ask(0, 1, 0, 0), 0);
        due("no tape", x.ask(0, 1, 0, NONE), 1);
        due("does not say it", x.ask(0, 1, 6, 0), NONE);
        due("no hour was spent", x.tell(0, 8), 6);
        due("by itself", x.ask(0, 0, 0, 0), NONE);
        due("no worker", x.ask(1, 0, 0, 0), NONE);
        due("no such tape", x.ask(0, 1, 0, 1), NONE);
        due("no such tape", x.ask(0, 1, 0, -2), NONE);
        due("meaning 24", x.ask(0, 1, 24, 0), NONE);
        for (int odd : ODD) {
            due("worker " + odd, x.ask(odd, 1, 0, 0), NONE);
            due("person " + odd, x.ask(0, odd, 0, 0), NONE);
            due("meaning " + odd, x.ask(0, 1, odd, 0), NONE);
        }
        days(x, 1);
        due("the tape is gone", x.ask(0, 1, 0, 0), NONE);
        for (int i = 0; i < 8; i++) due("eight hours", x.ask(0, 1, 0, NONE), 2 + i);
        due("no hour left", x.ask(0, 1, 0, NONE), NONE);
        x.person(WORKER, 2, 0, 0);
        due("the person has no hour left", x.ask(2, 1, 0, NONE), NONE);
        days(x, 1);
        x.road(0, 1, 0);
        x.go(1, 1);
        due("not at one place", x.ask(0, 1, 0, NONE), NONE);
        x.go(1, 0);
        custom(x, "say if ear=0:no;hear if clan=1 and ear=0:no;", 0);
        due("say is no", x.ask(0, 1, 0, NONE), -2);
        due("say is no, though it does not say it", x.ask(0, 1, 6, NONE), -2);
        due("of no meaning", x.ask(0, 1, 24, NONE), NONE);
        custom(x, "hear if clan=1 and ear=0:no;", 0);
        due("hear is no", x.ask(0, 1, 0, NONE), -3);
        due("hear is no, though it does not say it", x.ask(0, 1, 6, NONE), -3);
        due("another may", x.ask(2, 1, 0, NONE), 10);
        due("a worker says nothing", x.ask(2, 0, 0, NONE), NONE);
        x.health(1, 0);
        due("the person is dead", x.ask(2, 1, 0, NONE), NONE);
        LastTongue y = village();
        y.health(0, 0);
        due("the worker is dead", y.ask(0, 1, 0, NONE), NONE);
        LastTongue z = village();
        z.go(0, 1);
        z.go(1, 1);
        due("both on the road", z.ask(0, 1, 0, NONE), NONE);
        LastTongue full = village();
        for (int i = 0; i < 120; i++) { if (i % 8 == 0) full.day(); due("rows", full.ask(0, 1, 0, NONE), i); }
        full.day();
        due("120 rows", full.ask(0, 1, 0, NONE), NONE);
        due("120 rows, though say is no", custom(full, "say:no;", 0) + full.ask(0, 1, 0, NONE), NONE);
    }

    private static void row() {
        LastTongue x = village();
        x.rule(1, 3, 7, 0, 9);
        days(x, 4);
        x.tape(2);
        x.health(1, 29);
        x.ask(0, 1, 5, 0);
        int[] want = {1, 5, f("417"), 1, 0, 4, 0, 0x017, 1};
        for (int what = 0; what < want.length; what++) due("what " + what, x.row(0, what), want[what]);
        x.ask(0, 1, 4, NONE);
        due("places 1 alone", x.row(1, 7), 0x30);
        due("no tape", x.row(1, 6), NONE);
        due("not held", x.row(1, 8), 0);
        due("no word", x.row(1, 2), 0);
        x.health(1, 30);
        x.ask(0, 1, 5, 0);
        due("30 is clear", x.row(2, 7), 0x417);
        x.unrule(1);
        due("the word of then", x.row(0, 2), f("417"));
        days(x, 2);
        due("gone", x.row(0, 8), 0);
        due("gone", x.row(0, 2), 0);
        due("what was written stays", x.row(0, 7), 0x017);
        due("row 3", x.row(3, 0), -100);
        due("what 9", x.row(0, 9), -100);
        for (int odd : ODD) { due("row " + odd, x.row(odd, 0), -100); due("what " + odd, x.row(0, odd), -100); }
    }

    private static void play() {
        LastTongue x = village();
        x.person(WORKER, 2, 0, 5);
        x.person(WORKER, 1, 0, 5);
        x.tape(3);
        x.tape(3);
        x.field(1, 1);
        x.ask(0, 1, 0, 0);
        x.ask(0, 1, 1, 0);
        x.ask(0, 1, 2, 1);
        due("its own", x.play(0, 0), 0);
        custom(x, "play if field=1 and not kin:no;", 0);
        due("what may be", x.play(2, 0), 1);
        due("kin", x.play(3, 0), 2);
        due("again", x.play(3, 0), 0);
        due("the other", x.play(3, 1), 1);
        due("knows", x.tell(2, 12) * 10 + x.tell(3, 12), 13);
        due("no worker", x.play(1, 0), NONE);
        due("tape 2", x.play(0, 2), NONE);
        for (int odd : ODD) { due("worker " + odd, x.play(odd, 0), NONE); due("tape " + odd, x.play(0, odd), NONE); }
        x.health(3, 0);
        due("is dead", x.play(3, 0), NONE);
        days(x, 3);
        due("gone", x.play(2, 1), NONE);
    }

    private static void known() {
        LastTongue x = village();
        x.person(WORKER, 2, 0, 5);
        x.tape(50);
        days(x, 1);
        x.ask(0, 1, 0, 0);
        days(x, 1);
        x.ask(0, 1, 0, NONE);
        x.ask(0, 1, 1, 0);
        days(x, 1);
        x.play(2, 0);
        days(x, 1);
        due("nothing on day 0", x.known(0, 1, 0, 0), NONE);
        due("on day 1", x.known(0, 1, 0, 1), 0);
        due("on day 2", x.known(0, 1, 0, 2), 1);
        due("now", x.known(0, 1, 0, 4), 1);
        due("later than now", x.known(0, 1, 0, 5), NONE);
        due("not played yet", x.known(2, 1, 0, 2), NONE);
        due("what was on the tape", x.known(2, 1, 0, 3), 0);
        due("the other meaning", x.known(2, 1, 1, 4), 2);
        due("no row of it", x.known(0, 1, 2, 4), NONE);
        due("another tongue", x.known(0, 0, 0, 4), NONE);
        due("no worker", x.known(1, 1, 0, 4), NONE);
        days(x, 60);
        due("though the tape is gone", x.known(2, 1, 0, 64), 0);
        for (int odd : ODD) {
            due("worker " + odd, x.known(odd, 1, 0, 4), NONE);
            due("tongue " + odd, x.known(0, odd, 0, 4), NONE);
            due("meaning " + odd, x.known(0, 1, odd, 4), NONE);
            due("day " + odd, x.known(0, 1, 0, odd), NONE);
        }
    }

    private static void same() {
        LastTongue x = village();
        x.word(0, 6, f("12"));
        x.word(0, 7, f("13"));
        x.have(1, 0xFF);
        x.person(WORKER, 0, 0, 0);
        x.writes(2, 1);
        x.ask(0, 1, 1, NONE);
        x.ask(2, 1, 6, NONE);
        x.ask(0, 1, 7, NONE);
        x.ask(0, 1, 2, NONE);
        due("each just one", x.same(0, 1), 2);
        due("none is of both", x.same(0, 2), 0);
        due("other lengths", x.same(0, 3), 0);
        x.letter(1, 3, 2);
        due("2 or 3, but the other is 2", x.same(0, 1), 2);
        due("2 or 3, the other is 3", x.same(2, 1), 2);
        x.letter(0, 3, 2);
        due("2 or 3 of both; and 3 is written 2 now", x.same(0, 1), 1);
        due("no sound is written 3 any more", x.same(0, 2), 0);
        x.writes(0, 2);
        due("by the writing of now", x.same(0, 2), 0);
        due("by the writing of now", x.same(0, 1), 2);
        days(x, 1);
        x.health(1, 5);
        due("row", x.ask(0, 1, 5, NONE), 4);
        due("not clear at place 0", x.row(4, 7), 0x013);
        x.word(0, 5, f("813"));
        x.health(1, 50);
        due("row", x.ask(0, 1, 5, NONE), 5);
        due("0 may be of all", x.same(4, 5), 2);
        x.health(1, 5);
        due("row", x.ask(0, 1, 5, NONE), 6);
        due("of both all", x.same(4, 6), 1);
        due("one", x.same(0, 0), NONE);
        due("no such", x.same(0, 7), NONE);
        for (int odd : ODD) { due("a " + odd, x.same(odd, 0), NONE); due("b " + odd, x.same(0, odd), NONE); }
    }

    private static void find() {
        LastTongue x = village();
        due("nothing heard: none off", x.find(1, 0), 0);
        due("the least of all", x.find(1, 1), 1000);
        due("the first 64", x.find(1, 2), 64);
        due("heard", x.find(1, 3), 0);
        due("no parent", x.find(0, 0), NONE);
        due("no such", x.find(2, 0), NONE);
        due("what 4", x.find(1, 4), NONE);
        for (int odd : ODD) { due("tongue " + odd, x.find(odd, 0), NONE); due("what " + odd, x.find(1, odd), NONE); }
        x.tape(5);
        x.rule(1, 1, 5, 9, 0);
        x.ask(0, 1, 0, 0);
        due("5 of 1: whatever is there", x.find(1, 1), 1500);
        due("only 1 becomes 5: c and d 0 or 9", x.find(1, 2), 4);
        x.ask(0, 1, 3, 0);
        due("but 21 stays", x.find(1, 1), 1509 - 9 + 90);
        due("none off", x.find(1, 0), 0);
        due("behind the edge; or that, and ahead of it", x.find(1, 2), 2);
        x.ask(0, 1, 1, NONE);
        due("what is not held is not heard", x.find(1, 3), 2);
        x.word(1, 4, f("88"));
        x.ask(0, 1, 4, 0);
        due("a word that breaks it", x.find(1, 0), 1);
        due("heard", x.find(1, 3), 3);
        x.word(1, 0, f("7"));
        x.ask(0, 1, 0, 0);
        due("the latest row of it", x.find(1, 1), 1790);
        x.word(0, 0, 0);
        due("no word in the parent any more", x.find(1, 3), 2);
        days(x, 5);
        due("gone", x.find(1, 3), 0);
        due("gone", x.find(1, 1), 1000);
        LastTongue y = village();
        y.tape(9);
        y.rule(1, 2, 0, 1, 3);
        for (int m = 0; m < 6; m++) y.ask(0, 1, m, 0);
        due("12, 123, 21 tell it apart", y.find(1, 1), 2003);
        due("or behind 1 as well", y.reading(1, 1), 2013);
        due("two", y.find(1, 2), 2);
    }

    private static void reading() {
        LastTongue x = village();
        due("first", x.reading(1, 0), 1000);
        due("second", x.reading(1, 1), 1200);
        due("x 2", x.reading(1, 8), 2000);
        due("x 2, y 1", x.reading(1, 9), 2100);
        due("last", x.reading(1, 63), 8700);
        due("65th", x.reading(1, 64), NONE);
        due("no parent", x.reading(0, 0), NONE);
        due("no such", x.reading(2, 0), NONE);
        for (int odd : ODD) { due("tongue " + odd, x.reading(odd, 0), NONE); due("k " + odd, x.reading(1, odd), NONE); }
        x.tape(5);
        x.rule(1, 1, 5, 9, 0);
        x.ask(0, 1, 0, 0);
        int[] want = {1500, 1509, 1590, 1599, NONE};
        for (int k = 0; k < want.length; k++) due("k " + k, x.reading(1, k), want[k]);
    }

    private static void next() {
        LastTongue x = village();
        x.tape(5);
        x.rule(1, 1, 5, 9, 0);
        x.ask(0, 1, 0, 0);
        // READINGS 1500, 1509, 1590, 1599. 12: 52, 12, 52, 12. 123: two and two. 21: 25, 25, 21, 21. 413: 453, then three times 413.
        due("12 parts them in two", x.next(1, 0), 1);
        due("two and two", x.next(1, 2), 2);
        due("whom", x.next(1, 1), 1);
        x.person(KEEPER, 0, 1, 5);
        x.have(2, 2);
        due("of several the least", x.next(1, 1), 1);
        x.health(2, 99);
        due("the weakest", x.next(1, 1), 2);
        x.have(1, 1 << 5 | 1);
        x.have(2, 0);
        due("what is said alone", x.next(1, 0), 5);
        due("three alike", x.next(1, 2), 3);
        x.have(1, 1);
        due("all heard", x.next(1, 0), NONE);
        due("all heard", x.next(1, 1), NONE);
        due("all heard", x.next(1, 2), NONE);
        x.have(1, 3);
        x.person(SPEAKER, 0, 0, 0);
        x.have(3, 0x3F);
        x.health(3, 1);
        due("of the tongue alone", x.next(1, 1), 1);
        LastTongue y = new LastTongue();
        y.tongue(NONE);
        y.tongue(0);
        y.word(0, 7, f("1"));
        y.person(SPEAKER, 0, 1, 0);
        y.have(0, 1 << 7);
        due("PERSON 0", y.next(1, 1), 0);
        due("nothing heard: 57 of 64 leave 1 as it is", y.next(1, 2), 57);
        due("what 3", x.next(1, 3), NONE);
        due("no parent", x.next(0, 0), NONE);
        due("no such", x.next(2, 0), NONE);
        for (int odd : ODD) { due("tongue " + odd, x.next(odd, 0), NONE); due("what " + odd, x.next(1, odd), NONE); }
    }

    /** A WORKER at PLACE 0; SPEAKERS 1 at PLACE 1 with 1 of ONLY, 2 at PLACE 2 with 2, 3 at PLACE 0 with 1, 4 at PLACE 2 with 1. */
    private static LastTongue valley() {
        LastTongue x = new LastTongue();
        x.tongue(NONE);
        for (int m = 0; m < 24; m++) x.word(0, m, 1 + m % 8);
        x.person(WORKER, 0, 0, 0);
        int[] places = {1, 2, 0, 2};
        int[] has = {1, 6, 8, 16};
        for (int i = 0; i < 4; i++) { x.person(SPEAKER, 0, 0, places[i]); x.have(i + 1, has[i]); }
        x.road(0, 1, 1);
        x.road(0, 2, 3);
        x.road(1, 2, 1);
        return x;
    }
    private static void visitsDue(LastTongue x, int days, int only, int needed, int set, int persons) {
        due("only in " + days, x.visits(0, days, 0), only);
        due("days in " + days, x.visits(0, days, 1), needed);
        due("set in " + days, x.visits(0, days, 2), set);
        due("persons in " + days, x.visits(0, days, 3), persons);
    }
    private static void visits() {
        LastTongue x = valley();
        visitsDue(x, 1, 1, 1, 8, 1);
        visitsDue(x, 2, 1, 1, 8, 1);
        visitsDue(x, 3, 2, 3, 8 + 2, 2);
        visitsDue(x, 4, 3, 4, 2 + 4, 2);
        // 3, 1, 2 and 1, 2, 4 are as good: the least set.
        visitsDue(x, 5, 4, 5, 2 + 4 + 8, 3);
        visitsDue(x, 6, 5, 6, 2 + 4 + 8 + 16, 4);
        visitsDue(x, 20, 5, 6, 2 + 4 + 8 + 16, 4);
        x.tape(9);
        x.ask(0, 3, 3, 0);
        visitsDue(x, 1, 0, 0, 0, 0);
        x.health(1, 0);
        visitsDue(x, 4, 2, 4, 4, 1);
        x.go(2, 5);
        visitsDue(x, 4, 1, 4, 16, 1);
        due("days 0", x.visits(0, 0, 0), NONE);
        due("days 21", x.visits(0, 21, 0), NONE);
        due("what 4", x.visits(0, 5, 4), NONE);
        due("no worker", x.visits(1, 5, 0), NONE);
        for (int odd : ODD) { due("worker " + odd, x.visits(odd, 5, 0), NONE); due("days " + odd, x.visits(0, odd, 0), NONE); due("what " + odd, x.visits(0, 5, odd), NONE); }
        x.go(0, 1);
        due("at no place", x.visits(0, 5, 0), NONE);
        days(x, 1);
        // From PLACE 1: 4 at PLACE 2, then 2, who is at PLACE 5 by now.
        due("there", x.visits(0, 5, 0), 3);
        x.health(0, 0);
        due("dead", x.visits(0, 5, 0), NONE);
        LastTongue many = new LastTongue();
        many.tongue(NONE);
        for (int m = 0; m < 24; m++) many.word(0, m, 1);
        many.person(WORKER, 0, 0, 0);
        for (int p = 1; p < 16; p++) { many.person(SPEAKER, 0, 0, 0); many.have(p, p == 15 ? 0x1FF << 14 : 1 << p - 1); }
        due("the first nine alone", many.visits(0, 20, 2), 0x3FE);
        due("nine", many.visits(0, 20, 0), 9);
        due("the least set", many.visits(0, 2, 2), 6);
        LastTongue two = new LastTongue();
        two.tongue(NONE);
        two.word(0, 0, 1);
        two.person(SPEAKER, 0, 0, 4);
        two.person(WORKER, 0, 0, 4);
        two.have(0, 1);
        due("PERSON 0", two.visits(1, 1, 2), 1);
        due("how much", two.visits(1, 1, 0), 1);
    }

    private static void visited() {
        LastTongue x = valley();
        int[] want = {3, 1, 2, 4, NONE};
        for (int k = 0; k < want.length; k++) due("place " + k, x.visited(0, 20, k), want[k]);
        due("one day", x.visited(0, 1, 0), 3);
        due("no second", x.visited(0, 1, 1), NONE);
        x.go(0, 1);
        due("at no place", x.visited(0, 20, 0), NONE);
        days(x, 1);
        x.road(1, 0, 0);
        due("2 of only in 2 days: the least set", x.visited(0, 2, 0), 2);
        x.have(2, 0);
        x.have(4, 0);
        // No DAY to PLACE 0, so 1, 3 and 3, 1 are alike.
        int[] then = {1, 3, NONE};
        for (int k = 0; k < then.length; k++) due("place " + k, x.visited(0, 2, k), then[k]);
        for (int odd : ODD) { due("worker " + odd, x.visited(odd, 5, 0), NONE); due("days " + odd, x.visited(0, odd, 0), NONE); due("place " + odd, x.visited(0, 5, odd), NONE); }
        due("days 21", x.visited(0, 21, 0), NONE);
        due("no worker", x.visited(1, 5, 0), NONE);
    }

    private static void copies() {
        LastTongue x = new LastTongue();
        x.tongue(NONE);
        for (int m = 0; m < 24; m++) x.word(0, m, 1 + m % 8);
        for (int w = 0; w < 4; w++) x.person(WORKER, 0, 0, 0);
        for (int s = 0; s < 4; s++) { x.person(SPEAKER, 0, 0, 0); x.have(4 + s, 0xFFFFFF); }
        x.tape(2);
        x.tape(2);
        x.tape(3);
        x.tape(1);
        for (int i = 0; i < 5; i++) x.ask(0, 4, i, 0);
        for (int i = 0; i < 4; i++) x.ask(1, 5, 5 + i, 1);
        x.ask(2, 6, 9, 2);
        x.ask(3, 7, 10, 3);
        x.ask(3, 7, 9, 3);
        // WORTH 5, 4, 0, 1 and DAYS 2, 1, 1, 1; 9 is on two.
        due("worth of the third", x.about(2, 4), 0);
        due("5 of the first, or 4 and 1", x.copies(0), 5);
        due("as many days", x.copies(1), 2);
        due("the least set", x.copies(2), 1);
        x.ask(2, 6, 11, 2);
        due("and the third, done on day 3", x.copies(0), 6);
        due("days", x.copies(1), 3);
        due("set", x.copies(2), 5);
        days(x, 1);
        due("the fourth is gone, so 9 is on one", x.about(2, 4), 2);
        due("the first takes too long", x.copies(0), 6);
        due("days", x.copies(1), 2);
        due("set", x.copies(2), 6);
        x.copy(0);
        // WORTH 5, 4, 2 in 2, 1, 1 DAYS, GONE in 2, 1, 2 DAYS.
        due("copied, yet the others fit better", x.copies(2), 6);
        due("worth", x.copies(0), 6);
        x.copy(1);
        x.copy(2);
        // GONE in 2, 2, 3 DAYS.
        due("the first, then the third", x.copies(2), 5);
        due("worth", x.copies(0), 7);
        due("what 3", x.copies(3), NONE);
        for (int odd : ODD) due("what " + odd, x.copies(odd), NONE);
        days(x, 9);
        due("all gone", x.copies(0) + x.copies(1) + x.copies(2), 0);
        copiesOfTwelve();
    }
    private static void copiesOfTwelve() {
        LastTongue x = new LastTongue();
        x.tongue(NONE);
        for (int m = 0; m < 24; m++) x.word(0, m, 1);
        x.person(WORKER, 0, 0, 0);
        x.person(WORKER, 0, 0, 0);
        x.person(SPEAKER, 0, 0, 0);
        x.person(SPEAKER, 0, 0, 0);
        x.have(2, 0xFFFFFF);
        x.have(3, 0xFFFFFF);
        for (int t = 0; t < 14; t++) { x.tape(400 - t); if (t != 3) x.ask(t % 2, 2 + t % 2, t, t); }
        due("the first twelve with worth", x.copies(2), 0x1FFF - 8);
        due("worth", x.copies(0), 12);
        due("a day for each", x.copies(1), 12);
    }

    private static void cost() {
        LastTongue x = village();
        due("100 at first", x.schools(100, 0), 6);
        yes("cost", x.cost(1, 101));
        due("too dear", x.schools(100, 0), 0);
        due("just enough", x.schools(101, 1), 101);
        yes("999", x.cost(1, 999));
        yes("1", x.cost(1, 1));
        due("cheap", x.schools(1, 1), 1);
        no("0", x.cost(1, 0));
        no("1000", x.cost(1, 1000));
        no("no such", x.cost(2, 5));
        for (int odd : ODD) { no("tongue " + odd, x.cost(odd, 5)); no("coins " + odd, x.cost(1, odd)); }
        due("nothing changed", x.schools(1, 1), 1);
    }

    private static void schools() {
        LastTongue x = new LastTongue();
        for (int t = 0; t < 4; t++) {
            x.tongue(t - 1);
            x.person(SPEAKER, 0, t, 0);
            x.have(t, (1 << t + 1) - 1);
        }
        for (int m = 0; m < 4; m++) x.word(0, m, 1);
        int[] costs = {10, 20, 25, 40};
        for (int t = 0; t < 4; t++) x.cost(t, costs[t]);
        // MEANINGS 1, 2, 3, 4 for 10, 20, 25, 40.
        int[][] want = {{0, 0, 0, 0}, {9, 0, 0, 0}, {10, 1, 10, 1}, {30, 3, 25, 4}, {35, 4, 35, 5}, {45, 5, 45, 6}, {65, 7, 65, 12}, {94, 9, 85, 14}, {95, 10, 95, 15}, {10000, 10, 95, 15}};
        for (int[] w : want) for (int what = 0; what < 3; what++) due("sum " + w[0] + ", " + what, x.schools(w[0], what), w[1 + what]);
        x.cost(0, 15);
        due("4 for 40 either way: the least bits", x.schools(40, 2), 5);
        x.have(2, 3);
        x.person(KEEPER, 0, 2, 5);
        x.have(4, 6);
        due("by some person, each once", x.schools(25, 0), 3);
        due("none that says nothing", x.have(0, 0) ? x.schools(10000, 2) : 0, 14);
        due("sum 10001", x.schools(10001, 0), NONE);
        due("what 3", x.schools(5, 3), NONE);
        for (int odd : ODD) { due("sum " + odd, x.schools(odd, 0), NONE); due("what " + odd, x.schools(5, odd), NONE); }
    }

    private static void teach() {
        LastTongue x = village();
        x.person(LEARNER, 0, 1, 0);
        x.person(HALF, 0, 1, 0);
        x.person(KEEPER, 0, 1, 0);
        x.person(LEARNER, 0, 0, 0);
        x.have(1, 0x2A);
        x.have(3, 0x40);
        x.have(2, 2);
        due("two hours", x.teach(2, 1, 2), 4);
        due("two more, the least", x.tell(2, 5), 0x2A);
        due("hours", x.tell(2, 8) * 10 + x.tell(1, 8), 66);
        due("a half: one for each hour", x.teach(2, 3, 1), 5);
        due("has", x.tell(2, 5), 0x6A);
        due("a keeper", x.teach(2, 4, 5), 15);
        due("no hour left", x.teach(2, 4, 1), NONE);
        due("skill", x.tell(2, 7), 15);
        days(x, 1);
        due("not that many", x.teach(2, 1, 9), NONE);
        due("none", x.teach(2, 1, 0), NONE);
        due("below none", x.teach(2, 1, -1), NONE);
        due("another tongue", x.teach(5, 1, 1), NONE);
        due("by a learner", x.teach(2, 5, 1), NONE);
        due("by a worker", x.teach(2, 0, 1), NONE);
        due("by itself", x.teach(2, 2, 1), NONE);
        due("no learner", x.teach(3, 1, 1), NONE);
        for (int odd : ODD) { due("learner " + odd, x.teach(odd, 1, 1), NONE); due("teacher " + odd, x.teach(2, odd, 1), NONE); due("hours " + odd, x.teach(2, 1, odd), NONE); }
        for (int i = 0; i < 5; i++) { x.teach(2, 1, 8); x.day(); }
        due("95", x.tell(2, 7), 95);
        due("not yet", x.tell(2, 6), 0);
        due("97", x.teach(2, 1, 1), 97);
        due("99", x.teach(2, 1, 1), 99);
        due("not yet", x.tell(2, 6), 0);
        due("100", x.teach(2, 3, 1), 100);
        due("it says what it has", x.tell(2, 6), 0x2A);
        for (int i = 0; i < 7; i++) { x.day(); x.teach(2, 1, 8); }
        due("200 at most", x.tell(2, 7), 200);
        x.day();
        x.go(1, 1);
        due("not at the same place", x.teach(2, 1, 1), NONE);
        x.go(2, 1);
        due("both on the road", x.teach(2, 1, 1), NONE);
        x.day();
        due("there", x.teach(2, 1, 1), 200);
        x.health(1, 0);
        due("the teacher is dead", x.teach(2, 1, 1), NONE);
        LastTongue y = village();
        y.person(LEARNER, 0, 1, 0);
        y.health(2, 0);
        due("the learner is dead", y.teach(2, 1, 1), NONE);
    }

    private static void make() {
        LastTongue x = village();
        for (int m = 3; m < 24; m++) x.field(m, 1);
        // FIELD 0: 1, 12, 123: 112, 121, 1123, 1231, 12123, 12312.
        String[] want = {"112", "121", "1123", "1231", "12123", "12312"};
        for (int k = 0; k < want.length; k++) due("k " + k, x.make(0, 0, 0, k), f(want[k]));
        due("no more", x.make(0, 0, 0, 6), NONE);
        due("of any of the field", x.make(1, 0, 2, 0), f("112"));
        x.word(0, 10, f("121"));
        due("what is a word there is none", x.make(0, 0, 0, 1), f("1123"));
        x.word(0, 10, 0);
        x.rule(0, 2, 0, 0, 0);
        // Without 2: 11, 11, 113, 131, 113, 131.
        String[] ruled = {"11", "113", "131"};
        for (int k = 0; k < ruled.length; k++) due("by the rules, k " + k, x.make(0, 0, 0, k), f(ruled[k]));
        due("each once", x.make(0, 0, 0, 3), NONE);
        x.unrule(0);
        x.word(0, 1, f("12345"));
        // 1 12345 and 12345 1 have six SOUNDS; with 123 it would be eight.
        String[] six = {"1123", "1231", "112345", "123451"};
        for (int k = 0; k < six.length; k++) due("six at most, k " + k, x.make(0, 0, 0, k), f(six[k]));
        due("no more", x.make(0, 0, 0, 4), NONE);
        custom(x, "make if clan=1 and ear=1 and kind=0 and field=0:no;", 0);
        due("make is no", x.make(1, 0, 0, 0), NONE);
        due("of another field", x.make(1, 0, 3, 0), f("2131"));
        due("another may", x.make(0, 0, 0, 0), f("1123"));
        due("person 2", x.make(2, 0, 0, 0), NONE);
        due("tongue 2", x.make(0, 2, 0, 0), NONE);
        due("meaning 24", x.make(0, 0, 24, 0), NONE);
        for (int odd : ODD) {
            due("person " + odd, x.make(odd, 0, 0, 0), NONE);
            due("tongue " + odd, x.make(0, odd, 0, 0), NONE);
            due("meaning " + odd, x.make(0, 0, odd, 0), NONE);
            due("k " + odd, x.make(0, 0, 0, odd), NONE);
        }
        LastTongue y = new LastTongue();
        y.tongue(NONE);
        for (int m = 0; m < 24; m++) y.word(0, m, f("" + (1 + m / 8) + (1 + m % 8)));
        y.person(WORKER, 0, 0, 0);
        due("the first of 552", y.make(0, 0, 0, 0), f("1112"));
        due("the last of 552", y.make(0, 0, 0, 551), f("3837"));
        due("no more", y.make(0, 0, 0, 552), NONE);
    }

    private static void print() {
        LastTongue x = village();
        due("no row", x.print(0, 1, 0), NONE);
        x.ask(0, 1, 0, NONE);
        due("printed", x.print(0, 1, 0), 0);
        due("no row in that tongue", x.print(0, 0, 0), NONE);
        x.person(SPEAKER, 2, 1, 0);
        x.have(2, 1);
        custom(x, "print if clan=2 and ear=0:no;", 0);
        due("of clan 1", x.print(0, 1, 0), 1);
        x.ask(0, 2, 0, NONE);
        due("of clan 2, the latest", x.print(0, 1, 0), NONE);
        due("by another", x.print(1, 1, 0), 2);
        x.word(0, 0, 0);
        due("no word", x.print(1, 1, 0), NONE);
        x.word(0, 0, 5);
        due("person 3", x.print(3, 1, 0), NONE);
        due("meaning 24", x.print(1, 1, 24), NONE);
        for (int odd : ODD) { due("person " + odd, x.print(odd, 1, 0), NONE); due("tongue " + odd, x.print(1, odd, 0), NONE); due("meaning " + odd, x.print(1, 1, odd), NONE); }
        for (int i = 3; i < 40; i++) due("more", x.print(1, 1, 0), i);
        due("a 41st", x.print(1, 1, 0), NONE);
    }

    private static void printed() {
        LastTongue x = village();
        x.ask(0, 1, 2, NONE);
        days(x, 3);
        x.rule(1, 2, 0, 0, 0);
        x.print(0, 1, 2);
        int[] want = {1, 2, f("13"), 3, 0};
        for (int what = 0; what < want.length; what++) due("what " + what, x.printed(0, what), want[what]);
        x.unrule(1);
        due("fell", x.printed(0, 4), 1);
        due("the form as it was", x.printed(0, 2), f("13"));
        x.word(1, 2, f("13"));
        due("it is that again", x.printed(0, 4), 0);
        x.word(1, 2, 0);
        x.word(0, 2, 0);
        due("none", x.printed(0, 4), 1);
        due("what 5", x.printed(0, 5), NONE);
        due("k 1", x.printed(1, 0), NONE);
        for (int odd : ODD) { due("k " + odd, x.printed(odd, 0), NONE); due("what " + odd, x.printed(0, odd), NONE); }
    }

    private static void grant() {
        LastTongue x = village();
        due("no such tongue", x.grant(2, 1, 5), NONE);
        due("none", x.grant(1, 0, 5), NONE);
        due("25", x.grant(1, 25, 5), NONE);
        due("day 1000", x.grant(1, 1, 1000), NONE);
        for (int odd : ODD) { due("tongue " + odd, x.grant(odd, 1, 5), NONE); due("meanings " + odd, x.grant(1, odd, 5), NONE); due("by " + odd, x.grant(1, 1, odd), NONE); }
        due("first", x.grant(1, 24, 999), 0);
        days(x, 2);
        for (int i = 1; i < 8; i++) due("more", x.grant(0, 1, 0), i);
        due("a ninth", x.grant(1, 1, 5), NONE);
    }

    private static void granted() {
        LastTongue x = village();
        x.grant(1, 2, 1);
        x.grant(1, 7, 9);
        x.grant(1, 6, 1);
        x.grant(0, 1, 9);
        due("open", x.granted(0, 0), 0);
        due("seven can't be", x.granted(1, 0), 2);
        due("six can", x.granted(2, 0), 0);
        due("said by none of that tongue", x.granted(3, 0), 2);
        x.ask(0, 1, 0, NONE);
        x.ask(0, 1, 0, NONE);
        due("one", x.granted(0, 1), 1);
        x.have(1, 0x3E);
        due("one and five", x.granted(2, 0), 0);
        x.have(1, 0x1F);
        due("one and four", x.granted(2, 0), 2);
        x.have(1, 0x3F);
        days(x, 1);
        due("its day is not over", x.granted(0, 0), 0);
        x.ask(0, 1, 1, NONE);
        due("kept", x.granted(0, 0), 1);
        due("two", x.granted(0, 1), 2);
        days(x, 1);
        due("kept for good", x.granted(0, 0), 1);
        due("its day is over", x.granted(2, 0), 2);
        x.ask(0, 1, 2, NONE);
        due("too late", x.granted(0, 1), 2);
        due("in time", x.granted(1, 1), 3);
        x.health(1, 0);
        due("by a day that was", x.grant(1, 2, 1), 4);
        due("kept at once", x.granted(4, 0), 1);
        due("what 2", x.granted(0, 2), NONE);
        due("grant 5", x.granted(5, 0), NONE);
        for (int odd : ODD) { due("grant " + odd, x.granted(odd, 0), NONE); due("what " + odd, x.granted(0, odd), NONE); }
    }

    private static void count() {
        LastTongue x = village();
        x.tape(5);
        x.tape(5);
        x.tape(5);
        custom(x, "make:no;", 0);
        custom(x, "make:no;", 3);
        for (int m = 0; m < 4; m++) x.ask(0, 1, m, 0);
        for (int m = 0; m < 3; m++) x.print(0, 1, m);
        x.grant(1, 1, 1);
        x.rule(1, 2, 3, 0, 0);
        x.person(HALF, 0, 0, 0);
        x.health(1, 0);
        x.day();
        int[] want = {2, 3, 2, 3, 4, 1, 3, 2, 1, 0, 2};
        for (int what = 0; what < want.length; what++) due("what " + what, x.count(what), want[what]);
        days(x, 2);
        due("the text that counts", x.count(9), 1);
        due("what 11", x.count(11), -100);
        for (int odd : ODD) due("what " + odd, x.count(odd), -100);
    }

    private static void image() {
        LastTongue x = village();
        no("image 3", x.image(3));
        for (int odd : ODD) no("image " + odd, x.image(odd));
        yes("image 0", x.image(0));
        x.day();
        yes("image 2", x.image(2));
        x.day();
        yes("image 0 anew", x.image(0));
        x.day();
        yes("again 2", x.again(2));
        due("day", x.count(5), 1);
        yes("again 0", x.again(0));
        due("day", x.count(5), 2);
        no("no image 1", x.again(1));
        due("nothing changed", x.count(5), 2);
    }

    private static void again() {
        LastTongue x = village();
        no("image 3", x.again(3));
        for (int odd : ODD) no("image " + odd, x.again(odd));
        x.tape(4);
        x.ask(0, 1, 0, 0);
        x.print(0, 1, 0);
        x.grant(1, 3, 5);
        custom(x, "say if kin:no;", 0);
        custom(x, "oh", 0);
        feed(x, "say");
        x.image(1);
        String was = all(x);
        x.image(1);
        x.end(0);
        custom(x, "hear:no;", 0);
        days(x, 5);
        x.go(0, 3);
        x.health(1, 0);
        x.have(1, 9);
        x.road(0, 3, 0);
        x.field(0, 2);
        x.letter(0, 1, 9);
        x.writes(0, 3);
        x.word(0, 0, f("77"));
        x.rule(1, 7, 8, 0, 0);
        x.cost(1, 3);
        x.tongue(1);
        x.person(LEARNER, 0, 2, 1);
        x.tape(9);
        x.print(0, 1, 0);
        x.grant(1, 2, 2);
        yes("again", x.again(1));
        if (!all(x).equals(was)) due("all as it was", 0, 1);
        due("the tape, too", x.end(3), 3);
        due("and no more of it", x.end(4), NONE);
        yes("once more", x.again(1));
        LastTongue y = village();
        feed(y, "say:n");
        y.image(0);
        y.custom(0);
        due("a fault", y.fault(1), 4);
        y.again(0);
        due("no fault", y.fault(0), 0);
        feed(y, "o;");
        due("the tape of then goes on", y.custom(0), 0);
        twoLives();
    }
    /** Two lives from one beginning, as unlike as can be in every number that is kept. */
    private static void live(LastTongue x, int n) {
        x.tongue(NONE);
        x.tongue(n == 1 ? 0 : NONE);
        x.tongue(n == 1 ? 1 : 0);
        for (int m = 0; m < 6; m++) { x.word(0, m, f("1" + (m + n))); x.field(m, n); }
        x.rule(1, 1, n + 1, 0, 0);
        x.rule(2, n, 7, 0, 0);
        if (n == 1) x.rule(2, 2, 3, 0, 0);
        x.cost(0, 10 * n);
        x.word(1, 0, f("4" + n));
        x.road(0, 1, n);
        x.person(n == 1 ? WORKER : KEEPER, n, 0, 0);
        x.person(n == 1 ? SPEAKER : WORKER, n + 1, n == 1 ? 1 : 0, 0);
        x.person(LEARNER, n, n - 1, 0);
        x.person(WORKER, 0, 0, 0);
        x.have(0, 0x3F);
        x.have(1, 0x3F);
        int worker = n == 1 ? 0 : 1;
        x.letter(1, 1, 10 + n);
        x.letter(n, 1, 13);
        x.writes(worker, 1);
        x.health(1 - worker, 10 * n);
        custom(x, n == 1 ? "make:yes;say if clan=9:no;hear if kin:no;" : "make:no;hear if not ear=7:yes;", n - 1);
        custom(x, n == 1 ? "play if field=1:no;" : "say if kind=9 and dead>3:no;hear:yes;make:no;", n + 1);
        x.tape(10 * n);
        days(x, n);
        x.tape(20 * n);
        x.ask(worker, 1 - worker, n, n - 1);
        x.ask(worker, 1 - worker, 5, 2 - n);
        x.print(0, n == 1 ? 1 : 0, n);
        x.grant(n, n + 3, 50 * n);
        x.grant(1, n == 1 ? 1 : 24, 50);
        x.grant(n == 1 ? 1 : 0, 3, n == 1 ? 0 : 500);
        x.teach(2, n == 1 ? 1 : 0, n + 1);
        if (n == 2) x.play(3, 0);
        x.go(3, n + 1);
        if (n == 2) x.health(2, 0);
        custom(x, n == 1 ? "o" : " o", 0);
        feed(x, n == 1 ? "say:" : "sax:");
    }
    /** How a life goes on, so that what no call tells comes to light, too. */
    private static String later(LastTongue x) {
        String now = all(x);
        feed(x, "no;");
        String told = now + x.custom(999) + x.fault(1);
        for (int m = 0; m < 6; m++) for (int w = 0; w < 4; w++) told += " " + x.ask(w, m % 2, m, 0) + x.ask(w, 1 - m % 2, m, 0) + x.row(x.count(4) - 1, 7);
        x.word(0, 3, f("1212"));
        x.go(0, 1);
        told += x.play(0, 0) + x.play(1, 1) + x.play(3, 1) + all(x);
        for (int i = 0; i < 4; i++) { x.day(); told += all(x); }
        return told;
    }
    private static void twoLives() {
        LastTongue x = new LastTongue();
        x.image(2);
        live(x, 1);
        x.image(0);
        String first = later(x);
        x.again(2);
        live(x, 2);
        x.image(1);
        String second = later(x);
        if (first.equals(second)) due("the lives are unlike", 0, 1);
        int[] order = {0, 1, 1, 0, 0, 1};
        for (int k : order) {
            x.again(k);
            if (!later(x).equals(k == 0 ? first : second)) due("life " + k, 0, 1);
        }
        x.again(2);
        due("nothing", x.count(0) + x.count(1) + x.count(2) + x.count(3) + x.count(4) + x.count(5) + x.end(0), 0);
    }
    private static String all(LastTongue x) {
        StringBuilder s = new StringBuilder();
        int top = x.feed(7, 7, 7, 7, 7);
        s.append(top).append(' ').append(x.end(top - 20)).append(' ');
        for (int i = 0; i < 11; i++) s.append(x.count(i)).append(' ');
        for (int p = 0; p < 4; p++) for (int i = 0; i < 13; i++) s.append(x.tell(p, i)).append(' ');
        for (int r = 0; r < 2; r++) for (int i = 0; i < 9; i++) s.append(x.row(r, i)).append(' ');
        for (int t = 0; t < 3; t++) for (int m = 0; m < 6; m++) s.append(x.form(t, m)).append(' ').append(x.known(m % 4, t, m, x.count(5))).append(' ');
        for (int t = 0; t < 2; t++) for (int i = 0; i < 5; i++) s.append(x.about(t, i)).append(' ').append(x.printed(t, i)).append(' ');
        for (int g = 0; g < 3; g++) s.append(x.granted(g, 0)).append(' ').append(x.granted(g, 1)).append(' ');
        for (int i = 0; i < 3; i++) s.append(x.fault(i)).append(' ').append(x.schools(100, i)).append(' ').append(x.copies(i)).append(' ').append(x.visits(0, 5, i)).append(' ');
        for (int topic = 0; topic < 5; topic++) for (int p = 0; p < 4; p++) s.append(x.why(topic, 1, p, 1)).append(x.may(topic, 0, p, 1)).append(' ');
        for (int t = 0; t < 3; t++) s.append(x.find(t, 1)).append(' ').append(x.make(0, t, 0, 0)).append(' ').append(x.next(t, 0)).append(' ');
        return s.append(x.same(0, 1)).toString();
    }
}
