import java.util.ArrayList;
import java.util.List;
import java.util.Random;

/** Runs of 512 calls by chance (the same each time), each answer held against the one of Plain. */
public final class RandomRunsTest {
    private static final int CALLS = 512;

    private final Random random;
    private final Twins twins = new Twins();
    private final List<String> told = new ArrayList<>();
    private Plain plain = twins.plain;
    private final int wild;
    private final int soundLimit;
    private int wrong = 0;

    private RandomRunsTest(long seed) {
        random = new Random(seed);
        wild = random.nextInt(3) == 0 ? 25 : 3;
        soundLimit = random.nextInt(3) == 0 ? 8 : 3;
    }

    public static void main(String[] args) {
        int runs = args.length > 0 ? Integer.parseInt(args[0]) : 160;
        long first = args.length > 1 ? Long.parseLong(args[1]) : 1;
        int wrong = 0;
        for (long seed = first; seed < first + runs && wrong < 5; seed++) wrong += new RandomRunsTest(seed).run(seed);
        System.out.println(wrong == 0 ? runs + " runs by chance are as due" : wrong + " runs by chance are not as due");
        if (wrong != 0) System.exit(1);
    }

    private int run(long seed) {
        int profile = (int) (seed % 6);
        build(profile);
        while (told.size() < CALLS && wrong == 0) step(profile);
        if (wrong > 0) System.out.println("seed " + seed + ", profile " + profile + ": " + told.get(told.size() - 1));
        return wrong;
    }

    private int number(int least, int most) {
        if (random.nextInt(1000) < wild) {
            int[] odd = {least - 1, most + 1, -1, Integer.MIN_VALUE, Integer.MAX_VALUE, random.nextInt()};
            return odd[random.nextInt(odd.length)];
        }
        return least + random.nextInt(Math.max(1, most - least + 1));
    }

    private boolean chance(int percent) { return random.nextInt(100) < percent; }

    private int call(String name, int... numbers) {
        if (told.size() >= CALLS || wrong > 0) return 0;
        Call call = new Call(name, numbers);
        int want = twins.due(call);
        plain = twins.plain;
        int got = call.of(twins.tongue);
        told.add(call + " answered " + got + ", due is " + want);
        if (got != want) wrong++;
        return got;
    }

    private int form() {
        int n = 0;
        int length = 1 + random.nextInt(chance(20) ? 6 : 3);
        for (int i = 0; i < length; i++) n = n * 9 + 1 + random.nextInt(soundLimit);
        return number(n, n);
    }
    private int sound(int least, int most) { return Math.min(soundLimit, number(least, most)); }
    private int edge() { return chance(50) ? 0 : chance(25) ? 9 : number(0, soundLimit); }
    private int aTongue() { return number(0, plain.tongues.size() - 1); }
    private int aBornTongue() {
        int t = aTongue();
        for (int i = 0; i < 6 && plain.born(t) == null && chance(90); i++) t = aTongue();
        return t;
    }
    private int aPerson() { return number(0, plain.persons.size() - 1); }
    private int aPersonOfKind(int kind) {
        int p = aPerson();
        for (int i = 0; i < 30 && chance(98); i++) {
            if (Plain.at(plain.persons, p) != null && plain.persons.get(p).kind == kind) break;
            p = aPerson();
        }
        return p;
    }
    private int aMeaning() { return number(0, 23); }
    private int aTape() {
        int t = number(0, plain.tapes.size() - 1);
        for (int i = 0; i < 5 && Plain.at(plain.tapes, t) != null && plain.gone(plain.tapes.get(t)); i++) t = number(0, plain.tapes.size() - 1);
        return t;
    }
    private int aRow() { return number(0, plain.rows.size() - 1); }
    private int bits() {
        int b = random.nextInt(1 << 24);
        return chance(40) ? b & random.nextInt(1 << 24) : chance(30) ? b & random.nextInt(1 << 24) & random.nextInt(1 << 24) : number(b, b);
    }

    private void build(int profile) {
        int tongues = 2 + random.nextInt(4);
        for (int i = 0; i < tongues; i++) call("tongue", i == 0 || i > 1 && chance(20) ? -1 : number(0, i - 1));
        for (int m = 0; m < 24; m++) if (chance(85)) call("word", 0, m, form());
        for (int t = 1; t < tongues; t++) if (chance(80)) addRule(t);
        int most = profile == 1 ? 16 : 5 + random.nextInt(8);
        for (int p = 0; p < most; p++) {
            int kind = p < 2 && chance(75) ? 4 : profile == 1 ? random.nextInt(2) * 3 : p == 2 ? 2 : chance(40) ? 0 : number(0, 4);
            call("person", kind, number(0, 3), chance(60) ? 1 : aTongue(), profile != 1 && chance(85) ? 0 : number(0, 5));
            call("have", p, bits());
        }
        if (profile == 1) roads();
        if (profile == 0) trouble();
        for (int i = 0; i < (profile == 2 ? 16 : 3); i++) call("tape", profile == 2 ? 1 + random.nextInt(12) : chance(50) ? 400 : number(1, 30));
    }
    /** Words that break the rule, a second rule, weak voices, letters for several sounds. */
    private void trouble() {
        for (int m = 0; m < 24; m++) if (chance(15)) call("word", 1, m, form());
        if (chance(40)) addRule(1);
        for (int p = 2; p < 6; p++) if (chance(40)) call("health", p, 10 + random.nextInt(40));
        for (int i = 0; i < 4; i++) call("letter", random.nextInt(2), 1 + random.nextInt(soundLimit), 1 + random.nextInt(2));
        call("writes", 1, random.nextInt(2));
    }
    private void addRule(int t) { call("rule", t, sound(1, 8), sound(0, 8), edge(), edge()); }
    private void roads() { for (int a = 0; a < 6; a++) for (int b = 0; b < a; b++) if (chance(60)) call("road", a, b, random.nextInt(5)); }

    private void step(int profile) {
        if (chance(10)) { change(); return; }
        if (chance(3)) { if (chance(70)) call("image", number(0, 2)); else call("again", number(0, 2)); return; }
        if (chance(5)) { if (chance(60)) call("day"); else lookAround(); return; }
        switch (profile) {
            case 0: if (chance(40)) askSome(); else look(8 + random.nextInt(4)); break;
            case 1: if (chance(10)) change(); else if (chance(10)) askSome(); else look(12); break;
            case 2: if (chance(60)) askSome(); else look(chance(60) ? 13 : 15); break;
            case 3: if (chance(60)) teachSome(); else look(random.nextInt(16)); break;
            case 4: if (chance(20)) customSome(); else look(14); break;
            default: any(); break;
        }
    }

    private void change() {
        switch (random.nextInt(18)) {
            case 0: call("tongue", number(-1, plain.tongues.size() - 1)); break;
            case 1: addRule(aTongue()); break;
            case 2: call("unrule", aTongue()); break;
            case 3: call("word", aTongue(), aMeaning(), chance(30) ? 0 : form()); break;
            case 4: call("field", aMeaning(), number(0, 3)); break;
            case 5: call("road", number(0, 5), number(0, 5), number(0, 9)); break;
            case 6: call("person", number(0, 4), number(0, 3), aTongue(), number(0, 5)); break;
            case 7: call("have", aPerson(), bits()); break;
            case 8: call("health", aPerson(), chance(15) ? 0 : number(1, chance(60) ? 40 : 100)); break;
            case 9: if (chance(40)) call("go", aPerson(), number(0, 5)); else call("day"); break;
            case 10: call("day"); break;
            case 11: call("writes", aPersonOfKind(4), number(0, 3)); break;
            case 12: call("letter", number(0, 3), sound(1, 8), number(1, chance(60) ? 4 : 15)); break;
            case 13: call("tape", number(1, chance(50) ? 8 : 400)); break;
            case 14: call("copy", aTape()); break;
            case 15: call("cost", aTongue(), number(1, 999)); break;
            case 16: call("grant", chance(60) ? 1 : aTongue(), number(1, chance(70) ? 10 : 24), number(0, chance(70) ? 20 : 999)); break;
            default: customSome(); break;
        }
    }

    /** Mostly what can be: someone who is there is asked for what it says. */
    private void askSome() {
        if (chance(10)) { call("ask", aPersonOfKind(4), aPerson(), aMeaning(), aTape()); return; }
        List<int[]> can = new ArrayList<>();
        for (Plain.Person w : plain.persons) {
            if (w.kind != 4 || !w.alive() || w.hours == 0 || w.place == -1) continue;
            for (Plain.Person q : plain.persons) {
                if (q.place != w.place || q.hours == 0) continue;
                for (int m = 0; m < 24; m++) if (plain.says(q, m)) can.add(new int[] {w.number, q.number, m});
            }
        }
        if (can.isEmpty()) { call("day"); return; }
        int[] one = can.get(random.nextInt(can.size()));
        call("ask", one[0], one[1], one[2], chance(85) ? aTape() : -1);
    }
    private void teachSome() {
        for (int tries = 0; tries < 30; tries++) {
            int l = aPersonOfKind(2), t = aPerson();
            Plain.Person learner = Plain.at(plain.persons, l), teacher = Plain.at(plain.persons, t);
            boolean can = learner != null && teacher != null && teacher.kind != 2 && teacher.kind != 4 && learner.tongue == teacher.tongue && learner.place == teacher.place;
            if (!can && chance(98)) continue;
            if (learner != null && teacher != null && chance(80) && Math.min(learner.hours, teacher.hours) == 0) call("day");
            call("teach", l, t, learner != null && chance(60) ? learner.hours : number(0, 8));
            return;
        }
    }

    private void look(int what) {
        Plain.Row r = plain.rows.isEmpty() || chance(20) ? null : plain.rows.get(random.nextInt(plain.rows.size()));
        int t = r == null ? aTongue() : plain.tongues.indexOf(r.tongue);
        int m = r == null ? aMeaning() : r.meaning;
        switch (what) {
            case 0: call("form", aTongue(), aMeaning()); break;
            case 1: call("tell", aPerson(), number(0, 12)); break;
            case 2: call("count", number(0, 10)); break;
            case 3: call("make", aPerson(), aTongue(), aMeaning(), number(0, chance(80) ? 12 : 200)); break;
            case 4: call("print", aPerson(), t, m); break;
            case 5: call("printed", number(0, plain.prints.size() - 1), number(0, 4)); break;
            case 6: call("granted", number(0, plain.grants.size() - 1), number(0, 1)); break;
            case 7: call("known", aPersonOfKind(4), t, m, number(0, plain.day)); break;
            case 8: call("find", aBornTongue(), number(0, 3)); break;
            case 9: call("reading", aBornTongue(), number(0, chance(50) ? 6 : 63)); break;
            case 10: call("next", aBornTongue(), number(0, 2)); break;
            case 11: if (chance(50)) sameSome(r); else call("row", aRow(), number(0, 8)); break;
            case 12: if (chance(50)) call("visits", aPersonOfKind(4), number(1, chance(70) ? 9 : 20), number(0, 3));
                else call("visited", aPersonOfKind(4), number(1, chance(70) ? 9 : 20), number(0, 4)); break;
            case 13: if (chance(50)) call("copies", number(0, 2)); else call("about", number(0, plain.tapes.size() - 1), number(0, 4)); break;
            case 14: call(chance(50) ? "may" : "why", number(0, 4), aPerson(), aPerson(), aMeaning()); break;
            default: if (chance(50)) call("schools", number(0, chance(80) ? 600 : 10000), number(0, 2));
                else call("play", aPersonOfKind(4), aTape()); break;
        }
    }
    private void sameSome(Plain.Row r) {
        int other = aRow();
        for (Plain.Row q : plain.rows) if (r != null && q != r && q.meaning == r.meaning && chance(50)) other = q.number;
        call("same", r == null ? aRow() : r.number, other);
    }
    private void lookAround() {
        int p = aPerson();
        for (int what = 0; what < 13; what++) call("tell", p, what);
        int r = aRow();
        for (int what = 0; what < 9; what++) call("row", r, what);
        for (int what = 0; what < 11; what++) call("count", what);
    }
    private void any() {
        if (chance(25)) askSome();
        else if (chance(10)) teachSome();
        else if (chance(25)) change();
        else look(random.nextInt(16));
    }

    private void customSome() {
        StringBuilder text = new StringBuilder();
        int lines = chance(8) ? 19 + random.nextInt(3) : random.nextInt(6);
        for (int i = 0; i < lines; i++) line(text, lines > 10);
        if (chance(25) && text.length() > 0) spoil(text);
        int over = random.nextInt(3);
        for (int at = 0; at < text.length() + over; at += 20) {
            int[] n = new int[5];
            for (int i = 0; i < 20; i++) n[i / 4] = n[i / 4] << 8 | (at + i < text.length() ? text.charAt(at + i) : 32);
            call("feed", n);
        }
        if (chance(90)) call("end", Math.min(text.length(), plain.bytes.size()));
        else call("end", number(0, plain.bytes.size()));
        call("custom", chance(50) ? plain.day : number(0, chance(60) ? plain.day + 3 : 999));
        call("fault", number(0, 1));
        call("fault", number(0, 1));
    }
    private String blank(boolean needed) { return chance(20) ? "\n  ".substring(random.nextInt(3)) : needed ? " " : ""; }
    private void line(StringBuilder s, boolean brief) {
        s.append(Plain.TOPICS.get(random.nextInt(5)));
        if (!brief && chance(75)) {
            int tests = chance(6) ? 5 : 1 + random.nextInt(2);
            for (int i = 0; i < tests; i++) {
                s.append(blank(true)).append(i == 0 ? "if" : "and").append(blank(true));
                if (chance(25)) s.append("not").append(blank(true));
                if (chance(25)) { s.append("kin"); continue; }
                int subject = random.nextInt(6);
                s.append(Plain.SUBJECTS.get(subject)).append(blank(false)).append("<>=".charAt(random.nextInt(3))).append(blank(false));
                s.append(chance(10) ? number(0, 11000) : random.nextInt(4));
            }
        }
        s.append(blank(false)).append(':').append(blank(false)).append(chance(50) ? "yes" : "no").append(blank(false)).append(';').append(blank(false));
    }
    private void spoil(StringBuilder s) {
        int at = random.nextInt(s.length());
        int how = random.nextInt(4);
        if (how == 0) s.deleteCharAt(at);
        else if (how == 1) s.setCharAt(at, (char) random.nextInt(256));
        else if (how == 2) s.insert(at, ";:<>=a9 \n-A".charAt(random.nextInt(11)));
        else s.setLength(at);
    }
}
