import java.util.ArrayList;
import java.util.Arrays;
import java.util.Collections;
import java.util.HashMap;
import java.util.HashSet;
import java.util.List;
import java.util.Map;
import java.util.Set;
import java.util.TreeSet;

/**
 * The document once more, written as plainly and as slowly as can be: FORMS are texts, sets are sets,
 * and every choice is made by going through all there is. RandomRunsTest holds LastTongue against it.
 * It has no images: the test makes these by calling all again.
 */
public final class Plain {
    static final class Rule {
        final int x, y, c, d;
        Rule(int x, int y, int c, int d) { this.x = x; this.y = y; this.c = c; this.d = d; }
        int told() { return x * 1000 + y * 100 + c * 10 + d; }
        int zeros() { return (c == 0 ? 1 : 0) + (d == 0 ? 1 : 0); }
        static boolean fits(int want, char has) { return want == 0 || (char) ('0' + want) == has; }
        String on(String form) {
            String framed = "9" + form + "9";
            StringBuilder made = new StringBuilder();
            for (int i = 1; i + 1 < framed.length(); i++) {
                char s = framed.charAt(i);
                if (s == '0' + x && fits(c, framed.charAt(i - 1)) && fits(d, framed.charAt(i + 1))) {
                    if (y != 0) made.append(y);
                } else {
                    made.append(s);
                }
            }
            return made.length() == 0 ? form : made.toString();
        }
    }
    static final class Tongue { Tongue parent; int cost = 100; List<Rule> rules = new ArrayList<>(); Map<Integer, String> breaks = new HashMap<>(); }
    static final class Person {
        int number, kind, clan, place, to, left, health = 100, skill, hours = 8, writing, died = -1;
        boolean taught; Tongue tongue; Set<Integer> has = new TreeSet<>(); Map<Row, Integer> knows = new HashMap<>();
        boolean alive() { return died == -1; }
    }
    static final class Tape { int life, from; }
    static final class Row { int number, meaning, day; String word; List<Integer> written = new ArrayList<>(); Tongue tongue; Person person, worker; Tape tape; }
    static final class Test { boolean not; String subject; char sign; int number; }
    static final class Line { String topic; boolean yes; List<Test> tests = new ArrayList<>(); }
    static final class Text { int from; List<Line> lines; }
    static final class Printed { Tongue tongue; int meaning, day; String form; }
    static final class Grant { Tongue tongue; int number, by; }
    static final class Fault extends RuntimeException {
        private static final long serialVersionUID = 1L;
        final int place;
        Fault(int place) { this.place = place; }
    }

    static final List<String> TOPICS = List.of("say", "hear", "play", "print", "make");
    static final List<String> SUBJECTS = List.of("clan", "ear", "kind", "field", "dead", "season");

    final List<Tongue> tongues = new ArrayList<>();
    final int[] fields = new int[24];
    final int[][] roads = new int[6][6];
    final List<Person> persons = new ArrayList<>();
    final List<Integer> bytes = new ArrayList<>();
    final List<Text> texts = new ArrayList<>();
    final int[][] letters = new int[4][9];
    final List<Tape> tapes = new ArrayList<>();
    final List<Row> rows = new ArrayList<>();
    final List<Printed> prints = new ArrayList<>();
    final List<Grant> grants = new ArrayList<>();
    int day, fault, faultPlace = -1;

    public Plain() {
        for (int[] r : roads) Arrays.fill(r, 1);
        for (int i = 0; i < 6; i++) roads[i][i] = 0;
        for (int[] w : letters) for (int s = 1; s <= 8; s++) w[s] = s;
    }

    static <T> T at(List<T> list, int i) { return i < 0 || i >= list.size() ? null : list.get(i); }
    static boolean meaningful(int m) { return m >= 0 && m <= 23; }
    static boolean is(int n, int from, int to) { return n >= from && n <= to; }

    // FORMS: their digits by 9 are just how Java writes a number by that base.
    static String formOf(int n) {
        String s = n <= 0 ? "" : Integer.toString(n, 9);
        return s.matches("[1-8]{1,6}") ? s : null;
    }
    static int told(String form) { return form == null ? 0 : Integer.parseInt(form, 9); }

    static String byAll(Tongue t, String form) {
        for (Rule r : t.rules) form = r.on(form);
        return form;
    }
    static String wordOf(Tongue t, int meaning) {
        if (t == null) return null;
        if (t.breaks.containsKey(meaning)) return t.breaks.get(meaning);
        String above = wordOf(t.parent, meaning);
        return above == null ? null : byAll(t, above);
    }

    public int tongue(int parent) {
        if (tongues.size() == 6 || parent != -1 && at(tongues, parent) == null) return -1;
        Tongue t = new Tongue();
        t.parent = at(tongues, parent);
        tongues.add(t);
        return tongues.size() - 1;
    }
    public int rule(int tongue, int x, int y, int c, int d) {
        Tongue t = at(tongues, tongue);
        if (t == null || t.rules.size() == 6 || !is(x, 1, 8) || !is(y, 0, 8) || x == y || !is(c, 0, 9) || !is(d, 0, 9)) return -1;
        t.rules.add(new Rule(x, y, c, d));
        return t.rules.size() - 1;
    }
    public boolean unrule(int tongue) {
        Tongue t = at(tongues, tongue);
        if (t == null || t.rules.isEmpty()) return false;
        t.rules.remove(t.rules.size() - 1);
        return true;
    }
    public boolean word(int tongue, int meaning, int form) {
        Tongue t = at(tongues, tongue);
        if (t == null || !meaningful(meaning)) return false;
        if (form == 0) { t.breaks.remove(meaning); return true; }
        if (formOf(form) == null) return false;
        t.breaks.put(meaning, formOf(form));
        return true;
    }
    public int form(int tongue, int meaning) { return told(wordOf(at(tongues, tongue), meaning)); }
    public boolean field(int meaning, int field) {
        if (!meaningful(meaning) || !is(field, 0, 3)) return false;
        fields[meaning] = field;
        return true;
    }
    public boolean road(int a, int b, int days) {
        if (!is(a, 0, 5) || !is(b, 0, 5) || a == b || !is(days, 0, 9)) return false;
        roads[a][b] = days;
        roads[b][a] = days;
        return true;
    }
    public int person(int kind, int clan, int tongue, int place) {
        if (persons.size() == 16 || !is(kind, 0, 4) || !is(clan, 0, 3) || at(tongues, tongue) == null || !is(place, 0, 5)) return -1;
        Person p = new Person();
        p.number = persons.size();
        p.kind = kind;
        p.clan = clan;
        p.tongue = at(tongues, tongue);
        p.place = place;
        persons.add(p);
        return p.number;
    }
    public boolean have(int person, int meanings) {
        Person p = at(persons, person);
        if (p == null || meanings < 0 || meanings >= 1 << 24) return false;
        p.has.clear();
        for (int m = 0; m < 24; m++) if ((meanings & 1 << m) != 0) p.has.add(m);
        return true;
    }
    public boolean health(int person, int health) {
        Person p = at(persons, person);
        if (p == null || !p.alive() || !is(health, 0, 100)) return false;
        p.health = health;
        if (health == 0) p.died = day;
        return true;
    }
    public boolean go(int person, int place) {
        Person p = at(persons, person);
        if (p == null || !is(place, 0, 5) || !p.alive() || p.place == -1 || p.place == place) return false;
        p.left = roads[p.place][place];
        p.to = place;
        p.place = p.left == 0 ? place : -1;
        return true;
    }
    public int day() {
        if (day == 999) return -1;
        day++;
        for (Person p : persons) {
            if (p.kind == 2 && p.alive() && !p.taught) p.skill = Math.max(0, p.skill - 1);
            p.taught = false;
            p.hours = 8;
            if (p.place == -1 && p.alive() && --p.left == 0) p.place = p.to;
        }
        return day;
    }
    boolean says(Person p, int m) {
        if (!p.alive() || !p.has.contains(m) || wordOf(p.tongue, m) == null) return false;
        return p.kind == 0 || p.kind == 3 || p.kind == 1 && fields[m] == 0 || p.kind == 2 && p.skill >= 100;
    }
    boolean said(Tongue t, int m) {
        for (Person p : persons) if (p.tongue == t && says(p, m)) return true;
        return false;
    }
    boolean gone(Tape t) { return day - t.from >= t.life; }
    boolean held(Row r) { return r.tape != null && !gone(r.tape); }
    int only(Person p) {
        int n = 0;
        for (int m = 0; m < 24; m++) {
            boolean one = says(p, m);
            for (Person q : persons) if (q != p && q.tongue == p.tongue && says(q, m)) one = false;
            for (Row r : rows) if (r.tongue == p.tongue && r.meaning == m && held(r)) one = false;
            if (one) n++;
        }
        return n;
    }
    public int tell(int person, int what) {
        Person p = at(persons, person);
        if (p == null) return -100;
        int says = 0, has = 0;
        for (int m = 0; m < 24; m++) {
            if (says(p, m)) says += 1 << m;
            if (p.has.contains(m)) has += 1 << m;
        }
        int[] all = {p.kind, p.clan, tongues.indexOf(p.tongue), p.place, p.health, has, says, p.skill, p.hours, p.writing, p.died, only(p), p.knows.size()};
        return is(what, 0, 12) ? all[what] : -100;
    }

    public int feed(int a, int b, int c, int d, int e) {
        if (bytes.size() > 480) return -1;
        for (int n : new int[] {a, b, c, d, e}) {
            bytes.add(n >>> 24);
            bytes.add(n >>> 16 & 255);
            bytes.add(n >>> 8 & 255);
            bytes.add(n & 255);
        }
        return bytes.size();
    }
    public int end(int n) {
        if (n < 0 || n > bytes.size()) return -1;
        bytes.subList(n, bytes.size()).clear();
        return n;
    }
    public int custom(int from) {
        StringBuilder text = new StringBuilder();
        for (int b : bytes) text.append((char) b);
        bytes.clear();
        fault = 0;
        faultPlace = -1;
        if (texts.size() == 4 || !is(from, 0, 999)) return -2;
        try {
            Parse parse = new Parse(text.toString());
            List<Line> lines = parse.text();
            if (parse.tooMany != -1) { fault = 3; faultPlace = parse.tooMany; return -1; }
            Text t = new Text();
            t.from = from;
            t.lines = lines;
            texts.add(t);
            return texts.size() - 1;
        } catch (Fault f) {
            fault = 1;
            faultPlace = f.place;
            return -1;
        }
    }
    static final class Parse {
        static final java.util.regex.Pattern TOKEN = java.util.regex.Pattern.compile("[\\n ]*([a-z]+|[0-9]+|[:;<>=]|$|.)", java.util.regex.Pattern.DOTALL);
        final String all;
        int at, start, tooMany = -1;
        String token;
        Parse(String all) { this.all = all; step(); }
        void step() {
            java.util.regex.Matcher m = TOKEN.matcher(all).region(at, all.length());
            if (!m.lookingAt()) throw new IllegalStateException(all);
            token = m.group(1);
            start = m.start(1);
            at = m.end();
        }
        boolean tryTake(String want) {
            if (!token.equals(want)) return false;
            step();
            return true;
        }
        void take(String want) { if (!tryTake(want)) throw new Fault(start); }
        void many(boolean isIt) { if (isIt && tooMany == -1) tooMany = start; }
        List<Line> text() {
            List<Line> lines = new ArrayList<>();
            while (!token.isEmpty()) {
                many(lines.size() == 20);
                lines.add(line());
            }
            return lines;
        }
        Line line() {
            Line l = new Line();
            if (!TOPICS.contains(token)) throw new Fault(start);
            l.topic = token;
            step();
            if (tryTake("if")) {
                do {
                    many(l.tests.size() == 4);
                    l.tests.add(test());
                } while (tryTake("and"));
            }
            take(":");
            l.yes = tryTake("yes");
            if (!l.yes) take("no");
            take(";");
            return l;
        }
        Test test() {
            Test t = new Test();
            t.not = tryTake("not");
            t.subject = token;
            if (tryTake("kin")) return t;
            if (!SUBJECTS.contains(token)) throw new Fault(start);
            step();
            if (!token.matches("[<>=]")) throw new Fault(start);
            t.sign = token.charAt(0);
            step();
            if (!token.matches("[0-9]{1,4}")) throw new Fault(start);
            t.number = Integer.parseInt(token);
            step();
            return t;
        }
    }
    public int fault(int what) { return what == 0 ? fault : what == 1 ? faultPlace : -1; }

    int counting() {
        int best = -1;
        for (int t = 0; t < texts.size(); t++) if (texts.get(t).from <= day) best = t;
        return best;
    }
    boolean holds(Test t, Person teller, Person hearer, int meaning) {
        boolean yes;
        if (t.subject.equals("kin")) {
            yes = teller.clan == hearer.clan;
        } else {
            int[] values = {teller.clan, hearer.clan, hearer.kind, fields[meaning], teller.alive() ? 0 : day - teller.died, day / 90 % 4};
            int v = values[SUBJECTS.indexOf(t.subject)];
            yes = t.sign == '<' ? v < t.number : t.sign == '>' ? v > t.number : v == t.number;
        }
        return yes ^ t.not;
    }
    int lineOf(String topic, Person teller, Person hearer, int meaning) {
        if (counting() == -1) return -1;
        List<Line> lines = texts.get(counting()).lines;
        for (int i = 0; i < lines.size(); i++) {
            boolean all = lines.get(i).topic.equals(topic);
            for (Test t : lines.get(i).tests) all &= holds(t, teller, hearer, meaning);
            if (all) return i;
        }
        return -1;
    }
    boolean mayBe(String topic, Person teller, Person hearer, int meaning) {
        int line = lineOf(topic, teller, hearer, meaning);
        return line == -1 || texts.get(counting()).lines.get(line).yes;
    }
    boolean such(int topic, int teller, int hearer, int meaning) {
        return at(TOPICS, topic) != null && at(persons, teller) != null && at(persons, hearer) != null && meaningful(meaning);
    }
    public boolean may(int topic, int teller, int hearer, int meaning) {
        return such(topic, teller, hearer, meaning) && mayBe(TOPICS.get(topic), at(persons, teller), at(persons, hearer), meaning);
    }
    public int why(int topic, int teller, int hearer, int meaning) {
        if (!such(topic, teller, hearer, meaning)) return -1;
        int line = lineOf(TOPICS.get(topic), at(persons, teller), at(persons, hearer), meaning);
        return line == -1 ? -1 : counting() * 100 + line;
    }

    Person worker(int n) { return at(persons, n) != null && at(persons, n).kind == 4 ? at(persons, n) : null; }
    public boolean writes(int worker, int writing) {
        if (worker(worker) == null || !is(writing, 0, 3)) return false;
        worker(worker).writing = writing;
        return true;
    }
    public boolean letter(int writing, int sound, int letter) {
        if (!is(writing, 0, 3) || !is(sound, 1, 8) || !is(letter, 1, 15)) return false;
        letters[writing][sound] = letter;
        return true;
    }
    public int tape(int life) {
        if (tapes.size() == 16 || !is(life, 1, 400)) return -1;
        Tape t = new Tape();
        t.life = life;
        t.from = day;
        tapes.add(t);
        return tapes.size() - 1;
    }
    public boolean copy(int tape) {
        Tape t = at(tapes, tape);
        if (t == null || gone(t)) return false;
        t.from = day;
        return true;
    }
    int rowsOn(Tape t) {
        int n = 0;
        for (Row r : rows) if (r.tape == t) n++;
        return n;
    }
    int worth(Tape t) {
        Set<String> own = new HashSet<>();
        for (Row r : rows) if (r.tape == t) own.add(tongues.indexOf(r.tongue) + "/" + r.meaning);
        for (Row r : rows) if (r.tape != null && r.tape != t && !gone(r.tape)) own.remove(tongues.indexOf(r.tongue) + "/" + r.meaning);
        return own.size();
    }
    public int about(int tape, int what) {
        Tape t = at(tapes, tape);
        if (t == null || !is(what, 0, 4)) return -1;
        return new int[] {t.life, t.from + t.life, gone(t) ? 1 : 0, rowsOn(t), worth(t)}[what];
    }
    public int ask(int worker, int person, int meaning, int tape) {
        Person w = worker(worker), p = at(persons, person);
        Tape t = at(tapes, tape);
        if (w == null || p == null || w == p || !meaningful(meaning) || rows.size() == 120) return -1;
        if (tape != -1 && (t == null || gone(t))) return -1;
        if (!w.alive() || !p.alive() || w.hours == 0 || p.hours == 0 || w.place == -1 || w.place != p.place) return -1;
        if (!mayBe("say", p, w, meaning)) return -2;
        if (!mayBe("hear", p, w, meaning)) return -3;
        if (!says(p, meaning)) return -1;
        w.hours--;
        p.hours--;
        Row r = new Row();
        r.number = rows.size();
        r.tongue = p.tongue;
        r.meaning = meaning;
        r.word = wordOf(p.tongue, meaning);
        r.person = p;
        r.worker = w;
        r.day = day;
        r.tape = t;
        for (int i = 0; i < r.word.length(); i++) {
            boolean lost = p.health < 30 && (i + meaning + day) % 3 == 0;
            r.written.add(lost ? 0 : letters[w.writing][r.word.charAt(i) - '0']);
        }
        rows.add(r);
        w.knows.put(r, day);
        return r.number;
    }
    public int row(int row, int what) {
        Row r = at(rows, row);
        if (r == null || !is(what, 0, 8)) return -100;
        int written = 0;
        for (int l : r.written) written = written * 16 + l;
        return new int[] {tongues.indexOf(r.tongue), r.meaning, held(r) ? told(r.word) : 0, r.person.number, r.worker.number, r.day,
            tapes.indexOf(r.tape), written, held(r) ? 1 : 0}[what];
    }
    public int play(int worker, int tape) {
        Person w = worker(worker);
        Tape t = at(tapes, tape);
        if (w == null || t == null || !w.alive() || gone(t)) return -1;
        int was = w.knows.size();
        for (Row r : rows) if (r.tape == t && mayBe("play", r.person, w, r.meaning)) w.knows.putIfAbsent(r, day);
        return w.knows.size() - was;
    }
    public int known(int worker, int tongue, int meaning, int when) {
        Person w = worker(worker);
        Tongue t = at(tongues, tongue);
        if (w == null || t == null || when < 0 || when > day) return -1;
        int best = -1;
        for (Row r : rows) if (r.tongue == t && r.meaning == meaning && w.knows.getOrDefault(r, 5000) <= when) best = r.number;
        return best;
    }
    Set<Integer> soundsAt(Row r, int i) {
        Set<Integer> s = new HashSet<>();
        for (int k = 1; k <= 8; k++) if (r.written.get(i) == 0 || letters[r.worker.writing][k] == r.written.get(i)) s.add(k);
        return s;
    }
    public int same(int a, int b) {
        Row r = at(rows, a), q = at(rows, b);
        if (r == null || q == null || r == q) return -1;
        if (r.written.size() != q.written.size()) return 0;
        int answer = 2;
        for (int i = 0; i < r.written.size(); i++) {
            Set<Integer> both = soundsAt(r, i);
            both.retainAll(soundsAt(q, i));
            if (both.isEmpty()) return 0;
            if (both.size() > 1) answer = 1;
        }
        return answer;
    }

    Map<Integer, String> heard(Tongue t) {
        Map<Integer, String> h = new HashMap<>();
        for (Row r : rows) if (r.tongue == t && held(r) && wordOf(t.parent, r.meaning) != null) h.put(r.meaning, r.word);
        return h;
    }
    static int off(Tongue t, Map<Integer, String> heard, Rule rule) {
        int n = 0;
        for (int m : heard.keySet()) if (!rule.on(wordOf(t.parent, m)).equals(heard.get(m))) n++;
        return n;
    }
    int leastOff;
    List<Rule> readings(Tongue t) {
        Map<Integer, String> heard = heard(t);
        List<Rule> best = new ArrayList<>();
        leastOff = 99;
        for (int n = 1000; n < 9000; n++) {
            Rule r = new Rule(n / 1000, n / 100 % 10, n / 10 % 10, n % 10);
            if (r.y == 9 || r.x == r.y) continue;
            int off = off(t, heard, r);
            if (off < leastOff) { best.clear(); leastOff = off; }
            if (off == leastOff) best.add(r);
        }
        best.sort((a, b) -> a.zeros() != b.zeros() ? b.zeros() - a.zeros() : a.told() - b.told());
        return best.subList(0, Math.min(64, best.size()));
    }
    Tongue born(int tongue) { return at(tongues, tongue) != null && at(tongues, tongue).parent != null ? at(tongues, tongue) : null; }
    public int find(int tongue, int what) {
        Tongue t = born(tongue);
        if (t == null || !is(what, 0, 3)) return -1;
        List<Rule> all = readings(t);
        return new int[] {leastOff, all.get(0).told(), all.size(), heard(t).size()}[what];
    }
    public int reading(int tongue, int k) {
        Tongue t = born(tongue);
        if (t == null) return -1;
        Rule r = at(readings(t), k);
        return r == null ? -1 : r.told();
    }
    public int next(int tongue, int what) {
        Tongue t = born(tongue);
        if (t == null || !is(what, 0, 2)) return -1;
        List<Rule> all = readings(t);
        int best = -1, least = 1000;
        for (int m = 23; m >= 0; m--) {
            String w = wordOf(t.parent, m);
            if (w == null || heard(t).containsKey(m) || !said(t, m)) continue;
            Map<String, Integer> numbers = new HashMap<>();
            for (Rule r : all) numbers.merge(r.on(w), 1, Integer::sum);
            int n = Collections.max(numbers.values());
            if (n <= least) { least = n; best = m; }
        }
        if (best == -1) return -1;
        Person whom = null;
        for (Person p : persons) if (p.tongue == t && says(p, best) && (whom == null || p.health < whom.health)) whom = p;
        return new int[] {best, whom.number, least}[what];
    }

    // VISITS: all rows of all sets are walked.
    int visitOnly, visitDays, visitSet;
    List<Integer> visitRow;
    final Map<Person, Integer> onlys = new HashMap<>();
    void walk(List<Person> can, List<Integer> row, int place, int days, int only, int set, int limit) {
        boolean better = only != visitOnly ? only > visitOnly : days != visitDays ? days < visitDays : set != visitSet ? set < visitSet
            : visitRow == null || less(row, visitRow);
        if (better) { visitOnly = only; visitDays = days; visitSet = set; visitRow = new ArrayList<>(row); }
        for (Person p : can) {
            int then = days + roads[place][p.place] + 1;
            if (row.contains(p.number) || then > limit) continue;
            row.add(p.number);
            walk(can, row, p.place, then, only + onlys.get(p), set | 1 << p.number, limit);
            row.remove(row.size() - 1);
        }
    }
    static boolean less(List<Integer> a, List<Integer> b) {
        for (int i = 0; i < a.size(); i++) if (!a.get(i).equals(b.get(i))) return a.get(i) < b.get(i);
        return false;
    }
    boolean visit(int worker, int days) {
        Person w = worker(worker);
        if (w == null || !w.alive() || w.place == -1 || !is(days, 1, 20)) return false;
        List<Person> can = new ArrayList<>();
        onlys.clear();
        for (Person p : persons) {
            onlys.put(p, only(p));
            if (p.place != -1 && only(p) > 0 && can.size() < 9) can.add(p);
        }
        visitOnly = -1;
        walk(can, new ArrayList<>(), w.place, 0, 0, 0, days);
        return true;
    }
    public int visits(int worker, int days, int what) {
        if (!visit(worker, days) || !is(what, 0, 3)) return -1;
        return new int[] {visitOnly, visitDays, visitSet, visitRow.size()}[what];
    }
    public int visited(int worker, int days, int place) {
        if (!visit(worker, days) || at(visitRow, place) == null) return -1;
        return visitRow.get(place);
    }

    // COPIES: a set can be done if some TAPE of it can come last, and the others can be done ahead of it.
    static boolean possible(boolean[] can, int set, int done, int[] goneOn) {
        if (set == 0) return true;
        for (int i = 0; i < goneOn.length; i++) if ((set & 1 << i) != 0 && can[set - (1 << i)] && done <= goneOn[i]) return true;
        return false;
    }
    public int copies(int what) {
        if (!is(what, 0, 2)) return -1;
        List<Tape> can = new ArrayList<>();
        for (Tape t : tapes) if (!gone(t) && worth(t) > 0 && can.size() < 12) can.add(t);
        int[] best = {0, 0, 0}, goneOn = new int[can.size()], worths = new int[can.size()], lasting = new int[can.size()];
        for (int i = 0; i < can.size(); i++) {
            goneOn[i] = can.get(i).from + can.get(i).life;
            worths[i] = worth(can.get(i));
            lasting[i] = (rowsOn(can.get(i)) + 3) / 4;
        }
        boolean[] done = new boolean[1 << can.size()];
        for (int set = 0; set < 1 << can.size(); set++) {
            int worth = 0, days = 0, bits = 0;
            for (int i = 0; i < can.size(); i++) {
                if ((set & 1 << i) == 0) continue;
                worth += worths[i];
                days += lasting[i];
                bits |= 1 << tapes.indexOf(can.get(i));
            }
            done[set] = possible(done, set, day + days, goneOn);
            if (done[set] && (worth > best[0] || worth == best[0] && days < best[1])) best = new int[] {worth, days, bits};
        }
        return best[what];
    }
    public boolean cost(int tongue, int coins) {
        if (at(tongues, tongue) == null || !is(coins, 1, 999)) return false;
        at(tongues, tongue).cost = coins;
        return true;
    }
    public int schools(int sum, int what) {
        if (!is(sum, 0, 10000) || !is(what, 0, 2)) return -1;
        int[] best = {0, 0, 0};
        for (int set = (1 << tongues.size()) - 1; set >= 0; set--) {
            int number = 0, cost = 0;
            for (int t = 0; t < tongues.size(); t++) {
                if ((set & 1 << t) == 0) continue;
                cost += tongues.get(t).cost;
                for (int m = 0; m < 24; m++) if (said(tongues.get(t), m)) number++;
            }
            if (cost > sum) continue;
            if (number > best[0] || number == best[0] && cost <= best[1]) best = new int[] {number, cost, set};
        }
        return best[what];
    }
    public int teach(int learner, int teacher, int hours) {
        Person l = at(persons, learner), t = at(persons, teacher);
        if (l == null || t == null || l.kind != 2 || t.kind == 2 || t.kind == 4 || !l.alive() || !t.alive()) return -1;
        if (l.tongue != t.tongue || l.place == -1 || l.place != t.place || hours <= 0 || hours > l.hours || hours > t.hours) return -1;
        l.hours -= hours;
        t.hours -= hours;
        l.taught = true;
        l.skill = Math.min(200, l.skill + (t.kind == 1 ? hours : 2 * hours));
        int more = 0;
        for (int m : t.has) if (more < hours && l.has.add(m)) more++;
        return l.skill;
    }
    public int make(int person, int tongue, int meaning, int k) {
        Person p = at(persons, person);
        Tongue t = at(tongues, tongue);
        if (p == null || t == null || !meaningful(meaning) || !mayBe("make", p, p, meaning)) return -1;
        TreeSet<Integer> made = new TreeSet<>();
        for (int a = 0; a < 24; a++) {
            for (int b = 0; b < 24; b++) {
                String first = wordOf(t, a), second = wordOf(t, b);
                if (a == b || fields[a] != fields[meaning] || fields[b] != fields[meaning] || first == null || second == null) continue;
                if ((first + second).length() <= 6) made.add(told(byAll(t, first + second)));
            }
        }
        for (int m = 0; m < 24; m++) made.remove(told(wordOf(t, m)));
        Integer form = at(new ArrayList<>(made), k);
        return form == null ? -1 : form;
    }
    public int print(int person, int tongue, int meaning) {
        Person p = at(persons, person);
        Tongue t = at(tongues, tongue);
        if (p == null || t == null || wordOf(t, meaning) == null || prints.size() == 40) return -1;
        Row last = null;
        for (Row r : rows) if (r.tongue == t && r.meaning == meaning) last = r;
        if (last == null || !mayBe("print", last.person, p, meaning)) return -1;
        Printed made = new Printed();
        made.tongue = t;
        made.meaning = meaning;
        made.form = wordOf(t, meaning);
        made.day = day;
        prints.add(made);
        return prints.size() - 1;
    }
    static boolean fell(Printed p) { return !p.form.equals(wordOf(p.tongue, p.meaning)); }
    public int printed(int k, int what) {
        Printed p = at(prints, k);
        if (p == null || !is(what, 0, 4)) return -1;
        return new int[] {tongues.indexOf(p.tongue), p.meaning, told(p.form), p.day, fell(p) ? 1 : 0}[what];
    }
    public int grant(int tongue, int meanings, int by) {
        if (grants.size() == 8 || at(tongues, tongue) == null || !is(meanings, 1, 24) || !is(by, 0, 999)) return -1;
        Grant g = new Grant();
        g.tongue = at(tongues, tongue);
        g.number = meanings;
        g.by = by;
        grants.add(g);
        return grants.size() - 1;
    }
    public int granted(int grant, int what) {
        Grant g = at(grants, grant);
        if (g == null || !is(what, 0, 1)) return -1;
        int have = 0, could = 0;
        for (int m = 0; m < 24; m++) {
            boolean row = false, inTime = false;
            for (Row r : rows) {
                if (r.tongue == g.tongue && r.meaning == m) {
                    row = true;
                    inTime |= r.day <= g.by;
                }
            }
            if (inTime) have++;
            if (!row && said(g.tongue, m)) could++;
        }
        if (what == 1) return have;
        return have >= g.number ? 1 : day <= g.by && have + could >= g.number ? 0 : 2;
    }
    public int count(int what) {
        int fallen = 0, living = 0;
        for (Printed p : prints) if (fell(p)) fallen++;
        for (Person p : persons) if (p.alive()) living++;
        int[] all = {tongues.size(), persons.size(), texts.size(), tapes.size(), rows.size(), day, prints.size(), fallen, grants.size(), counting(), living};
        return is(what, 0, 10) ? all[what] : -100;
    }
}
