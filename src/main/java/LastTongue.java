import java.util.Arrays;

/** The last who speak a tongue. What each call promises stands in ../shared/DOC.md. */
public final class LastTongue {
    public static final int NONE = -1;

    private static final int NO_ANSWER = -100;
    private static final int SAY_IS_NO = -2;
    private static final int HEAR_IS_NO = -3;
    private static final int NOT_READ = -2;

    private static final int SOUNDS = 8;
    private static final int EDGE = 9;
    private static final int FORM_LENGTH = 6;
    private static final int FORM_BASE = 9;
    private static final int FORM_LIMIT = 531441;
    private static final int LETTER_BASE = 16;

    private static final int MEANINGS = 24;
    private static final int ALL_MEANINGS = 0xFFFFFF;
    private static final int FIELDS = 4;
    private static final int CLANS = 4;
    private static final int PLACES = 6;
    private static final int WRITINGS = 4;
    private static final int LAST_DAY = 999;
    private static final int HOURS_A_DAY = 8;
    private static final int LONGEST_VISITS = 20;
    private static final int GREATEST_SUM = 10000;

    private static final int MOST_TONGUES = 6;
    private static final int MOST_RULES = 6;
    private static final int MOST_PERSONS = 16;
    private static final int MOST_TAPES = 16;
    private static final int MOST_ROWS = 120;
    private static final int MOST_PRINTED = 40;
    private static final int MOST_GRANTS = 8;
    private static final int MOST_IMAGES = 3;

    private static final int SPEAKER = 0;
    private static final int HALF = 1;
    private static final int LEARNER = 2;
    private static final int KEEPER = 3;
    private static final int WORKER = 4;

    private static final int SAY = 0;
    private static final int HEAR = 1;
    private static final int PLAY = 2;
    private static final int PRINT = 3;
    private static final int MAKE = 4;

    private final World now;
    private final World[] images;
    // Helpers with much room come into being with the first call that needs them.
    private Reader reader;
    private Finder finder;
    private Route route;
    private Copying copying;
    private Maker maker;

    public LastTongue() {
        now = new World();
        images = new World[MOST_IMAGES];
    }

    public int tongue(int parent) {
        return now.tongues.addTongue(parent);
    }

    public int rule(int tongue, int x, int y, int c, int d) {
        return now.tongues.addRule(tongue, x, y, c, d);
    }

    public boolean unrule(int tongue) {
        return now.tongues.dropRule(tongue);
    }

    public boolean word(int tongue, int meaning, int form) {
        return now.tongues.setBreak(tongue, meaning, form);
    }

    public int form(int tongue, int meaning) {
        return now.tongues.wordOf(tongue, meaning);
    }

    public boolean field(int meaning, int field) {
        return now.tongues.setField(meaning, field);
    }

    public boolean road(int a, int b, int days) {
        return now.people.setRoad(a, b, days);
    }

    public int person(int kind, int clan, int tongue, int place) {
        return now.tongues.has(tongue) ? now.people.addPerson(kind, clan, tongue, place) : NONE;
    }

    public boolean have(int person, int meanings) {
        return now.people.setMeanings(person, meanings);
    }

    public boolean health(int person, int health) {
        return now.people.setHealth(person, health, now.day);
    }

    public boolean go(int person, int place) {
        return now.people.send(person, place, now.day);
    }

    public int day() {
        return now.passDay();
    }

    public int tell(int person, int what) {
        return now.personFact(person, what);
    }

    public int feed(int a, int b, int c, int d, int e) {
        return now.customs.takeBytes(a, b, c, d, e);
    }

    public int end(int n) {
        return now.customs.cutTo(n);
    }

    public int custom(int from) {
        if (reader == null) {
            reader = new Reader(now.customs);
        }
        return now.customs.takeText(reader, from);
    }

    public int fault(int what) {
        return now.customs.faultFact(what);
    }

    public boolean may(int topic, int teller, int hearer, int meaning) {
        return now.canBeTold(topic, teller, hearer, meaning) && now.allows(topic, teller, hearer, meaning);
    }

    public int why(int topic, int teller, int hearer, int meaning) {
        return now.canBeTold(topic, teller, hearer, meaning) ? now.lineTelling(topic, teller, hearer, meaning) : NONE;
    }

    public boolean writes(int worker, int writing) {
        return now.people.setWriting(worker, writing);
    }

    public boolean letter(int writing, int sound, int letter) {
        return now.archive.setLetter(writing, sound, letter);
    }

    public int tape(int life) {
        return now.archive.addTape(life, now.day);
    }

    public boolean copy(int tape) {
        return now.archive.renew(tape, now.day);
    }

    public int about(int tape, int what) {
        return now.archive.tapeFact(tape, what, now.day);
    }

    public int ask(int worker, int person, int meaning, int tape) {
        return now.askFor(worker, person, meaning, tape);
    }

    public int row(int row, int what) {
        return now.archive.rowFact(row, what, now.day);
    }

    public int play(int worker, int tape) {
        return now.playTo(worker, tape);
    }

    public int known(int worker, int tongue, int meaning, int day) {
        boolean such = now.people.has(worker) && now.tongues.has(tongue) && within(day, 0, now.day);
        return such ? now.archive.latestKnown(worker, tongue, meaning, day) : NONE;
    }

    public int same(int a, int b) {
        if (a == b || !now.archive.hasRow(a) || !now.archive.hasRow(b)) {
            return NONE;
        }
        return now.alike(a, b);
    }

    public int find(int tongue, int what) {
        return prepareFinder(tongue) ? finder.foundFact(what) : NONE;
    }

    public int reading(int tongue, int k) {
        return prepareFinder(tongue) ? finder.readingAt(k) : NONE;
    }

    public int next(int tongue, int what) {
        return prepareFinder(tongue) ? finder.nextFact(now, tongue, what) : NONE;
    }

    public int visits(int worker, int days, int what) {
        return prepareRoute(worker, days) ? route.routeFact(what) : NONE;
    }

    public int visited(int worker, int days, int place) {
        return prepareRoute(worker, days) ? route.personAt(place) : NONE;
    }

    public int copies(int what) {
        if (copying == null) {
            copying = new Copying();
        }
        copying.solve(now.archive, now.day);
        return copying.copiesFact(what);
    }

    public boolean cost(int tongue, int coins) {
        return now.tongues.setCost(tongue, coins);
    }

    public int schools(int sum, int what) {
        return within(sum, 0, GREATEST_SUM) && within(what, 0, 2) ? now.schoolsFact(sum, what) : NONE;
    }

    public int teach(int learner, int teacher, int hours) {
        return now.people.learnFrom(learner, teacher, hours);
    }

    public int make(int person, int tongue, int meaning, int k) {
        boolean such = now.canBeTold(MAKE, person, person, meaning) && now.tongues.has(tongue);
        if (!such || !now.allows(MAKE, person, person, meaning)) {
            return NONE;
        }
        if (maker == null) {
            maker = new Maker();
        }
        maker.collect(now.tongues, tongue, meaning);
        return maker.formAt(k);
    }

    public int print(int person, int tongue, int meaning) {
        return now.printBy(person, tongue, meaning);
    }

    public int printed(int k, int what) {
        return now.papers.printedFact(k, what, now.tongues);
    }

    public int grant(int tongue, int meanings, int by) {
        return now.tongues.has(tongue) ? now.papers.addGrant(tongue, meanings, by) : NONE;
    }

    public int granted(int grant, int what) {
        return now.grantFact(grant, what);
    }

    public int count(int what) {
        return now.countOf(what);
    }

    public boolean image(int k) {
        if (!within(k, 0, MOST_IMAGES - 1)) {
            return false;
        }
        if (images[k] == null) {
            images[k] = new World();
        }
        images[k].become(now);
        return true;
    }

    public boolean again(int k) {
        if (!within(k, 0, MOST_IMAGES - 1) || images[k] == null) {
            return false;
        }
        now.become(images[k]);
        return true;
    }

    private boolean prepareFinder(int tongue) {
        if (!now.tongues.hasParent(tongue)) {
            return false;
        }
        if (finder == null) {
            finder = new Finder();
        }
        finder.solve(now, tongue);
        return true;
    }

    private boolean prepareRoute(int worker, int days) {
        People people = now.people;
        boolean such = people.isLivingWorker(worker) && within(days, 1, LONGEST_VISITS);
        if (!such || people.places[worker] == NONE) {
            return false;
        }
        if (route == null) {
            route = new Route(now.people);
        }
        route.gather(now);
        route.solve(people.places[worker], days);
        return true;
    }

    private static boolean within(int number, int least, int most) {
        return number >= least && number <= most;
    }

    private static boolean isForm(int number) {
        if (number <= 0 || number >= FORM_LIMIT) {
            return false;
        }
        int rest = number;
        for (int i = 0; i < FORM_LENGTH && rest > 0; i++) {
            if (rest % FORM_BASE == 0) {
                return false;
            }
            rest /= FORM_BASE;
        }
        return true;
    }

    private static int lengthOf(int form) {
        int length = 0;
        int rest = form;
        for (int i = 0; i < FORM_LENGTH && rest > 0; i++) {
            rest /= FORM_BASE;
            length++;
        }
        return length;
    }

    /** The FORM by one RULE. It goes from the last SOUND to the first, so that lost ones leave no gap. */
    private static int changed(int form, int x, int y, int c, int d) {
        int made = 0;
        int weight = 1;
        int behind = EDGE;
        int rest = form;
        for (int i = 0; i < FORM_LENGTH && rest > 0; i++) {
            int sound = rest % FORM_BASE;
            rest /= FORM_BASE;
            int ahead = rest > 0 ? rest % FORM_BASE : EDGE;
            boolean works = sound == x && (c == 0 || c == ahead) && (d == 0 || d == behind);
            int put = works ? y : sound;
            if (put != 0) {
                made += put * weight;
                weight *= FORM_BASE;
            }
            behind = sound;
        }
        return made == 0 ? form : made;
    }

    /** A RULE is kept as the number by which find() tells it. */
    private static int packedRule(int x, int y, int c, int d) {
        return 1000 * x + 100 * y + 10 * c + d;
    }

    private static int changedBy(int form, int packed) {
        return changed(form, packed / 1000, packed / 100 % 10, packed / 10 % 10, packed % 10);
    }

    /** Both FORMS one behind the other; 0 if that is too long. */
    private static int joined(int first, int second) {
        int length = lengthOf(second);
        if (lengthOf(first) + length > FORM_LENGTH) {
            return 0;
        }
        int made = first;
        for (int i = 0; i < length; i++) {
            made *= FORM_BASE;
        }
        return made + second;
    }

    /** TONGUES with their RULES, BREAKS and COSTS, and the FIELDS of the MEANINGS. */
    private static final class Tongues {
        int size = 0;
        final int[] parents = new int[MOST_TONGUES];
        final int[] costs = new int[MOST_TONGUES];
        final int[] ruleCounts = new int[MOST_TONGUES];
        final int[] rules = new int[MOST_TONGUES * MOST_RULES];
        final int[] breaks = new int[MOST_TONGUES * MEANINGS];
        // Every WORD is kept ready, since far more calls look at WORDS than change them.
        final int[] words = new int[MOST_TONGUES * MEANINGS];
        // Bits of the MEANINGS that have a WORD.
        final int[] worded = new int[MOST_TONGUES];
        final int[] fields = new int[MEANINGS];

        void become(Tongues other) {
            size = other.size;
            System.arraycopy(other.parents, 0, parents, 0, parents.length);
            System.arraycopy(other.costs, 0, costs, 0, costs.length);
            System.arraycopy(other.ruleCounts, 0, ruleCounts, 0, ruleCounts.length);
            System.arraycopy(other.rules, 0, rules, 0, rules.length);
            System.arraycopy(other.breaks, 0, breaks, 0, breaks.length);
            System.arraycopy(other.words, 0, words, 0, words.length);
            System.arraycopy(other.worded, 0, worded, 0, worded.length);
            System.arraycopy(other.fields, 0, fields, 0, fields.length);
        }

        boolean has(int tongue) {
            return tongue >= 0 && tongue < size;
        }

        boolean hasParent(int tongue) {
            return has(tongue) && has(parents[tongue]);
        }

        int addTongue(int parent) {
            if (size >= MOST_TONGUES || parent != NONE && !has(parent)) {
                return NONE;
            }
            int tongue = size;
            parents[tongue] = parent;
            costs[tongue] = 100;
            size++;
            refreshFrom(tongue);
            return tongue;
        }

        int addRule(int tongue, int x, int y, int c, int d) {
            boolean can = within(x, 1, SOUNDS) && within(y, 0, SOUNDS) && y != x && within(c, 0, EDGE) && within(d, 0, EDGE);
            if (!can || !has(tongue) || ruleCounts[tongue] >= MOST_RULES) {
                return NONE;
            }
            int number = ruleCounts[tongue];
            rules[tongue * MOST_RULES + number] = packedRule(x, y, c, d);
            ruleCounts[tongue]++;
            refreshFrom(tongue);
            return number;
        }

        boolean dropRule(int tongue) {
            if (!has(tongue) || ruleCounts[tongue] == 0) {
                return false;
            }
            ruleCounts[tongue]--;
            refreshFrom(tongue);
            return true;
        }

        boolean setBreak(int tongue, int meaning, int form) {
            boolean can = has(tongue) && within(meaning, 0, MEANINGS - 1) && (form == 0 || isForm(form));
            if (!can) {
                return false;
            }
            breaks[tongue * MEANINGS + meaning] = form;
            refreshMeaning(tongue, meaning);
            return true;
        }

        boolean setField(int meaning, int field) {
            if (!within(meaning, 0, MEANINGS - 1) || !within(field, 0, FIELDS - 1)) {
                return false;
            }
            fields[meaning] = field;
            return true;
        }

        boolean setCost(int tongue, int coins) {
            if (!has(tongue) || !within(coins, 1, 999)) {
                return false;
            }
            costs[tongue] = coins;
            return true;
        }

        int wordOf(int tongue, int meaning) {
            return has(tongue) && within(meaning, 0, MEANINGS - 1) ? words[tongue * MEANINGS + meaning] : 0;
        }

        boolean isWord(int tongue, int form) {
            for (int m = 0; m < MEANINGS; m++) {
                if (wordOf(tongue, m) == form) {
                    return true;
                }
            }
            return false;
        }

        int ofField(int field) {
            int bits = 0;
            for (int m = 0; m < MEANINGS; m++) {
                if (fields[m] == field) {
                    bits |= 1 << m;
                }
            }
            return bits;
        }

        int byRules(int tongue, int form) {
            int made = form;
            for (int i = 0; i < ruleCounts[tongue]; i++) {
                made = changedBy(made, rules[tongue * MOST_RULES + i]);
            }
            return made;
        }

        private void refreshFrom(int tongue) {
            for (int m = 0; m < MEANINGS; m++) {
                refreshMeaning(tongue, m);
            }
        }

        /** A PARENT is always the earlier one, so going upward meets each PARENT ahead of its children. */
        private void refreshMeaning(int tongue, int meaning) {
            for (int t = tongue; t < size; t++) {
                int told = breaks[t * MEANINGS + meaning];
                int inherited = wordOf(parents[t], meaning);
                int made = inherited == 0 ? 0 : byRules(t, inherited);
                setWord(t, meaning, told != 0 ? told : made);
            }
        }

        private void setWord(int tongue, int meaning, int form) {
            words[tongue * MEANINGS + meaning] = form;
            int others = worded[tongue] & ~(1 << meaning);
            worded[tongue] = form == 0 ? others : others | 1 << meaning;
        }
    }

    /** PERSONS, and the ROADS that they go. */
    private static final class People {
        int size = 0;
        final int[] kinds = new int[MOST_PERSONS];
        final int[] clans = new int[MOST_PERSONS];
        final int[] tongues = new int[MOST_PERSONS];
        final int[] places = new int[MOST_PERSONS];
        final int[] goals = new int[MOST_PERSONS];
        final int[] arrivals = new int[MOST_PERSONS];
        final int[] healths = new int[MOST_PERSONS];
        final int[] meanings = new int[MOST_PERSONS];
        final int[] skills = new int[MOST_PERSONS];
        final int[] hours = new int[MOST_PERSONS];
        final int[] taught = new int[MOST_PERSONS];
        final int[] writings = new int[MOST_PERSONS];
        final int[] deaths = new int[MOST_PERSONS];
        final int[] roads = new int[PLACES * PLACES];

        People() {
            Arrays.fill(roads, 1);
            for (int place = 0; place < PLACES; place++) {
                roads[place * PLACES + place] = 0;
            }
        }

        void become(People other) {
            size = other.size;
            System.arraycopy(other.kinds, 0, kinds, 0, MOST_PERSONS);
            System.arraycopy(other.clans, 0, clans, 0, MOST_PERSONS);
            System.arraycopy(other.tongues, 0, tongues, 0, MOST_PERSONS);
            System.arraycopy(other.places, 0, places, 0, MOST_PERSONS);
            System.arraycopy(other.goals, 0, goals, 0, MOST_PERSONS);
            System.arraycopy(other.arrivals, 0, arrivals, 0, MOST_PERSONS);
            System.arraycopy(other.healths, 0, healths, 0, MOST_PERSONS);
            System.arraycopy(other.meanings, 0, meanings, 0, MOST_PERSONS);
            System.arraycopy(other.skills, 0, skills, 0, MOST_PERSONS);
            System.arraycopy(other.hours, 0, hours, 0, MOST_PERSONS);
            System.arraycopy(other.taught, 0, taught, 0, MOST_PERSONS);
            System.arraycopy(other.writings, 0, writings, 0, MOST_PERSONS);
            System.arraycopy(other.deaths, 0, deaths, 0, MOST_PERSONS);
            System.arraycopy(other.roads, 0, roads, 0, roads.length);
        }

        boolean has(int person) {
            return person >= 0 && person < size;
        }

        boolean isAlive(int person) {
            return person >= 0 && person < size && deaths[person] == NONE;
        }

        boolean isWorker(int person) {
            return has(person) && kinds[person] == WORKER;
        }

        boolean isLivingWorker(int person) {
            return isWorker(person) && isAlive(person);
        }

        boolean areTogether(int a, int b) {
            return places[a] != NONE && places[a] == places[b];
        }

        int living() {
            int number = 0;
            for (int p = 0; p < size; p++) {
                if (isAlive(p)) {
                    number++;
                }
            }
            return number;
        }

        int daysBetween(int from, int to) {
            return roads[from * PLACES + to];
        }

        boolean setRoad(int a, int b, int days) {
            boolean can = within(a, 0, PLACES - 1) && within(b, 0, PLACES - 1) && a != b && within(days, 0, 9);
            if (!can) {
                return false;
            }
            roads[a * PLACES + b] = days;
            roads[b * PLACES + a] = days;
            return true;
        }

        int addPerson(int kind, int clan, int tongue, int place) {
            boolean can = within(kind, 0, WORKER) && within(clan, 0, CLANS - 1) && within(place, 0, PLACES - 1);
            if (!can || size >= MOST_PERSONS) {
                return NONE;
            }
            int person = size;
            kinds[person] = kind;
            clans[person] = clan;
            tongues[person] = tongue;
            places[person] = place;
            healths[person] = 100;
            hours[person] = HOURS_A_DAY;
            deaths[person] = NONE;
            size++;
            return person;
        }

        boolean setMeanings(int person, int bits) {
            if (!has(person) || (bits & ~ALL_MEANINGS) != 0) {
                return false;
            }
            meanings[person] = bits;
            return true;
        }

        boolean setHealth(int person, int health, int day) {
            if (!isAlive(person) || !within(health, 0, 100)) {
                return false;
            }
            healths[person] = health;
            if (health == 0) {
                deaths[person] = day;
            }
            return true;
        }

        boolean setWriting(int worker, int writing) {
            if (!isWorker(worker) || !within(writing, 0, WRITINGS - 1)) {
                return false;
            }
            writings[worker] = writing;
            return true;
        }

        boolean send(int person, int place, int day) {
            boolean can = isAlive(person) && within(place, 0, PLACES - 1);
            if (!can || places[person] == NONE || places[person] == place) {
                return false;
            }
            int days = daysBetween(places[person], place);
            goals[person] = place;
            arrivals[person] = day + days;
            places[person] = days == 0 ? place : NONE;
            return true;
        }

        void endDay() {
            for (int p = 0; p < size; p++) {
                if (kinds[p] == LEARNER && isAlive(p) && taught[p] == 0 && skills[p] > 0) {
                    skills[p]--;
                }
                taught[p] = 0;
                hours[p] = HOURS_A_DAY;
            }
        }

        void arrive(int day) {
            for (int p = 0; p < size; p++) {
                if (places[p] == NONE && isAlive(p) && day >= arrivals[p]) {
                    places[p] = goals[p];
                }
            }
        }

        int learnFrom(int learner, int teacher, int spent) {
            if (!canLearn(learner, teacher) || spent < 1 || spent > hours[learner] || spent > hours[teacher]) {
                return NONE;
            }
            hours[learner] -= spent;
            hours[teacher] -= spent;
            taught[learner] = 1;
            int gain = kinds[teacher] == HALF ? spent : 2 * spent;
            skills[learner] = Math.min(200, skills[learner] + gain);
            int lacking = meanings[teacher] & ~meanings[learner];
            int learnt = 0;
            for (int m = 0; m < MEANINGS && learnt < spent; m++) {
                if ((lacking >> m & 1) != 0) {
                    meanings[learner] |= 1 << m;
                    learnt++;
                }
            }
            return skills[learner];
        }

        private boolean canLearn(int learner, int teacher) {
            if (!isAlive(learner) || !isAlive(teacher) || kinds[learner] != LEARNER) {
                return false;
            }
            int kind = kinds[teacher];
            boolean teaches = kind == SPEAKER || kind == HALF || kind == KEEPER;
            return teaches && tongues[learner] == tongues[teacher] && areTogether(learner, teacher);
        }
    }

    /** The tape of bytes, and the texts that were taken from it. */
    private static final class Customs {
        static final int MOST_TEXTS = 4;
        static final int MOST_LINES = 20;
        static final int MOST_TESTS = 4;
        static final int MOST_BYTES = 500;
        static final int FED_AT_ONCE = 20;

        static final int KIN = 0;
        static final int TELLER_CLAN = 1;
        static final int EAR = 2;
        static final int KIND = 3;
        static final int FIELD = 4;
        static final int DEAD = 5;

        final int[] bytes = new int[MOST_BYTES];
        int length = 0;
        int fault = 0;
        int faultPlace = NONE;
        int size = 0;
        final int[] froms = new int[MOST_TEXTS];
        final int[] lineCounts = new int[MOST_TEXTS];
        final int[] topics = new int[MOST_TEXTS * MOST_LINES];
        final int[] verdicts = new int[MOST_TEXTS * MOST_LINES];
        final int[] testCounts = new int[MOST_TEXTS * MOST_LINES];
        final int[] tests = new int[MOST_TEXTS * MOST_LINES * MOST_TESTS];

        void become(Customs other) {
            length = other.length;
            fault = other.fault;
            faultPlace = other.faultPlace;
            size = other.size;
            System.arraycopy(other.bytes, 0, bytes, 0, MOST_BYTES);
            System.arraycopy(other.froms, 0, froms, 0, MOST_TEXTS);
            System.arraycopy(other.lineCounts, 0, lineCounts, 0, MOST_TEXTS);
            System.arraycopy(other.topics, 0, topics, 0, topics.length);
            System.arraycopy(other.verdicts, 0, verdicts, 0, verdicts.length);
            System.arraycopy(other.testCounts, 0, testCounts, 0, testCounts.length);
            System.arraycopy(other.tests, 0, tests, 0, tests.length);
        }

        int takeBytes(int a, int b, int c, int d, int e) {
            if (length + FED_AT_ONCE > MOST_BYTES) {
                return NONE;
            }
            takeFour(a);
            takeFour(b);
            takeFour(c);
            takeFour(d);
            takeFour(e);
            return length;
        }

        private void takeFour(int number) {
            for (int shift = 24; shift >= 0; shift -= 8) {
                bytes[length] = number >> shift & 255;
                length++;
            }
        }

        int cutTo(int n) {
            if (n < 0 || n > length) {
                return NONE;
            }
            length = n;
            return n;
        }

        int takeText(Reader reader, int from) {
            fault = 0;
            faultPlace = NONE;
            if (size >= MOST_TEXTS || !within(from, 0, LAST_DAY)) {
                length = 0;
                return NOT_READ;
            }
            reader.split();
            fault = reader.readText(size);
            faultPlace = reader.faultPlace;
            length = 0;
            if (fault != 0) {
                return NONE;
            }
            froms[size] = from;
            size++;
            return size - 1;
        }

        int faultFact(int what) {
            switch (what) {
                case 0:
                    return fault;
                case 1:
                    return faultPlace;
                default:
                    return NONE;
            }
        }

        int inForce(int day) {
            for (int text = size - 1; text >= 0; text--) {
                if (froms[text] <= day) {
                    return text;
                }
            }
            return NONE;
        }

        boolean saysYes(int text, int line) {
            return verdicts[text * MOST_LINES + line] == 1;
        }

        void setLine(int text, int line, int topic, int testCount, int verdict) {
            if (line >= MOST_LINES) {
                return;
            }
            int slot = text * MOST_LINES + line;
            topics[slot] = topic;
            testCounts[slot] = testCount;
            verdicts[slot] = verdict;
            lineCounts[text] = line + 1;
        }

        void setTest(int text, int line, int place, int test) {
            if (line < MOST_LINES && place < MOST_TESTS) {
                tests[(text * MOST_LINES + line) * MOST_TESTS + place] = test;
            }
        }

        static int packedTest(boolean negated, int subject, int sign, int number) {
            int order = sign == '<' ? 0 : sign == '=' ? 1 : 2;
            return number << 6 | order << 4 | subject << 1 | (negated ? 1 : 0);
        }

        static int subjectOf(int test) {
            return test >> 1 & 7;
        }

        /** Whether a test holds of its subject's value. */
        static boolean holds(int test, int value) {
            int wanted = (test >> 4 & 3) - 1;
            boolean plain = Integer.compare(value, test >> 6) == wanted;
            return plain != ((test & 1) == 1);
        }
    }

    /** Splits the tape into tokens, then reads these as one text into the customs' slot for it. */
    private static final class Reader {
        // A word's token is its place here: TOPICS stand as they are counted, and so do subjects from 'kin' on.
        static final String WORDS = "say hear play print make if and yes no not kin clan ear kind field dead season ";
        static final int IF = 5;
        static final int AND = 6;
        static final int YES = 7;
        static final int NO = 8;
        static final int NOT = 9;
        static final int FIRST_SUBJECT = 10;
        static final int LAST_SUBJECT = 16;
        static final int END = 50;
        static final int NO_TOKEN = 51;
        // A sign's token is this and its byte, a NUMBER's this and itself.
        static final int SIGNS = 100;
        static final int NUMBERS = 1000;
        static final int MOST_DIGITS = 4;

        final Customs customs;
        final int[] tokens = new int[Customs.MOST_BYTES + 1];
        final int[] starts = new int[Customs.MOST_BYTES + 1];
        int at = 0;
        int text = 0;
        int faultPlace = NONE;
        int tooManyPlace = NONE;

        Reader(Customs customs) {
            this.customs = customs;
        }

        /** The FAULT of the tokens that were split last, 0 without. */
        int readText(int slot) {
            text = slot;
            at = 0;
            tooManyPlace = NONE;
            customs.lineCounts[slot] = 0;
            for (int line = 0; line < Customs.MOST_BYTES && tokens[at] != END; line++) {
                if (line == Customs.MOST_LINES) {
                    noteTooMany();
                }
                if (!readLine(line)) {
                    faultPlace = starts[at];
                    return 1;
                }
            }
            faultPlace = tooManyPlace;
            return tooManyPlace == NONE ? 0 : 3;
        }

        private void noteTooMany() {
            if (tooManyPlace == NONE) {
                tooManyPlace = starts[at];
            }
        }

        /** False: the token that stands now is the one with which no text goes on. */
        private boolean readLine(int line) {
            int topic = tokens[at];
            if (!within(topic, SAY, MAKE)) {
                return false;
            }
            at++;
            int testCount = tokens[at] == IF ? readTests(line) : 0;
            if (testCount == NONE || !pass(SIGNS + ':')) {
                return false;
            }
            boolean yes = tokens[at] == YES;
            if (!pass(yes ? YES : NO) || !pass(SIGNS + ';')) {
                return false;
            }
            customs.setLine(text, line, topic, testCount, yes ? 1 : 0);
            return true;
        }

        /** The end and what is no token are never passed, so there is always a token that stands now. */
        private boolean pass(int token) {
            if (tokens[at] != token) {
                return false;
            }
            at++;
            return true;
        }

        /** How many TESTS stand behind 'if'; NONE at a FAULT. */
        private int readTests(int line) {
            for (int i = 0; i < Customs.MOST_BYTES; i++) {
                at++;
                if (i == Customs.MOST_TESTS) {
                    noteTooMany();
                }
                if (!readTest(line, i)) {
                    return NONE;
                }
                if (tokens[at] != AND) {
                    return i + 1;
                }
            }
            return NONE;
        }

        private boolean readTest(int line, int place) {
            boolean negated = pass(NOT);
            int subject = tokens[at] - FIRST_SUBJECT;
            if (!within(tokens[at], FIRST_SUBJECT, LAST_SUBJECT)) {
                return false;
            }
            at++;
            int sign = SIGNS + '=';
            int number = 1;
            if (subject != Customs.KIN) {
                sign = tokens[at];
                if (!pass(SIGNS + '<') && !pass(SIGNS + '>') && !pass(SIGNS + '=')) {
                    return false;
                }
                number = tokens[at] - NUMBERS;
                if (number < 0) {
                    return false;
                }
                at++;
            }
            customs.setTest(text, line, place, Customs.packedTest(negated, subject, sign - SIGNS, number));
            return true;
        }

        /** All tokens up to the end, or up to what is none: there the reading stops at the latest. */
        void split() {
            int place = 0;
            int count = 0;
            boolean more = true;
            for (int i = 0; i <= Customs.MOST_BYTES && more; i++) {
                while (place < customs.length && isBlank(byteAt(place))) {
                    place++;
                }
                int stop = stopOf(place);
                starts[count] = place;
                tokens[count] = tokenOf(place, stop);
                more = tokens[count] != END && tokens[count] != NO_TOKEN;
                count++;
                place = stop;
            }
        }

        /** Where a token that begins at a place ends: as long as it goes. */
        private int stopOf(int place) {
            int stop = place;
            if (isLetter(byteAt(place))) {
                while (stop < customs.length && isLetter(byteAt(stop))) {
                    stop++;
                }
                return stop;
            }
            while (stop < customs.length && isDigit(byteAt(stop))) {
                stop++;
            }
            return Math.min(Math.max(stop, place + 1), customs.length);
        }

        private int tokenOf(int start, int stop) {
            int first = byteAt(start);
            if (start >= customs.length) {
                return END;
            }
            if (isLetter(first)) {
                return wordOf(start, stop);
            }
            if (isDigit(first)) {
                return stop - start > MOST_DIGITS ? NO_TOKEN : numberOf(start, stop);
            }
            boolean sign = first == ':' || first == ';' || first == '<' || first == '>' || first == '=';
            return sign ? SIGNS + first : NO_TOKEN;
        }

        private int wordOf(int start, int stop) {
            int word = 0;
            int from = 0;
            for (int i = 0; i < WORDS.length(); i++) {
                if (WORDS.charAt(i) == ' ') {
                    if (i - from == stop - start && spells(start, from, i)) {
                        return word;
                    }
                    word++;
                    from = i + 1;
                }
            }
            return NO_TOKEN;
        }

        private boolean spells(int start, int from, int to) {
            for (int i = from; i < to; i++) {
                if (byteAt(start + i - from) != WORDS.charAt(i)) {
                    return false;
                }
            }
            return true;
        }

        private int numberOf(int start, int stop) {
            int number = 0;
            for (int i = start; i < stop; i++) {
                number = number * 10 + byteAt(i) - '0';
            }
            return NUMBERS + number;
        }

        /** NONE behind the end, which is no letter, digit or sign. */
        private int byteAt(int place) {
            return place >= 0 && place < customs.length ? customs.bytes[place] : NONE;
        }

        private static boolean isBlank(int value) {
            return value == 10 || value == 32;
        }

        private static boolean isLetter(int value) {
            return value >= 'a' && value <= 'z';
        }

        private static boolean isDigit(int value) {
            return value >= '0' && value <= '9';
        }
    }

    /** WRITINGS, TAPES, ROWS, and who KNOWS these since when. */
    private static final class Archive {
        final int[] letters = new int[WRITINGS * SOUNDS];
        int tapeCount = 0;
        final int[] lives = new int[MOST_TAPES];
        final int[] starts = new int[MOST_TAPES];
        int rowCount = 0;
        final int[] rowTongues = new int[MOST_ROWS];
        final int[] rowMeanings = new int[MOST_ROWS];
        final int[] rowWords = new int[MOST_ROWS];
        final int[] rowPersons = new int[MOST_ROWS];
        final int[] rowWorkers = new int[MOST_ROWS];
        final int[] rowDays = new int[MOST_ROWS];
        final int[] rowTapes = new int[MOST_ROWS];
        final int[] rowWritten = new int[MOST_ROWS];
        final int[] knownFrom = new int[MOST_PERSONS * MOST_ROWS];

        Archive() {
            for (int i = 0; i < WRITINGS * SOUNDS; i++) {
                letters[i] = i % SOUNDS + 1;
            }
            Arrays.fill(knownFrom, NONE);
        }

        void become(Archive other) {
            tapeCount = other.tapeCount;
            rowCount = other.rowCount;
            System.arraycopy(other.letters, 0, letters, 0, letters.length);
            System.arraycopy(other.lives, 0, lives, 0, MOST_TAPES);
            System.arraycopy(other.starts, 0, starts, 0, MOST_TAPES);
            System.arraycopy(other.rowTongues, 0, rowTongues, 0, MOST_ROWS);
            System.arraycopy(other.rowMeanings, 0, rowMeanings, 0, MOST_ROWS);
            System.arraycopy(other.rowWords, 0, rowWords, 0, MOST_ROWS);
            System.arraycopy(other.rowPersons, 0, rowPersons, 0, MOST_ROWS);
            System.arraycopy(other.rowWorkers, 0, rowWorkers, 0, MOST_ROWS);
            System.arraycopy(other.rowDays, 0, rowDays, 0, MOST_ROWS);
            System.arraycopy(other.rowTapes, 0, rowTapes, 0, MOST_ROWS);
            System.arraycopy(other.rowWritten, 0, rowWritten, 0, MOST_ROWS);
            System.arraycopy(other.knownFrom, 0, knownFrom, 0, knownFrom.length);
        }

        boolean setLetter(int writing, int sound, int letter) {
            boolean can = within(writing, 0, WRITINGS - 1) && within(sound, 1, SOUNDS) && within(letter, 1, LETTER_BASE - 1);
            if (!can) {
                return false;
            }
            letters[writing * SOUNDS + sound - 1] = letter;
            return true;
        }

        /** Bits of the SOUNDS that a LETTER may be of; one that was not heard clearly may be of all. */
        int soundsOf(int writing, int letter) {
            int bits = 0;
            for (int i = 0; i < SOUNDS; i++) {
                if (letter == 0 || letters[writing * SOUNDS + i] == letter) {
                    bits |= 1 << i;
                }
            }
            return bits;
        }

        boolean hasTape(int tape) {
            return tape >= 0 && tape < tapeCount;
        }

        boolean hasRow(int row) {
            return row >= 0 && row < rowCount;
        }

        int addTape(int life, int day) {
            if (tapeCount >= MOST_TAPES || !within(life, 1, 400)) {
                return NONE;
            }
            lives[tapeCount] = life;
            starts[tapeCount] = day;
            tapeCount++;
            return tapeCount - 1;
        }

        int goneDay(int tape) {
            return starts[tape] + lives[tape];
        }

        boolean lasts(int tape, int day) {
            return tape >= 0 && tape < tapeCount && day < starts[tape] + lives[tape];
        }

        boolean renew(int tape, int day) {
            if (!lasts(tape, day)) {
                return false;
            }
            starts[tape] = day;
            return true;
        }

        int tapeFact(int tape, int what, int day) {
            if (!hasTape(tape)) {
                return NONE;
            }
            switch (what) {
                case 0:
                    return lives[tape];
                case 1:
                    return goneDay(tape);
                case 2:
                    return lasts(tape, day) ? 0 : 1;
                case 3:
                    return rowsOn(tape);
                case 4:
                    return worthOf(tape, day);
                default:
                    return NONE;
            }
        }

        int rowsOn(int tape) {
            int number = 0;
            for (int r = 0; r < rowCount; r++) {
                if (rowTapes[r] == tape) {
                    number++;
                }
            }
            return number;
        }

        int worthOf(int tape, int day) {
            int worth = 0;
            for (int tongue = 0; tongue < MOST_TONGUES; tongue++) {
                int own = 0;
                int others = 0;
                for (int r = 0; r < rowCount; r++) {
                    if (rowTongues[r] == tongue) {
                        int bit = 1 << rowMeanings[r];
                        if (rowTapes[r] == tape) {
                            own |= bit;
                        } else if (lasts(rowTapes[r], day)) {
                            others |= bit;
                        }
                    }
                }
                worth += Integer.bitCount(own & ~others);
            }
            return worth;
        }

        boolean isHeld(int row, int day) {
            return hasRow(row) && lasts(rowTapes[row], day);
        }

        int rowFact(int row, int what, int day) {
            if (!hasRow(row)) {
                return NO_ANSWER;
            }
            switch (what) {
                case 0:
                    return rowTongues[row];
                case 1:
                    return rowMeanings[row];
                case 2:
                    return isHeld(row, day) ? rowWords[row] : 0;
                case 3:
                    return rowPersons[row];
                case 4:
                    return rowWorkers[row];
                case 5:
                    return rowDays[row];
                case 6:
                    return rowTapes[row];
                case 7:
                    return rowWritten[row];
                case 8:
                    return isHeld(row, day) ? 1 : 0;
                default:
                    return NO_ANSWER;
            }
        }

        int addRow(World world, int worker, int person, int meaning, int tape) {
            People people = world.people;
            int row = rowCount;
            int tongue = people.tongues[person];
            rowTongues[row] = tongue;
            rowMeanings[row] = meaning;
            rowWords[row] = world.tongues.wordOf(tongue, meaning);
            rowPersons[row] = person;
            rowWorkers[row] = worker;
            rowDays[row] = world.day;
            rowTapes[row] = tape;
            rowWritten[row] = writtenAs(rowWords[row], people.writings[worker], people.healths[person] < 30, meaning + world.day);
            rowCount++;
            learn(worker, row, world.day);
            return row;
        }

        private int writtenAs(int form, int writing, boolean weak, int shift) {
            int length = lengthOf(form);
            int rest = form;
            int written = 0;
            int weight = 1;
            for (int i = length - 1; i >= 0; i--) {
                int sound = rest % FORM_BASE;
                rest /= FORM_BASE;
                boolean lost = weak && (i + shift) % 3 == 0;
                if (!lost && sound > 0) {
                    written += weight * letters[writing * SOUNDS + sound - 1];
                }
                weight *= LETTER_BASE;
            }
            return written;
        }

        /** Whether that was new to the worker. */
        boolean learn(int worker, int row, int day) {
            int slot = worker * MOST_ROWS + row;
            if (knownFrom[slot] != NONE) {
                return false;
            }
            knownFrom[slot] = day;
            return true;
        }

        int knownBy(int worker) {
            int number = 0;
            for (int r = 0; r < rowCount; r++) {
                if (knownFrom[worker * MOST_ROWS + r] != NONE) {
                    number++;
                }
            }
            return number;
        }

        int latestKnown(int worker, int tongue, int meaning, int day) {
            for (int r = rowCount - 1; r >= 0; r--) {
                int from = knownFrom[worker * MOST_ROWS + r];
                if (rowTongues[r] == tongue && rowMeanings[r] == meaning && from != NONE && from <= day) {
                    return r;
                }
            }
            return NONE;
        }

        int latestOf(int tongue, int meaning) {
            for (int r = rowCount - 1; r >= 0; r--) {
                if (rowTongues[r] == tongue && rowMeanings[r] == meaning) {
                    return r;
                }
            }
            return NONE;
        }

        int heldMeanings(int tongue, int day) {
            int bits = 0;
            for (int r = 0; r < rowCount; r++) {
                if (rowTongues[r] == tongue && isHeld(r, day)) {
                    bits |= 1 << rowMeanings[r];
                }
            }
            return bits;
        }

        int meaningsUntil(int tongue, int day) {
            int bits = 0;
            for (int r = 0; r < rowCount; r++) {
                if (rowTongues[r] == tongue && rowDays[r] <= day) {
                    bits |= 1 << rowMeanings[r];
                }
            }
            return bits;
        }
    }

    /** What was PRINTED, and the GRANTS. */
    private static final class Papers {
        int printedCount = 0;
        final int[] printedTongues = new int[MOST_PRINTED];
        final int[] printedMeanings = new int[MOST_PRINTED];
        final int[] printedForms = new int[MOST_PRINTED];
        final int[] printedDays = new int[MOST_PRINTED];
        int grantCount = 0;
        final int[] grantTongues = new int[MOST_GRANTS];
        final int[] grantNumbers = new int[MOST_GRANTS];
        final int[] grantDays = new int[MOST_GRANTS];

        void become(Papers other) {
            printedCount = other.printedCount;
            grantCount = other.grantCount;
            System.arraycopy(other.printedTongues, 0, printedTongues, 0, MOST_PRINTED);
            System.arraycopy(other.printedMeanings, 0, printedMeanings, 0, MOST_PRINTED);
            System.arraycopy(other.printedForms, 0, printedForms, 0, MOST_PRINTED);
            System.arraycopy(other.printedDays, 0, printedDays, 0, MOST_PRINTED);
            System.arraycopy(other.grantTongues, 0, grantTongues, 0, MOST_GRANTS);
            System.arraycopy(other.grantNumbers, 0, grantNumbers, 0, MOST_GRANTS);
            System.arraycopy(other.grantDays, 0, grantDays, 0, MOST_GRANTS);
        }

        int addPrinted(int tongue, int meaning, int form, int day) {
            if (printedCount >= MOST_PRINTED) {
                return NONE;
            }
            printedTongues[printedCount] = tongue;
            printedMeanings[printedCount] = meaning;
            printedForms[printedCount] = form;
            printedDays[printedCount] = day;
            printedCount++;
            return printedCount - 1;
        }

        boolean fell(int k, Tongues tongues) {
            return tongues.wordOf(printedTongues[k], printedMeanings[k]) != printedForms[k];
        }

        int fallen(Tongues tongues) {
            int number = 0;
            for (int k = 0; k < printedCount; k++) {
                if (fell(k, tongues)) {
                    number++;
                }
            }
            return number;
        }

        int printedFact(int k, int what, Tongues tongues) {
            if (k < 0 || k >= printedCount) {
                return NONE;
            }
            switch (what) {
                case 0:
                    return printedTongues[k];
                case 1:
                    return printedMeanings[k];
                case 2:
                    return printedForms[k];
                case 3:
                    return printedDays[k];
                case 4:
                    return fell(k, tongues) ? 1 : 0;
                default:
                    return NONE;
            }
        }

        boolean hasGrant(int grant) {
            return grant >= 0 && grant < grantCount;
        }

        int addGrant(int tongue, int meanings, int by) {
            if (grantCount >= MOST_GRANTS || !within(meanings, 1, MEANINGS) || !within(by, 0, LAST_DAY)) {
                return NONE;
            }
            grantTongues[grantCount] = tongue;
            grantNumbers[grantCount] = meanings;
            grantDays[grantCount] = by;
            grantCount++;
            return grantCount - 1;
        }
    }

    /** All that is told, and what several parts of it answer together. */
    private static final class World {
        static final int OPEN = 0;
        static final int KEPT = 1;
        static final int LOST = 2;

        int day = 0;
        final Tongues tongues = new Tongues();
        final People people = new People();
        final Customs customs = new Customs();
        final Archive archive = new Archive();
        final Papers papers = new Papers();

        void become(World other) {
            day = other.day;
            tongues.become(other.tongues);
            people.become(other.people);
            customs.become(other.customs);
            archive.become(other.archive);
            papers.become(other.papers);
        }

        int passDay() {
            if (day >= LAST_DAY) {
                return NONE;
            }
            people.endDay();
            day++;
            people.arrive(day);
            return day;
        }

        /** Bits of the MEANINGS that a PERSON SAYS. */
        int saidBy(int person) {
            if (!people.isAlive(person)) {
                return 0;
            }
            int able = 0;
            int kind = people.kinds[person];
            if (kind == SPEAKER || kind == KEEPER || kind == LEARNER && people.skills[person] >= 100) {
                able = ALL_MEANINGS;
            } else if (kind == HALF) {
                able = tongues.ofField(0);
            }
            int had = people.meanings[person] & able;
            return had == 0 ? 0 : had & tongues.worded[people.tongues[person]];
        }

        /** Bits of the MEANINGS that some PERSON of a TONGUE SAYS, one of them (or NONE) left out. */
        int saidIn(int tongue, int leftOut) {
            int bits = 0;
            for (int p = 0; p < people.size; p++) {
                if (p != leftOut && people.tongues[p] == tongue) {
                    bits |= saidBy(p);
                }
            }
            return bits;
        }

        int onlyOf(int person) {
            int said = saidBy(person);
            if (said == 0) {
                return 0;
            }
            int tongue = people.tongues[person];
            return Integer.bitCount(said & ~saidIn(tongue, person) & ~archive.heldMeanings(tongue, day));
        }

        int personFact(int person, int what) {
            if (!people.has(person)) {
                return NO_ANSWER;
            }
            switch (what) {
                case 0:
                    return people.kinds[person];
                case 1:
                    return people.clans[person];
                case 2:
                    return people.tongues[person];
                case 3:
                    return people.places[person];
                case 4:
                    return people.healths[person];
                case 5:
                    return people.meanings[person];
                case 6:
                    return saidBy(person);
                case 7:
                    return people.skills[person];
                case 8:
                    return people.hours[person];
                case 9:
                    return people.writings[person];
                case 10:
                    return people.deaths[person];
                case 11:
                    return onlyOf(person);
                case 12:
                    return archive.knownBy(person);
                default:
                    return NO_ANSWER;
            }
        }

        boolean canBeTold(int topic, int teller, int hearer, int meaning) {
            return within(topic, SAY, MAKE) && people.has(teller) && people.has(hearer) && within(meaning, 0, MEANINGS - 1);
        }

        boolean allows(int topic, int teller, int hearer, int meaning) {
            int told = lineTelling(topic, teller, hearer, meaning);
            return told == NONE || customs.saysYes(told / 100, told % 100);
        }

        /** WHY, as why() tells it. */
        int lineTelling(int topic, int teller, int hearer, int meaning) {
            int text = customs.inForce(day);
            if (text == NONE) {
                return NONE;
            }
            for (int line = 0; line < customs.lineCounts[text]; line++) {
                int slot = text * Customs.MOST_LINES + line;
                if (customs.topics[slot] == topic && allHold(slot, teller, hearer, meaning)) {
                    return 100 * text + line;
                }
            }
            return NONE;
        }

        private boolean allHold(int slot, int teller, int hearer, int meaning) {
            for (int i = 0; i < customs.testCounts[slot]; i++) {
                int test = customs.tests[slot * Customs.MOST_TESTS + i];
                int value = valueOf(Customs.subjectOf(test), teller, hearer, meaning);
                if (!Customs.holds(test, value)) {
                    return false;
                }
            }
            return true;
        }

        private int valueOf(int subject, int teller, int hearer, int meaning) {
            switch (subject) {
                case Customs.KIN:
                    return people.clans[teller] == people.clans[hearer] ? 1 : 0;
                case Customs.TELLER_CLAN:
                    return people.clans[teller];
                case Customs.EAR:
                    return people.clans[hearer];
                case Customs.KIND:
                    return people.kinds[hearer];
                case Customs.FIELD:
                    return tongues.fields[meaning];
                case Customs.DEAD:
                    return people.isAlive(teller) ? 0 : day - people.deaths[teller];
                default:
                    return day / 90 % 4;
            }
        }

        int askFor(int worker, int person, int meaning, int tape) {
            if (!canMeet(worker, person, meaning) || archive.rowCount >= MOST_ROWS) {
                return NONE;
            }
            if (tape != NONE && !archive.lasts(tape, day)) {
                return NONE;
            }
            if (!allows(SAY, person, worker, meaning)) {
                return SAY_IS_NO;
            }
            if (!allows(HEAR, person, worker, meaning)) {
                return HEAR_IS_NO;
            }
            if ((saidBy(person) >> meaning & 1) == 0) {
                return NONE;
            }
            people.hours[worker]--;
            people.hours[person]--;
            return archive.addRow(this, worker, person, meaning, tape);
        }

        private boolean canMeet(int worker, int person, int meaning) {
            boolean such = people.isLivingWorker(worker) && people.isAlive(person) && within(meaning, 0, MEANINGS - 1);
            if (!such || worker == person || !people.areTogether(worker, person)) {
                return false;
            }
            return people.hours[worker] > 0 && people.hours[person] > 0;
        }

        int playTo(int worker, int tape) {
            if (!people.isLivingWorker(worker) || !archive.lasts(tape, day)) {
                return NONE;
            }
            int more = 0;
            for (int r = 0; r < archive.rowCount; r++) {
                boolean heard = archive.rowTapes[r] == tape
                        && allows(PLAY, archive.rowPersons[r], worker, archive.rowMeanings[r]);
                if (heard && archive.learn(worker, r, day)) {
                    more++;
                }
            }
            return more;
        }

        int alike(int a, int b) {
            int length = lengthOf(archive.rowWords[a]);
            if (length != lengthOf(archive.rowWords[b])) {
                return 0;
            }
            boolean sure = true;
            for (int i = 0; i < length; i++) {
                int number = Integer.bitCount(soundsAt(a, i) & soundsAt(b, i));
                if (number == 0) {
                    return 0;
                }
                sure = sure && number == 1;
            }
            return sure ? 2 : 1;
        }

        /** Places count from the last here, which is all one as long as both rows are alike in length. */
        private int soundsAt(int row, int place) {
            int written = archive.rowWritten[row] >> 4 * place & LETTER_BASE - 1;
            return archive.soundsOf(people.writings[archive.rowWorkers[row]], written);
        }

        int schoolsFact(int sum, int what) {
            int[] numbers = new int[MOST_TONGUES];
            for (int t = 0; t < tongues.size; t++) {
                numbers[t] = Integer.bitCount(saidIn(t, NONE));
            }
            int bestNumber = 0;
            int bestCost = 0;
            int bestSet = 0;
            for (int set = 0; set < 1 << tongues.size; set++) {
                int number = 0;
                int cost = 0;
                for (int t = 0; t < tongues.size; t++) {
                    if ((set >> t & 1) != 0) {
                        number += numbers[t];
                        cost += tongues.costs[t];
                    }
                }
                boolean better = number > bestNumber || number == bestNumber && cost < bestCost;
                if (cost <= sum && better) {
                    bestNumber = number;
                    bestCost = cost;
                    bestSet = set;
                }
            }
            return what == 0 ? bestNumber : what == 1 ? bestCost : bestSet;
        }

        int printBy(int person, int tongue, int meaning) {
            int form = tongues.wordOf(tongue, meaning);
            int row = archive.latestOf(tongue, meaning);
            if (!people.has(person) || form == 0 || row == NONE) {
                return NONE;
            }
            boolean allowed = allows(PRINT, archive.rowPersons[row], person, meaning);
            return allowed ? papers.addPrinted(tongue, meaning, form, day) : NONE;
        }

        int grantFact(int grant, int what) {
            if (!papers.hasGrant(grant)) {
                return NONE;
            }
            int tongue = papers.grantTongues[grant];
            int by = papers.grantDays[grant];
            int rows = archive.meaningsUntil(tongue, by);
            switch (what) {
                case 0:
                    return grantState(tongue, papers.grantNumbers[grant], by, rows);
                case 1:
                    return Integer.bitCount(rows);
                default:
                    return NONE;
            }
        }

        private int grantState(int tongue, int wanted, int by, int rows) {
            if (Integer.bitCount(rows) >= wanted) {
                return KEPT;
            }
            boolean reachable = Integer.bitCount(rows | saidIn(tongue, NONE)) >= wanted;
            return day <= by && reachable ? OPEN : LOST;
        }

        int countOf(int what) {
            switch (what) {
                case 0:
                    return tongues.size;
                case 1:
                    return people.size;
                case 2:
                    return customs.size;
                case 3:
                    return archive.tapeCount;
                case 4:
                    return archive.rowCount;
                case 5:
                    return day;
                case 6:
                    return papers.printedCount;
                case 7:
                    return papers.fallen(tongues);
                case 8:
                    return papers.grantCount;
                case 9:
                    return customs.inForce(day);
                case 10:
                    return people.living();
                default:
                    return NO_ANSWER;
            }
        }
    }

    /** FOUND, READINGS and NEXT. */
    private static final class Finder {
        static final int MOST_READINGS = 64;
        static final int RULE_LIMIT = 9000;

        // Of each HEARD MEANING the PARENT's WORD and what was HEARD, 0 of the others.
        final int[] parentWords = new int[MEANINGS];
        final int[] heardWords = new int[MEANINGS];
        final int[] latest = new int[MEANINGS];
        // By how many OFF more than without any RULE, by the RULE's number.
        final int[] harm = new int[RULE_LIMIT];
        final int[] readings = new int[MOST_READINGS];
        final int[] madeForms = new int[MOST_READINGS];
        final int[] madeCounts = new int[MOST_READINGS];
        final int[] sounds = new int[FORM_LENGTH + 2];
        int soundCount = 0;
        int readingCount = 0;
        int heardCount = 0;
        int off = 0;

        /** READINGS hang on what was HEARD alone, so they are sought anew only when that is another. */
        void solve(World world, int tongue) {
            boolean other = gather(world, tongue);
            if (other || readingCount == 0) {
                seek();
            }
        }

        private boolean gather(World world, int tongue) {
            Archive archive = world.archive;
            Arrays.fill(latest, 0);
            for (int r = 0; r < archive.rowCount; r++) {
                if (archive.rowTongues[r] == tongue && archive.isHeld(r, world.day)) {
                    latest[archive.rowMeanings[r]] = archive.rowWords[r];
                }
            }
            boolean other = false;
            int parent = world.tongues.parents[tongue];
            for (int m = 0; m < MEANINGS; m++) {
                int word = world.tongues.wordOf(parent, m);
                int heard = word == 0 ? 0 : latest[m];
                int from = heard == 0 ? 0 : word;
                other = other || from != parentWords[m] || heard != heardWords[m];
                parentWords[m] = from;
                heardWords[m] = heard;
            }
            return other;
        }

        private void seek() {
            Arrays.fill(harm, 0);
            heardCount = 0;
            int offUnruled = 0;
            for (int m = 0; m < MEANINGS; m++) {
                if (heardWords[m] != 0) {
                    heardCount++;
                    weigh(parentWords[m], heardWords[m]);
                    if (parentWords[m] != heardWords[m]) {
                        offUnruled++;
                    }
                }
            }
            int least = leastHarm();
            off = offUnruled + least;
            readingCount = 0;
            for (int zeros = 2; zeros >= 0; zeros--) {
                takeReadings(zeros, least);
            }
        }

        /** Only RULES that some place of the WORD calls for can make another FORM of it. */
        private void weigh(int word, int heard) {
            spread(word);
            for (int i = 1; i <= soundCount; i++) {
                weighAt(word, heard, i, 0, 0);
                weighAt(word, heard, i, sounds[i - 1], 0);
                weighAt(word, heard, i, 0, sounds[i + 1]);
                weighAt(word, heard, i, sounds[i - 1], sounds[i + 1]);
            }
        }

        private void weighAt(int word, int heard, int place, int c, int d) {
            int x = sounds[place];
            for (int i = 1; i < place; i++) {
                if (sounds[i] == x && (c == 0 || c == sounds[i - 1]) && (d == 0 || d == sounds[i + 1])) {
                    return;
                }
            }
            for (int y = 0; y <= SOUNDS; y++) {
                int made = y == x ? word : changed(word, x, y, c, d);
                if (made != word && word == heard) {
                    harm[packedRule(x, y, c, d)]++;
                } else if (made != word && made == heard) {
                    harm[packedRule(x, y, c, d)]--;
                }
            }
        }

        private void spread(int word) {
            soundCount = lengthOf(word);
            int rest = word;
            for (int i = soundCount; i >= 1; i--) {
                sounds[i] = rest % FORM_BASE;
                rest /= FORM_BASE;
            }
            sounds[0] = EDGE;
            sounds[soundCount + 1] = EDGE;
        }

        private int leastHarm() {
            int least = MEANINGS;
            for (int x = 1; x <= SOUNDS; x++) {
                for (int y = 0; y <= SOUNDS; y++) {
                    if (y != x) {
                        int first = packedRule(x, y, 0, 0);
                        for (int edges = 0; edges < 100; edges++) {
                            least = Math.min(least, harm[first + edges]);
                        }
                    }
                }
            }
            return least;
        }

        private void takeReadings(int zeros, int least) {
            for (int x = 1; x <= SOUNDS; x++) {
                for (int y = 0; y <= SOUNDS; y++) {
                    if (y != x) {
                        takeReadingsOf(packedRule(x, y, 0, 0), zeros, least);
                    }
                }
            }
        }

        private void takeReadingsOf(int first, int zeros, int least) {
            for (int edges = 0; edges < 100 && readingCount < MOST_READINGS; edges++) {
                int free = (edges / 10 == 0 ? 1 : 0) + (edges % 10 == 0 ? 1 : 0);
                if (free == zeros && harm[first + edges] == least) {
                    readings[readingCount] = first + edges;
                    readingCount++;
                }
            }
        }

        int foundFact(int what) {
            switch (what) {
                case 0:
                    return off;
                case 1:
                    return readings[0];
                case 2:
                    return readingCount;
                case 3:
                    return heardCount;
                default:
                    return NONE;
            }
        }

        int readingAt(int k) {
            return k >= 0 && k < readingCount ? readings[k] : NONE;
        }

        int nextFact(World world, int tongue, int what) {
            int parent = world.tongues.parents[tongue];
            int said = world.saidIn(tongue, NONE);
            int best = NONE;
            int bestCrowd = MOST_READINGS + 1;
            for (int m = 0; m < MEANINGS; m++) {
                int word = world.tongues.wordOf(parent, m);
                if (word != 0 && heardWords[m] == 0 && (said >> m & 1) != 0) {
                    int crowd = greatestCrowd(word);
                    if (crowd < bestCrowd) {
                        best = m;
                        bestCrowd = crowd;
                    }
                }
            }
            if (best == NONE) {
                return NONE;
            }
            switch (what) {
                case 0:
                    return best;
                case 1:
                    return weakestSaying(world, tongue, best);
                case 2:
                    return bestCrowd;
                default:
                    return NONE;
            }
        }

        /** The greatest number of READINGS that make the same FORM of a WORD. */
        private int greatestCrowd(int word) {
            int kinds = 0;
            int greatest = 0;
            for (int k = 0; k < readingCount; k++) {
                int made = changedBy(word, readings[k]);
                int at = 0;
                while (at < kinds && madeForms[at] != made) {
                    at++;
                }
                if (at == kinds) {
                    madeForms[at] = made;
                    madeCounts[at] = 0;
                    kinds++;
                }
                madeCounts[at]++;
                greatest = Math.max(greatest, madeCounts[at]);
            }
            return greatest;
        }

        private static int weakestSaying(World world, int tongue, int meaning) {
            People people = world.people;
            int weakest = NONE;
            for (int p = 0; p < people.size; p++) {
                boolean says = people.tongues[p] == tongue && (world.saidBy(p) >> meaning & 1) != 0;
                if (says && (weakest == NONE || people.healths[p] < people.healths[weakest])) {
                    weakest = p;
                }
            }
            return weakest;
        }
    }

    /** VISITS. Sets here are bits by the PERSONS that may be visited, who stand in the order of their numbers. */
    private static final class Route {
        static final int MOST_VISITED = 9;
        // Far above nine ROADS and as many DAYS there.
        static final int MOST_DAYS = 1000;

        int size = 0;
        final int[] persons = new int[MOST_VISITED];
        final int[] places = new int[MOST_VISITED];
        final int[] onlys = new int[MOST_VISITED];
        // The fewest DAYS in which a set can be visited from a PLACE.
        final int[] fewest = new int[(1 << MOST_VISITED) * PLACES];
        final People people;
        int startPlace = 0;
        int bestSet = 0;
        int bestOnly = 0;
        int bestDays = 0;

        Route(People people) {
            this.people = people;
        }

        /** Those that may be visited. */
        void gather(World world) {
            size = 0;
            for (int p = 0; p < people.size && size < MOST_VISITED; p++) {
                int only = people.places[p] == NONE ? 0 : world.onlyOf(p);
                if (only > 0) {
                    persons[size] = p;
                    places[size] = people.places[p];
                    onlys[size] = only;
                    size++;
                }
            }
        }

        /** The best of those that were gathered last. */
        void solve(int place, int days) {
            startPlace = place;
            for (int set = 1; set < 1 << size; set++) {
                for (int from = 0; from < PLACES; from++) {
                    fewest[set * PLACES + from] = fewestFrom(set, from);
                }
            }
            bestSet = 0;
            bestOnly = 0;
            bestDays = 0;
            for (int set = 1; set < 1 << size; set++) {
                weigh(set, days);
            }
        }

        private int fewestFrom(int set, int from) {
            int least = MOST_DAYS;
            for (int i = 0; i < size; i++) {
                if ((set >> i & 1) != 0) {
                    least = Math.min(least, daysWithFirst(set, from, i));
                }
            }
            return least;
        }

        private int daysWithFirst(int set, int from, int i) {
            return people.daysBetween(from, places[i]) + 1 + fewest[(set ^ 1 << i) * PLACES + places[i]];
        }

        /** Sets come in rising order, so the least of those that are as good is met first. */
        private void weigh(int set, int days) {
            int needed = fewest[set * PLACES + startPlace];
            int only = 0;
            for (int i = 0; i < size; i++) {
                only += (set >> i & 1) * onlys[i];
            }
            boolean better = only > bestOnly || only == bestOnly && needed < bestDays;
            if (needed <= days && better) {
                bestSet = set;
                bestOnly = only;
                bestDays = needed;
            }
        }

        int routeFact(int what) {
            switch (what) {
                case 0:
                    return bestOnly;
                case 1:
                    return bestDays;
                case 2:
                    return bestPersons();
                case 3:
                    return Integer.bitCount(bestSet);
                default:
                    return NONE;
            }
        }

        private int bestPersons() {
            int bits = 0;
            for (int i = 0; i < size; i++) {
                if ((bestSet >> i & 1) != 0) {
                    bits |= 1 << persons[i];
                }
            }
            return bits;
        }

        int personAt(int step) {
            if (step < 0 || step >= Integer.bitCount(bestSet)) {
                return NONE;
            }
            int set = bestSet;
            int from = startPlace;
            for (int i = 0; i < step; i++) {
                int first = firstOf(set, from);
                set ^= 1 << first;
                from = places[first];
            }
            return persons[firstOf(set, from)];
        }

        /** The least with which a row of the fewest DAYS can begin. */
        private int firstOf(int set, int from) {
            for (int i = 0; i < size; i++) {
                if ((set >> i & 1) != 0 && daysWithFirst(set, from, i) == fewest[set * PLACES + from]) {
                    return i;
                }
            }
            return 0;
        }
    }

    /** COPIES. */
    private static final class Copying {
        static final int MOST_COPIED = 12;
        static final int ROWS_A_DAY = 4;

        int size = 0;
        final int[] tapes = new int[MOST_COPIED];
        final int[] worths = new int[MOST_COPIED];
        final int[] lengths = new int[MOST_COPIED];
        final int[] daysLeft = new int[MOST_COPIED];
        int bestWorth = 0;
        int bestDays = 0;
        int bestSet = 0;

        void solve(Archive archive, int day) {
            size = 0;
            for (int tape = 0; tape < archive.tapeCount && size < MOST_COPIED; tape++) {
                int worth = archive.lasts(tape, day) ? archive.worthOf(tape, day) : 0;
                if (worth > 0) {
                    insert(archive, tape, worth, day);
                }
            }
            bestWorth = 0;
            bestDays = 0;
            bestSet = 0;
            for (int chosen = 1; chosen < 1 << size; chosen++) {
                weigh(chosen);
            }
        }

        private void insert(Archive archive, int tape, int worth, int day) {
            int left = archive.goneDay(tape) - day;
            int at = size;
            while (at > 0 && daysLeft[at - 1] > left) {
                tapes[at] = tapes[at - 1];
                worths[at] = worths[at - 1];
                lengths[at] = lengths[at - 1];
                daysLeft[at] = daysLeft[at - 1];
                at--;
            }
            tapes[at] = tape;
            worths[at] = worth;
            lengths[at] = (archive.rowsOn(tape) + ROWS_A_DAY - 1) / ROWS_A_DAY;
            daysLeft[at] = left;
            size++;
        }

        /** The TAPES stand in the order in which they are GONE, so a set that can be done at all is done in that order. */
        private void weigh(int chosen) {
            int worth = 0;
            int days = 0;
            int set = 0;
            boolean inTime = true;
            for (int i = 0; i < size; i++) {
                if ((chosen >> i & 1) != 0) {
                    worth += worths[i];
                    days += lengths[i];
                    set |= 1 << tapes[i];
                    inTime = inTime && days <= daysLeft[i];
                }
            }
            boolean equal = worth == bestWorth && days == bestDays;
            boolean better = worth > bestWorth || worth == bestWorth && days < bestDays || equal && set < bestSet;
            if (inTime && better) {
                bestWorth = worth;
                bestDays = days;
                bestSet = set;
            }
        }

        int copiesFact(int what) {
            switch (what) {
                case 0:
                    return bestWorth;
                case 1:
                    return bestDays;
                case 2:
                    return bestSet;
                default:
                    return NONE;
            }
        }
    }

    /** MADE: the FORMS by number, each once. */
    private static final class Maker {
        static final int MOST_MADE = MEANINGS * (MEANINGS - 1);

        int size = 0;
        final int[] forms = new int[MOST_MADE];

        void collect(Tongues tongues, int tongue, int meaning) {
            size = 0;
            int field = tongues.ofField(tongues.fields[meaning]);
            int usable = field & tongues.worded[tongue];
            for (int a = 0; a < MEANINGS; a++) {
                for (int b = 0; b < MEANINGS; b++) {
                    if (a != b && (usable >> a & 1) != 0 && (usable >> b & 1) != 0) {
                        consider(tongues, tongue, joined(tongues.wordOf(tongue, a), tongues.wordOf(tongue, b)));
                    }
                }
            }
        }

        private void consider(Tongues tongues, int tongue, int both) {
            if (both == 0) {
                return;
            }
            int form = tongues.byRules(tongue, both);
            if (!tongues.isWord(tongue, form)) {
                insert(form);
            }
        }

        private void insert(int form) {
            int low = 0;
            int high = size;
            for (int i = 0; i < MOST_MADE && low < high; i++) {
                int middle = (low + high) / 2;
                if (forms[middle] < form) {
                    low = middle + 1;
                } else {
                    high = middle;
                }
            }
            boolean there = low < size && forms[low] == form;
            if (!there && size < MOST_MADE) {
                System.arraycopy(forms, low, forms, low + 1, size - low);
                forms[low] = form;
                size++;
            }
        }

        int formAt(int k) {
            return k >= 0 && k < size ? forms[k] : NONE;
        }
    }
}
