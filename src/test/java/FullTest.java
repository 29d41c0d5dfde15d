import java.util.List;

/** A world in which all is as many as can be, and each call of the face with each number at, ahead of and beyond its edges. */
public final class FullTest extends Checks {
    /** A call with numbers that are fine, and of each number the least and the most that can be. */
    private record Face(String name, int[] fine, int... edges) { }

    private static Face face(String name, int... leastMostFine) {
        int n = leastMostFine.length / 3;
        int[] fine = new int[n], edges = new int[2 * n];
        for (int i = 0; i < n; i++) {
            edges[2 * i] = leastMostFine[3 * i];
            edges[2 * i + 1] = leastMostFine[3 * i + 1];
            fine[i] = leastMostFine[3 * i + 2];
        }
        return new Face(name, fine, edges);
    }

    private static final List<Face> FACES = List.of(
        face("tongue", -1, 5, 0), face("rule", 0, 5, 1, 1, 8, 2, 0, 8, 3, 0, 9, 0, 0, 9, 0), face("unrule", 0, 5, 1),
        face("word", 0, 5, 1, 0, 23, 3, 0, 531440, 10), face("form", 0, 5, 1, 0, 23, 3), face("field", 0, 23, 4, 0, 3, 1),
        face("road", 0, 5, 1, 0, 5, 2, 0, 9, 3), face("person", 0, 4, 1, 0, 3, 1, 0, 5, 1, 0, 5, 1), face("have", 0, 15, 3, 0, 0xFFFFFF, 7),
        face("health", 0, 15, 3, 0, 100, 20), face("go", 0, 15, 3, 0, 5, 1), face("day"), face("tell", 0, 15, 3, 0, 12, 6), face("end", 0, 500, 20),
        face("custom", 0, 999, 3), face("fault", 0, 1, 1), face("may", 0, 4, 0, 0, 15, 3, 0, 15, 1, 0, 23, 3),
        face("why", 0, 4, 0, 0, 15, 3, 0, 15, 1, 0, 23, 3), face("writes", 0, 15, 1, 0, 3, 2), face("letter", 0, 3, 1, 1, 8, 2, 1, 15, 3),
        face("tape", 1, 400, 5), face("copy", 0, 15, 3), face("about", 0, 15, 3, 0, 4, 4),
        face("ask", 0, 15, 1, 0, 15, 3, 0, 23, 3, -1, 15, 5), face("row", 0, 119, 5, 0, 8, 2), face("play", 0, 15, 1, 0, 15, 5),
        face("known", 0, 15, 0, 0, 5, 1, 0, 23, 3, 0, 9, 5), face("same", 0, 119, 5, 0, 119, 7), face("find", 0, 5, 1, 0, 3, 1),
        face("reading", 0, 5, 1, 0, 63, 1), face("next", 0, 5, 1, 0, 2, 1), face("visits", 0, 15, 0, 1, 20, 7, 0, 3, 2),
        face("visited", 0, 15, 0, 1, 20, 9, 0, 9, 1), face("copies", 0, 2, 2), face("cost", 0, 5, 1, 1, 999, 5), face("schools", 0, 10000, 300, 0, 2, 2),
        face("teach", 0, 15, 2, 0, 15, 3, 1, 8, 1), face("make", 0, 15, 0, 0, 5, 1, 0, 23, 3, 0, 40, 1), face("print", 0, 15, 3, 0, 5, 1, 0, 23, 3),
        face("printed", 0, 39, 5, 0, 4, 2), face("grant", 0, 5, 1, 1, 24, 3, 0, 999, 5), face("granted", 0, 7, 3, 0, 1, 0), face("count", 0, 10, 7),
        face("image", 0, 2, 1), face("again", 0, 2, 0));

    public static void main(String[] args) {
        by("a new object");
        eachAlone(new Twins());
        by("a world that has one of each");
        eachAlone(small());
        by("a full world");
        eachAlone(full(true));
        by("a world that is full but for one of each");
        oneMoreOfEach();
        by("a tape that is full");
        fullTape();
        finish();
    }

    private static int[] numbers(int least, int most) {
        return new int[] {least - 1, least, least + 1, most - 1, most, most + 1, MIN, MIN + 1, MAX, MAX - 1, -1, 0, 1, 32, 64, -32, 1 << 24};
    }

    /** Each number of each call by itself, and any two of them together; what one call changed is not told any more at the next. */
    private static void eachAlone(Twins x) {
        x.look();
        x.both("image", 0);
        for (Face face : FACES) {
            x.both(face.name, face.fine);
            for (int i = 0; i < face.fine.length; i++) {
                for (int n : numbers(face.edges[2 * i], face.edges[2 * i + 1])) {
                    int[] all = face.fine.clone();
                    all[i] = n;
                    x.both(face.name, all);
                    for (int j = 0; j < i; j++) {
                        int[] two = all.clone();
                        two[j] = face.edges[2 * j];
                        x.both(face.name, two);
                        two[j] = face.edges[2 * j + 1];
                        x.both(face.name, two);
                        two[j] = face.edges[2 * j + 1] + 1;
                        x.both(face.name, two);
                    }
                }
            }
            x.both("again", 0);
        }
        x.look();
    }

    private static Twins small() {
        Twins x = new Twins();
        x.both("tongue", -1);
        x.both("tongue", 0);
        for (int m = 0; m < 24; m++) x.both("word", 0, m, 1 + m % 8);
        x.both("rule", 1, 1, 2, 0, 0);
        int[] kinds = {WORKER, WORKER, LEARNER, SPEAKER};
        for (int p = 0; p < 4; p++) { x.both("person", kinds[p], 0, 1, 0); x.both("have", p, p == 3 ? ALL : 0); }
        x.text("say:yes;");
        x.both("custom", 0);
        x.both("tape", 5);
        x.both("ask", 0, 3, 0, 0);
        x.both("ask", 0, 3, 3, 0);
        x.both("print", 0, 1, 0);
        x.both("grant", 1, 1, 0);
        return x;
    }

    /** All is as many as can be, or one fewer. */
    private static Twins full(boolean whole) {
        Twins x = new Twins();
        int less = whole ? 0 : 1;
        for (int t = 0; t < 6 - less; t++) x.both("tongue", t - 1);
        for (int m = 0; m < 24; m++) x.both("word", 0, m, f("" + (1 + m / 8) + (1 + m % 8) + "1"));
        for (int t = 0; t < 6 - less; t++) for (int i = 0; i < 6 - less; i++) x.both("rule", t, 1 + i, 8 - i - t % 3 == 1 + i ? 0 : 8 - i - t % 3, i % 2 * 9, 0);
        for (int m = 0; m < 24; m++) x.both("word", 1 + m % 4, m, f("" + (1 + m % 8) + (1 + m / 3)));
        for (int p = 0; p < 16 - less; p++) {
            x.both("person", p < 2 ? WORKER : p == 2 ? LEARNER : p == 15 - less ? WORKER : SPEAKER, p % 4, 1 + p % 4, p == 14 ? 5 : 0);
            x.both("have", p, p == 3 ? ALL : p < 3 ? 0 : 1 << p | 1 << 23 - p | 1 << p / 2);
        }
        for (int t = 0; t < 16 - less; t++) x.both("tape", t == 7 ? 1 : 4 + t);
        for (int i = 0; i < 4 - less; i++) { x.text("say if dead=" + i + " and field=3:no;hear if season=2:no;play if ear=" + i + ":yes;print:yes;make if clan=3:no;"); x.both("custom", i < 3 ? 0 : 3); }
        int rows = 0;
        for (int d = 0; d < 9 && rows < 120 - less; d++) {
            for (int i = 0; i < 16 && rows < 120 - less; i++) {
                int p = 3 + i % 11, m = p == 3 ? (5 * rows + d) % 24 : p;
                if (x.both("ask", i % 2, p, m, rows % 16 - less) == rows) rows++;
                else if (x.both("ask", i % 2, p, 23 - p, -1) == rows) rows++;
            }
            if (d == 2) x.both("health", 4, 20);
            if (rows < 120 - less) x.both("day");
        }
        due("ROWS", x.both("count", 4), 120 - less);
        for (int k = 0; k < 40 - less; k++) {
            int[] row = {x.both("row", 3 * k, 0), x.both("row", 3 * k, 1)};
            due("PRINTED", x.both("print", 4, row[0], row[1]), k);
        }
        for (int g = 0; g < 8 - less; g++) x.both("grant", 1 + g % 4, 1 + 3 * g, 2 * g);
        x.text("say:no;");
        x.both("image", 1);
        x.both("image", 2);
        int[] most = {6, 16, 4, 16, 120};
        for (int i = 0; i < most.length; i++) due("how many of " + i, x.both("count", i), most[i] - less);
        due("PRINTED", x.both("count", 6), 40 - less);
        due("GRANTS", x.both("count", 8), 8 - less);
        return x;
    }

    /** The last of each can be, and then no other. */
    private static void oneMoreOfEach() {
        Twins x = full(false);
        x.both("day");
        for (int i = 0; i < 2; i++) {
            due("a TONGUE", x.both("tongue", 4), i == 0 ? 5 : NONE);
            due("a RULE", x.both("rule", 1, 8, 1, 0, 0), i == 0 ? 5 : NONE);
            due("a PERSON", x.both("person", WORKER, 0, 0, 0), i == 0 ? 15 : NONE);
            due("a TAPE", x.both("tape", 9), i == 0 ? 15 : NONE);
            x.both("end", 0);
            due("a text", x.both("custom", 0), i == 0 ? 3 : -2);
            due("a ROW", x.both("ask", 0, 3, 5, 15), i == 0 ? 119 : NONE);
            due("PRINTED", x.both("print", 15, x.both("row", 7, 0), x.both("row", 7, 1)), i == 0 ? 39 : NONE);
            due("a GRANT", x.both("grant", 5, 24, 999), i == 0 ? 7 : NONE);
            x.look();
        }
        for (int p = 0; p < 17; p++) x.both("health", p, 0);
        x.look();
        x.days(30);
        x.look();
    }

    private static void fullTape() {
        Twins x = new Twins();
        for (int i = 0; i < 26; i++) x.both("feed", 0x7361793A, 0x6E6F3B20, 0x20202020, 0x20202020, 0x20202020);
        x.both("end", 501);
        x.both("end", 500);
        x.both("custom", 0);
        x.both("fault", 0);
        x.both("fault", 1);
        for (int i = 0; i < 26; i++) x.both("feed", MIN, MAX, -1, 0, i);
        x.both("custom", 0);
        x.both("fault", 0);
        x.both("fault", 1);
        for (int n = 500; n >= 478; n--) {
            for (int i = 0; i < 25; i++) x.both("feed", 0x3B3B3B3B, 0x3B3B3B3B, 0x3B3B3B3B, 0x3B3B3B3B, 0x3B3B3B3B);
            x.both("end", n);
            x.both("feed", 1, 2, 3, 4, 5);
            x.both("end", n + 1);
            x.both("end", 0);
        }
    }
}
