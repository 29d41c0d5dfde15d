import java.util.List;
import java.util.function.Consumer;

/** Whatever is told behind an image is not told any more when all is as the image has it; and it goes on as it would have. */
public final class ImagesTest extends Checks {
    /** A call, or some, that tell what is not told yet. */
    private record Change(String name, Consumer<Twins> tell) { }

    private static final List<Change> CHANGES = List.of(
        one("tongue", 0), one("tongue", -1), one("rule", 1, 5, 6, 0, 0), one("rule", 2, 1, 0, 9, 0), one("unrule", 1), one("unrule", 2),
        one("word", 0, 0, 7), one("word", 1, 3, 0), one("word", 2, 11, 3), one("word", 0, 5, 0), one("field", 0, 2), one("field", 6, 0),
        one("road", 0, 1, 9), one("road", 4, 5, 0), one("person", 0, 1, 1, 0), one("have", 1, 5), one("have", 2, 0xFFF), one("health", 1, 7),
        one("health", 3, 0), one("health", 6, 0), one("go", 1, 3), one("go", 0, 5), one("day"), one("feed", 1, 2, 3, 4, 5), one("end", 2),
        one("custom", 0), one("custom", 1000), one("writes", 0, 3), one("letter", 0, 1, 9), one("letter", 1, 2, 1), one("tape", 5), one("copy", 1),
        one("ask", 0, 1, 4, 1), one("ask", 5, 4, 2, -1), one("play", 5, 0), one("cost", 1, 7), one("teach", 2, 1, 2), one("teach", 7, 3, 1),
        one("print", 0, 1, 0), one("grant", 1, 2, 9),
        new Change("a text", x -> { x.both("end", 0); x.text("say:no;make if kin:no;"); x.both("custom", 0); }),
        new Change("all four texts", x -> {
            x.both("end", 0);
            for (int i = 0; i < 2; i++) { x.text("hear if clan=3 and not kin:yes;say if dead<9:no;play:no;print:no;make:no;"); x.both("custom", i); }
        }),
        new Change("a fault", x -> { x.both("end", 0); x.text("say:no;hear"); x.both("custom", 0); }),
        new Change("another life", ImagesTest::anotherLife));

    private static final List<Change> LATER = List.of(
        new Change("at once", x -> { }),
        new Change("DAYS", x -> { for (int i = 0; i < 4; i++) { x.both("day"); for (int p = 0; p < 9; p++) for (int w = 3; w < 9; w++) x.both("tell", p, w); } }),
        new Change("RULES go", x -> { for (int t = 0; t < 3; t++) for (int i = 0; i < 3; i++) { x.both("unrule", t); x.both("form", 2, 4); } }),
        new Change("RULES come", x -> { for (int t = 0; t < 3; t++) for (int i = 0; i < 7; i++) { x.both("rule", t, 1 + i, 8, 0, 0); x.both("form", 2, i); } }),
        new Change("BREAKS go", x -> { for (int t = 0; t < 3; t++) for (int m = 0; m < 12; m++) { x.both("word", t, m, 0); x.both("form", 2, m); } }),
        new Change("BREAKS come", x -> { for (int m = 0; m < 24; m++) x.both("word", 0, m, 20 + m % 8); }),
        new Change("who is TAUGHT", x -> { x.both("teach", 2, 1, 3); x.both("teach", 7, 3, 4); x.both("day"); x.both("tell", 2, 7); x.both("tell", 7, 7); x.both("tell", 2, 5); }),
        new Change("all go", x -> { for (int p = 0; p < 10; p++) x.both("go", p, 5); x.days(3); }),
        new Change("the tape goes on", x -> { x.text("no;  play : no ;"); x.both("custom", 0); }),
        new Change("more PERSONS", x -> { for (int i = 0; i < 8; i++) x.both("person", i % 5, 1, i % 3, 2); }),
        new Change("more TAPES", x -> { for (int i = 0; i < 4; i++) { x.both("tape", 3 + i); x.both("copy", i); } }),
        new Change("more ROWS", x -> { for (int m = 0; m < 12; m++) { x.both("ask", 0, 1, m, 1); x.both("ask", 5, 4, m, 0); x.both("ask", 5, 1, m, 2); } }),
        new Change("TAPES are heard", x -> { for (int t = 0; t < 3; t++) { x.both("play", 0, t); x.both("play", 5, t); x.both("tell", 5, 12); } }),
        new Change("more is PRINTED", x -> { for (int m = 0; m < 6; m++) x.both("print", 1, m % 3, m); x.both("unrule", 1); x.both("count", 7); }),
        new Change("more GRANTS", x -> { for (int i = 1; i < 9; i++) { x.both("grant", i % 3, i, i); x.both("granted", i, 0); } }));

    public static void main(String[] args) {
        for (Change change : CHANGES) againBehind(change);
        imagesAreThree();
        imagesStay();
        finish();
    }

    private static Change one(String name, int... numbers) {
        return new Change(new Call(name, numbers).toString(), x -> x.both(name, numbers));
    }

    /** Two WORKERS, 0 and 5, who go about in a valley of two TONGUES: some of all there is, and nothing is full. */
    private static Twins life() {
        Twins x = new Twins();
        for (int t = 0; t < 3; t++) x.both("tongue", t - 1);
        for (int m = 0; m < 10; m++) x.both("word", 0, m, f("" + (1 + m % 3) + (1 + m % 4)));
        x.both("rule", 1, 1, 2, 9, 0);
        x.both("rule", 1, 3, 4, 0, 0);
        x.both("rule", 2, 2, 0, 0, 9);
        x.both("word", 1, 3, f("67"));
        x.both("word", 1, 11, f("5"));
        x.both("field", 6, 1);
        x.both("field", 7, 1);
        x.both("road", 0, 1, 2);
        x.both("road", 0, 2, 4);
        x.both("road", 0, 3, 0);
        int[] kinds = {WORKER, SPEAKER, LEARNER, HALF, KEEPER, WORKER, SPEAKER, LEARNER, SPEAKER};
        for (int p = 0; p < kinds.length; p++) {
            x.both("person", kinds[p], p % 4, p == 4 || p == 8 ? 0 : 1, 0);
            x.both("have", p, kinds[p] == LEARNER || kinds[p] == WORKER ? 0 : p == 6 ? 0xF00 : 0xFF);
        }
        x.both("cost", 1, 60);
        x.both("writes", 5, 1);
        x.both("letter", 1, 1, 14);
        int[] lives = {4, 9, 30};
        for (int life : lives) x.both("tape", life);
        x.text("say if dead=7:no;hear if field=1 and ear=0:no;");
        x.both("custom", 0);
        x.text("say if kin:no;make:no;");
        x.both("custom", 4);
        x.days(2);
        x.both("ask", 0, 1, 0, 0);
        x.both("ask", 0, 1, 3, 1);
        x.both("ask", 5, 4, 1, 0);
        x.both("ask", 5, 4, 1, -1);
        x.both("print", 0, 1, 0);
        x.both("grant", 1, 3, 4);
        x.both("teach", 2, 1, 1);
        x.both("teach", 7, 3, 2);
        x.both("health", 1, 25);
        x.both("health", 8, 0);
        x.both("day");
        x.both("teach", 2, 3, 1);
        x.both("go", 6, 2);
        x.both("play", 0, 0);
        x.text("say ?");
        x.both("custom", 0);
        x.text("say:");
        x.both("end", 4);
        return x;
    }

    private static void anotherLife(Twins x) {
        for (int t = 0; t < 3; t++) { x.both("rule", t, 4, 5, 0, 0); x.both("unrule", t); x.both("cost", t, 900); x.both("tongue", 2); x.both("rule", t, 8, 1, 0, 0); }
        for (int m = 0; m < 24; m++) { x.both("word", m % 6, m, 1 + m % 8); x.both("field", m, 3); }
        for (int a = 0; a < 6; a++) for (int b = 0; b < a; b++) x.both("road", a, b, 8);
        for (int p = 0; p < 16; p++) { x.both("person", 4 - p % 5, 3, 2, 4); x.both("have", p, 0xF0F0F0); x.both("health", p, p * 9 % 50); x.both("teach", p, 1, 8); x.both("writes", p, 2); }
        for (int w = 0; w < 4; w++) for (int s = 1; s <= 8; s++) x.both("letter", w, s, 9);
        for (int i = 0; i < 16; i++) { x.both("tape", 1 + i); x.both("copy", i); }
        for (int d = 0; d < 6; d++) {
            for (int p = 0; p < 16; p++) { x.both("ask", 0, p, 4 + d, 2); x.both("ask", 5, p, 5 + d, 1); x.both("play", p, 2); x.both("go", p, p % 6); x.both("print", p, 1, d); }
            x.both("grant", 2, 20, 900);
            x.both("day");
        }
        for (int i = 0; i < 2; i++) { x.text("make if season=0:yes;say:no;hear if clan=3:no;"); x.both("custom", 1); }
        x.text("!");
        x.both("end", 1);
    }

    private static void againBehind(Change change) {
        by("image and again, behind " + change.name);
        Twins x = life();
        x.both("image", 1);
        change.tell.accept(x);
        x.both("again", 1);
        x.look();
        for (Change later : LATER) {
            by("image and again, behind " + change.name + ", later " + later.name);
            x.both("again", 1);
            later.tell.accept(x);
            x.both("again", 1);
            change.tell.accept(x);
            x.both("again", 1);
            later.tell.accept(x);
        }
        x.look();
    }

    private static void imagesAreThree() {
        by("Image k (0 .. 2) is all that is told, as it is now");
        Twins x = new Twins();
        int[] wrong = {-1, 3, MIN, MAX};
        for (int k : wrong) { x.both("image", k); x.both("again", k); }
        for (int k = 0; k < 3; k++) {
            x.both("again", k);
            x.both("image", k);
            x.both("tongue", -1);
            x.both("again", k);
            x.both("count", 0);
            x.both("tongue", -1);
            x.both("day");
        }
        for (int k = 2; k >= 0; k--) { x.both("again", k); x.both("count", 0); x.both("count", 5); x.both("tongue", 0); }
        for (int k = 0; k < 3; k++) { x.both("again", k); x.both("count", 0); x.both("count", 5); }
        x.both("image", 1);
        x.both("again", 0);
        x.both("again", 1);
        x.both("count", 5);
    }

    /** again() changes no image, and a new object has none. */
    private static void imagesStay() {
        by("All that is as image k has it");
        Twins x = life();
        x.both("image", 0);
        anotherLife(x);
        x.both("image", 2);
        int[] order = {0, 2, 2, 0, 0, 2};
        for (int k : order) { x.both("again", k); x.look(); x.days(2); x.both("health", 1, 3); }
        x.both("again", 1);
        x.both("image", 0);
        x.both("again", 2);
        x.both("again", 0);
        x.look();
    }
}
