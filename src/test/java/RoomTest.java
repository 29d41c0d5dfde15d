import java.lang.management.ManagementFactory;
import java.util.Random;

/** What a run of 512 calls makes stays far below the room that all calls live in. */
public final class RoomTest {
    // Of 7.3 million fields and elements, four bytes each at the least: less than a tenth.
    private static final long MOST_BYTES = 2_900_000;

    private static int wrong = 0;

    public static void main(String[] args) {
        String[] dear = {"find", "reading", "next", "visits", "visited", "copies", "schools", "make", "custom", "image", "again", "ask", "play", "rule", "tell", "granted"};
        for (String name : dear) measure(name);
        measure("all");
        System.out.println(wrong == 0 ? "the room is as due" : wrong + " calls take too much room");
        if (wrong != 0) System.exit(1);
    }

    private static void measure(String name) {
        run(name);
        com.sun.management.ThreadMXBean threads = (com.sun.management.ThreadMXBean) ManagementFactory.getThreadMXBean();
        long thread = Thread.currentThread().getId();
        long before = threads.getThreadAllocatedBytes(thread);
        run(name);
        long took = threads.getThreadAllocatedBytes(thread) - before;
        if (took > MOST_BYTES) {
            wrong++;
            System.out.println("512 calls of " + name + " take " + took + " bytes");
        }
    }

    private static int run(String name) {
        LastTongue x = new LastTongue();
        x.tongue(LastTongue.NONE);
        for (int t = 1; t < 6; t++) x.tongue(t - 1);
        for (int m = 0; m < 24; m++) x.word(0, m, Integer.parseInt("" + (1 + m / 8) + (1 + m % 8) + (1 + m % 3), 9));
        x.person(4, 0, 1, 0);
        for (int p = 1; p < 16; p++) {
            x.person(p == 15 ? 4 : 0, 0, p % 2 + 1, p % 6);
            x.have(p, 1 << p | 1 << p + 1 | 1 << p + 2);
        }
        for (int t = 0; t < 16; t++) x.tape(20 + t);
        int sum = 0;
        Random random = new Random(5);
        String[] names = {"find", "reading", "next", "visits", "visited", "copies", "schools", "make", "custom", "image", "again", "ask", "play", "rule", "tell", "granted"};
        for (int i = 0; i < 440; i++) sum += call(x, name.equals("all") ? names[random.nextInt(names.length)] : name, i);
        return sum;
    }

    private static int call(LastTongue x, String name, int i) {
        switch (name) {
            case "find": return i % 2 == 0 ? x.find(1 + i % 5, i % 4) : x.ask(0, 6, 6 + i % 3, i % 16);
            case "reading": return x.reading(1 + i % 5, i % 64);
            case "next": return x.next(1 + i % 5, i % 3);
            case "visits": return x.visits(0, 1 + i % 20, i % 4);
            case "visited": return x.visited(0, 1 + i % 20, i % 4);
            case "copies": return x.copies(i % 3);
            case "schools": return x.schools(100 * (i % 8), i % 3);
            case "make": return x.make(0, i % 6, i % 24, i);
            case "custom": return i % 10 != 0 ? x.feed(1935767866, 1852783475, 1635334766, 1866167137, 2033872495) : x.custom(0);
            case "image": return x.image(i % 3) ? 1 : 0;
            case "again": return x.image(0) && x.again(0) ? 1 : 0;
            case "ask": return i % 20 == 0 ? x.day() : x.ask(0, 6, 6 + i % 3, i % 16);
            case "play": return x.play(15, i % 16);
            case "rule": return i % 2 == 0 ? x.rule(i % 6, 1 + i % 8, 0, 0, 0) : x.unrule(i % 6) ? 1 : 0;
            case "tell": return x.tell(i % 16, i % 13);
            default: return x.grant(1, 5, 9) + x.granted(0, 0);
        }
    }
}
