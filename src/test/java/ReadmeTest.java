import java.io.IOException;
import java.nio.charset.StandardCharsets;
import java.nio.file.Files;
import java.nio.file.Path;

/** README.md's example: it stands below word for word, and each answer is the one that its comment tells. */
public final class ReadmeTest extends Checks {
    public static void main(String[] args) throws IOException {
        by("README.md");
        example();
        String readme = block(read("README.md"), "```java\n", "```");
        String here = block(read("src/test/java/ReadmeTest.java"), "// The example begins.\n", "        // The example ends.");
        alike("the example", readme, here.replace("\n        ", "\n").substring(8));
        finish();
    }

    private static String read(String path) throws IOException { return Files.readString(Path.of(path), StandardCharsets.UTF_8); }

    private static String block(String text, String start, String end) {
        int from = text.indexOf(start) + start.length();
        return text.substring(from, text.indexOf(end, from));
    }

    private static void example() {
        // The example begins.
        LastTongue x = new LastTongue();

        int old = x.tongue(LastTongue.NONE);          // a TONGUE without a PARENT: 0
        int young = x.tongue(old);                    // one born of it: 1
        x.word(old, 0, 10);                           // there MEANING 0 is SOUNDS 1, 1
        x.word(old, 1, 28);                           // and MEANING 1 is SOUNDS 3, 1
        x.rule(young, 1, 2, 9, 0);                    // 1 becomes 2 behind the edge
        int form = x.form(young, 0);                  // 19: SOUNDS 2, 1

        int worker = x.person(4, 0, young, 0);        // a WORKER of CLAN 0 at PLACE 0: 0
        int speaker = x.person(0, 1, young, 0);       // a SPEAKER of CLAN 1 there: 1
        x.have(speaker, 3);                           // it HAS the MEANINGS 0 and 1
        int tape = x.tape(30);                        // a TAPE that is GONE 30 DAYS from now: 0
        int row = x.ask(worker, speaker, 0, tape);    // MEANING 0 is heard: ROW 0
        int written = x.row(row, 7);                  // 33: LETTERS 2, 1

        int found = x.find(young, 1);                 // 1201: 1 becomes 2 ahead of 1
        int readings = x.find(young, 2);              // 3 RULES make as much of what was heard
        int next = x.next(young, 0);                  // 1: the MEANING to ask for next
        int whom = x.next(young, 1);                  // 1: of that PERSON

        // A text comes by its bytes, four in a number, the first highest: "say if kin:no;", filled up with blanks.
        x.feed(0x73617920, 0x6966206B, 0x696E3A6E, 0x6F3B2020, 0x20202020);
        int text = x.custom(1);                       // in force from DAY 1 on: text 0
        int today = x.day();                          // 1
        boolean may = x.may(0, speaker, worker, 1);   // true: they are not of one CLAN
        int why = x.why(0, speaker, speaker, 1);      // 0: LINE 0 of text 0 says no

        x.image(0);                                   // all as it is now
        x.health(speaker, 0);                         // the SPEAKER dies
        int saidDead = x.tell(speaker, 6);            // 0: it SAYS nothing
        x.again(0);                                   // all as it was then
        int said = x.tell(speaker, 6);                // 3: the MEANINGS 0 and 1
        int only = x.visits(worker, 1, 0);            // 1: MEANING 1 is still to be heard
        // The example ends.
        due("old", old, 0);
        due("young", young, 1);
        due("form", form, 19);
        due("worker", worker, 0);
        due("speaker", speaker, 1);
        due("tape", tape, 0);
        due("row", row, 0);
        due("written", written, 33);
        due("found", found, 1201);
        due("readings", readings, 3);
        due("next", next, 1);
        due("whom", whom, 1);
        due("text", text, 0);
        due("today", today, 1);
        yes("may", may);
        due("why", why, 0);
        due("saidDead", saidDead, 0);
        due("said", said, 3);
        due("only", only, 1);
    }
}
