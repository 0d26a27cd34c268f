import com.sun.management.ThreadMXBean;
import java.lang.management.ManagementFactory;

/**
 * What the dearest runs of calls make stays below the room of a run: 7.3 million fields and elements, 600,000 objects.
 * It is told in bytes: a field or an element takes one at least, an object sixteen.
 */
public final class RoomTests {
    private static final Check CHECK = new Check();
    private static final ThreadMXBean THREADS = (ThreadMXBean) ManagementFactory.getThreadMXBean();
    private static final long MOST_BYTES = 7_300_000;
    private static final String BIG = "core:store 1 2;set a 2;set a 1;load c 0;fence;store 2 1;end "
        + "core:store 1 2;store 0 2;store 2 2;end core:load a 1;load a 2;load c 2;store 2 1;load b 0;store 0 1;end";

    public static void main(String[] args) {
        dearestCallsAgainAndAgain();
        manyOutcomes();
        someObjects();
        CHECK.end();
    }

    private static long made() {
        return THREADS.getThreadAllocatedBytes(Thread.currentThread().getId());
    }

    // The words of a text are made ahead, so that what is measured is the hall's alone.
    private static int[] words(String text) {
        int[] words = new int[(text.length() + 19) / 20 * 5];
        String padded = text + " ".repeat(words.length * 4 - text.length());
        for (int i = 0; i < words.length; i++) {
            words[i] = Check.word(padded, 4 * i);
        }
        return words;
    }

    private static void exercise(LitmusHall hall, int[] words) {
        for (int i = 0; i < words.length; i += 5) {
            hall.feed(words[i], words[i + 1], words[i + 2], words[i + 3], words[i + 4]);
        }
        hall.read();
        hall.outcomes(0);
        hall.outcomes(1);
        hall.more(0);
        hall.race();
        hall.cure(2);
        hall.begin(1);
        hall.step(0);
        hall.undo();
    }

    private static void due(String what, long before) {
        long bytes = made() - before;
        System.out.println(what + ": " + bytes + " bytes");
        CHECK.due(what + " in the room of a run", bytes <= MOST_BYTES, true);
    }

    private static void dearestCallsAgainAndAgain() {
        int[] words = words(BIG);
        exercise(new LitmusHall(), words);
        int times = 512 / (words.length / 5 + 9);
        long before = made();
        LitmusHall hall = new LitmusHall();
        for (int n = 0; n < times; n++) {
            exercise(hall, words);
        }
        due(times + " big PROGRAMS on one object", before);
    }

    // Each has more OUTCOMES than the one ahead of it.
    private static void manyOutcomes() {
        int[][] texts = new int[6][];
        for (int n = 0; n < 6; n++) {
            texts[n] = words("core:" + "store 0 1;store 0 2;store 0 3;store 0 4;store 0 5;store 0 6;".substring(0, 10 * (n + 1))
                + "end core:load a 0;load b 0;load c 0;end");
        }
        long before = made();
        LitmusHall hall = new LitmusHall();
        for (int again = 0; again < 4; again++) {
            for (int[] text : texts) {
                exercise(hall, text);
            }
        }
        due("24 PROGRAMS with more and more OUTCOMES", before);
    }

    private static void someObjects() {
        int[] words = words("core:end");
        long before = made();
        for (int n = 0; n < 20; n++) {
            exercise(new LitmusHall(), words);
        }
        due("20 objects", before);
    }
}
