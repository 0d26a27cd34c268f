import com.sun.management.ThreadMXBean;
import java.lang.management.ManagementFactory;

/** What the dearest runs of calls make stays far below the room of a run: 7.3 million fields and elements. */
public final class RoomTests {
    private static final Check CHECK = new Check();
    private static final ThreadMXBean THREADS = (ThreadMXBean) ManagementFactory.getThreadMXBean();
    private static final String BIG = "core:store 1 2;set a 2;set a 1;load c 0;fence;store 2 1;end "
        + "core:store 1 2;store 0 2;store 2 2;end core:load a 1;load a 2;load c 2;store 2 1;load b 0;store 0 1;end";

    public static void main(String[] args) {
        dearestCallsAgainAndAgain();
        manySmallObjects();
        CHECK.end();
    }

    // Bytes of the machine, where an element takes at most four: less than four times that many elements.
    private static long made() {
        return THREADS.getThreadAllocatedBytes(Thread.currentThread().getId());
    }

    private static void dearestCallsAgainAndAgain() {
        int[] words = new int[(BIG.length() + 19) / 20 * 5];
        String padded = BIG + " ".repeat(words.length * 4 - BIG.length());
        for (int i = 0; i < words.length; i++) {
            words[i] = Check.word(padded, 4 * i);
        }
        exercise(new LitmusHall(), words);
        long before = made();
        LitmusHall hall = new LitmusHall();
        for (int n = 0; n < 30; n++) {
            exercise(hall, words);
        }
        long bytes = made() - before;
        System.out.println("30 big PROGRAMS on one object: " + bytes + " bytes");
        CHECK.due("30 big PROGRAMS stay below 300,000 elements", bytes < 1_200_000, true);
    }

    private static void exercise(LitmusHall hall, int[] words) {
        for (int i = 0; i < words.length; i += 5) {
            hall.feed(words[i], words[i + 1], words[i + 2], words[i + 3], words[i + 4]);
        }
        hall.read();
        hall.outcomes(0);
        hall.outcomes(1);
        hall.more(0);
        hall.race();
        hall.cure(2);
        hall.begin(1);
        hall.step(0);
        hall.undo();
    }

    private static void manySmallObjects() {
        long before = made();
        for (int n = 0; n < 100; n++) {
            LitmusHall hall = new LitmusHall();
            hall.feed(0x636f7265, 0x3a656e64, 0x20202020, 0x20202020, 0x20202020);
            hall.read();
            hall.cure(2);
        }
        long bytes = made() - before;
        System.out.println("100 small objects: " + bytes + " bytes");
        CHECK.due("100 small objects stay below 3 million elements", bytes < 12_000_000, true);
    }
}
