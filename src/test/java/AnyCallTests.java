import java.util.Random;

/** Any call with any arguments in any state ends and throws nothing, and the same calls answer the same. */
public final class AnyCallTests {
    private static final Check CHECK = new Check();
    private static final int[] EDGES = {Integer.MIN_VALUE, Integer.MIN_VALUE + 1, -1000, -2, -1, 0, 0, 0, 1, 1, 2, 2, 3, 4,
        5, 6, 7, 8, 9, 10, 12, 13, 14, 36, 40, 3000, 1 << 29, Integer.MAX_VALUE - 1, Integer.MAX_VALUE};
    private static final String[] TEXTS = {
        "core:end", "core:store 0 1;load a 1;end core:store 1 1;load a 0;end",
        "cell 3=-5;core:load b 3;if b skip 2;swap c 0;fence;store 2 b;inc a 3 c;end core:cas a 3 b -1;store 3 9;end",
        "core:store 0 1;store 1 1;load a 2;end core:store 2 1;load b 0;end core:load a 0;load b 1;load c 2;end",
        ("core:" + "store 0 1;".repeat(6) + "end ").repeat(3),
        ("core:" + "inc a 0 1;inc b 0 1;inc c 0 1;".repeat(2) + "end ").repeat(3),
        "core:load a 4;end", "core:", "core:if a skip 9;end", "cell 1=1;".repeat(101), "\u00ff\u0080"};

    public static void main(String[] args) {
        for (int seed = 0; seed < 80; seed++) {
            CHECK.due("seed " + seed, run(seed), run(seed));
        }
        CHECK.end();
    }

    private static long run(int seed) {
        Random random = new Random(seed);
        LitmusHall hall = new LitmusHall();
        long sum = 0;
        int calls = 0;
        // Room for the longest of the texts is left to the end: an object is promised for 512 calls.
        while (calls < 450) {
            if (random.nextInt(40) == 0) {
                String text = TEXTS[random.nextInt(TEXTS.length)];
                Check.feed(hall, text);
                sum = sum * 31 + hall.read();
                calls += (text.length() + 19) / 20 + 2;
            }
            sum = sum * 31 + any(hall, random);
            calls++;
        }
        return sum;
    }

    private static int any(LitmusHall hall, Random random) {
        int a = EDGES[random.nextInt(EDGES.length)];
        int b = EDGES[random.nextInt(EDGES.length)];
        int c = EDGES[random.nextInt(EDGES.length)];
        switch (random.nextInt(24)) {
            case 0: return random.nextInt(10) == 0 ? hall.feed(a, b, c, a, b) : 0;
            case 1: return hall.back(a);
            case 2: return random.nextInt(20) == 0 ? hall.read() : 0;
            case 3: return hall.place();
            case 4: return hall.ins(a, b, c);
            case 5: return hall.begin(a) ? 1 : 0;
            case 6: return hall.begin(random.nextInt(2)) ? 1 : 0;
            case 7: return hall.step(a) ? 1 : 0;
            case 8: return hall.step(random.nextInt(6)) ? 1 : 0;
            case 9: return hall.step(random.nextInt(6)) ? 1 : 0;
            case 10: return hall.undo() ? 1 : 0;
            case 11: return hall.register(a, b);
            case 12: return hall.memory(a);
            case 13: return hall.next(a);
            case 14: return hall.store(a, b, c);
            case 15: return hall.outcomes(a);
            case 16: return hall.outcome(a, b, c);
            case 17: return hall.schedule(a, b, c);
            case 18: return hall.more(a);
            case 19: return hall.race();
            case 20: return hall.racer(a);
            case 21: return hall.cure(a);
            case 22: return hall.cured(a);
            default: return hall.count(a);
        }
    }
}
