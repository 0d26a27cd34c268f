import java.util.List;
import java.util.function.Consumer;
import java.util.function.ToIntFunction;

/**
 * Behind a refused call nothing has changed: of two halls with the same calls, one is asked a call that is refused,
 * and both tell the same then.
 */
public final class UnchangedTests {
    private static final Check CHECK = new Check();
    private static final int LEAST = Integer.MIN_VALUE;
    private static final int GREATEST = Integer.MAX_VALUE;

    /** A call with what it has to answer. */
    private record Call(String name, ToIntFunction<LitmusHall> call, int want) { }

    // THROUGH, waiting and with an empty ROW, in this order: CORES 0, 1, 2 in midRun.
    private static final String PROGRAM = "cell 0=5;cell 2=-3;core:store 0 1;end core:store 1 2;fence;load a 0;end "
        + "core:load b 1;set c 4;end";

    private static final List<Consumer<LitmusHall>> SETUPS = List.of(UnchangedTests::asNew, UnchangedTests::withTape,
        UnchangedTests::withProgram, UnchangedTests::atBegin, UnchangedTests::midRun, UnchangedTests::withoutRows,
        UnchangedTests::cured, UnchangedTests::fullTape);

    public static void main(String[] args) {
        snapshotsDiffer();
        feeds();
        backs();
        reads();
        wrongArguments();
        begins();
        steps();
        undoes();
        cures();
        answersChangeNothing();
        CHECK.end();
    }

    // ---- what halls are like ahead of the call

    private static void asNew(LitmusHall hall) {
    }

    private static void withTape(LitmusHall hall) {
        Check.feed(hall, "core:fence;fence;end");
    }

    private static void withProgram(LitmusHall hall) {
        Check.feed(hall, PROGRAM);
        hall.read();
        Check.feed(hall, "core:fen");
    }

    private static void atBegin(LitmusHall hall) {
        withProgram(hall);
        hall.begin(1);
    }

    private static void midRun(LitmusHall hall) {
        atBegin(hall);
        for (int s : new int[] {0, 3, 1, 2}) {
            hall.step(s);
        }
    }

    private static void withoutRows(LitmusHall hall) {
        withProgram(hall);
        hall.begin(0);
        hall.step(1);
        hall.step(2);
    }

    private static void cured(LitmusHall hall) {
        Check.feed(hall, "core:store 0 1;load a 1;end core:store 1 1;load a 0;end");
        hall.read();
        hall.cure(2);
        hall.begin(1);
        hall.step(1);
    }

    private static void fullTape(LitmusHall hall) {
        Check.feed(hall, "core:fence;end" + " ".repeat(3986));
    }

    private static LitmusHall hall(Consumer<LitmusHall> setup) {
        LitmusHall hall = new LitmusHall();
        setup.accept(hall);
        return hall;
    }

    private static void unchanged(Consumer<LitmusHall> setup, Call refused) {
        LitmusHall asked = hall(setup);
        CHECK.due(refused.name, refused.call.applyAsInt(asked), refused.want);
        CHECK.due("all behind " + refused.name, Snapshot.of(asked), Snapshot.of(hall(setup)));
    }

    private static void everywhere(List<Call> calls) {
        for (Consumer<LitmusHall> setup : SETUPS) {
            for (Call call : calls) {
                unchanged(setup, call);
            }
        }
    }

    private static int truth(boolean answer) {
        return answer ? 1 : 0;
    }

    // ---- the calls

    // Two halls that tell the same must be told apart, or nothing is shown by it.
    private static void snapshotsDiffer() {
        CHECK.sentence("what was ahead of the call can be seen");
        for (int a = 0; a < SETUPS.size(); a++) {
            for (int b = 0; b < a; b++) {
                boolean same = Snapshot.of(hall(SETUPS.get(a))).equals(Snapshot.of(hall(SETUPS.get(b))));
                CHECK.due("setups " + a + " and " + b + " tell the same", same, false);
            }
        }
    }

    private static void feeds() {
        CHECK.sentence("feed: NONE, and nothing comes, if it would have more than 4,000");
        unchanged(UnchangedTests::fullTape, new Call("feed at 4,000", h -> h.feed(0, 0, 0, 0, 0), -1));
        unchanged(UnchangedTests::fullTape, new Call("feed at 4,000", h -> h.feed(-1, -1, -1, -1, -1), -1));
        for (int n = 1; n < 20; n++) {
            int back = n;
            Consumer<LitmusHall> setup = h -> {
                fullTape(h);
                h.back(back);
            };
            unchanged(setup, new Call("feed at " + (4000 - n), h -> h.feed(0, 0, 0, 0, 0), -1));
        }
        LitmusHall hall = hall(UnchangedTests::fullTape);
        CHECK.due("back(20)", hall.back(20), 3980);
        CHECK.due("feed at 3,980", hall.feed(0, 0, 0, 0, 0), 4000);
        CHECK.due("what came is read", hall.read(), 1);
        CHECK.due("at its first byte", hall.place(), 3980);
    }

    private static void backs() {
        CHECK.sentence("back: NONE, and nothing goes, if it has not so many, or n is below 0");
        for (Consumer<LitmusHall> setup : SETUPS) {
            int size = hall(setup).count(9);
            for (int n : new int[] {size + 1, size + 2, GREATEST, -1, -2, LEAST}) {
                unchanged(setup, new Call("back(" + n + ") of " + size, h -> h.back(n), -1));
            }
            unchanged(setup, new Call("back(0) of " + size, h -> h.back(0), size));
            LitmusHall hall = hall(setup);
            CHECK.due("back(" + size + ")", hall.back(size), 0);
            CHECK.due("an empty tape", hall.count(9), 0);
            CHECK.due("back(1) of it", hall.back(1), -1);
        }
    }

    private static void reads() {
        CHECK.sentence("A text with a FAULT changes nothing");
        String[] texts = {"", "core", "zz", "core:end core:end core:end core:end", "core:" + "fence;".repeat(7) + "end",
            "cell 0=1;".repeat(101), "cell 4=1;core:end", "cell 0=1;cell 0=2;core:end", "core:set a 1;load a 7;end",
            "cell 1=1;core:set a 1;if a skip 1;end"};
        int[] faults = {1, 1, 1, 2, 2, 2, 3, 3, 3, 3};
        for (Consumer<LitmusHall> setup : SETUPS) {
            for (int n = 0; n < texts.length; n++) {
                LitmusHall asked = hall(setup);
                asked.back(asked.count(9));
                Check.feed(asked, texts[n]);
                CHECK.due("read of " + texts[n], asked.read(), faults[n]);
                LitmusHall other = hall(setup);
                other.back(other.count(9));
                CHECK.due("all behind " + texts[n], Snapshot.of(asked), Snapshot.of(other));
            }
        }
    }

    private static void wrongArguments() {
        CHECK.sentence("NONE (or 0, or false) for others");
        for (int n : new int[] {-1, -2, LEAST, 3, 4, 6, 7, 1000, GREATEST}) {
            everywhere(List.of(
                new Call("ins(" + n + ", 0, 0)", h -> h.ins(n, 0, 0), -1),
                new Call("ins(0, " + n + ", 0)", h -> h.ins(0, n, 0), -1),
                new Call("ins(0, 0, " + n + "), past 7", h -> h.ins(0, 0, n < 0 ? n : Math.max(n, 8)), -1),
                new Call("register(" + n + ", 0)", h -> h.register(n, 0), 0),
                new Call("register(0, " + n + ")", h -> h.register(0, n), 0),
                new Call("memory, past 3", h -> h.memory(n < 0 ? n : Math.max(n, 4)), 0),
                new Call("next(" + n + ")", h -> h.next(n), -1),
                new Call("store(" + n + ", 0, 0)", h -> h.store(n, 0, 0), -1),
                new Call("store(0, " + n + ", 1)", h -> h.store(0, n, 1), -1),
                new Call("store(1, 0, " + n + ")", h -> h.store(1, 0, n), -1),
                new Call("count, past 9", h -> h.count(n < 0 ? n : Math.max(n, 10)), -1)));
            everywhere(List.of(
                new Call("outcomes(" + n + ")", h -> h.outcomes(n), -1),
                new Call("outcome(" + n + ", 0, 9)", h -> h.outcome(n, 0, 9), 0),
                new Call("outcome(1, 0, " + n + "), past 12", h -> h.outcome(1, 0, n < 0 ? n : Math.max(n, 13)), 0),
                new Call("schedule(" + n + ", 0, 0)", h -> h.schedule(n, 0, 0), -1),
                new Call("cure(" + n + ")", h -> h.cure(n), -1),
                new Call("cured(" + n + ")", h -> h.cured(n), -1)));
        }
        for (int n : new int[] {-1, -2, LEAST, 3000, GREATEST}) {
            everywhere(List.of(
                new Call("outcome(0, " + n + ", 9)", h -> h.outcome(0, n, 9), 0),
                new Call("schedule(1, " + n + ", 0)", h -> h.schedule(1, n, 0), -1),
                new Call("schedule(1, 0, " + n + ")", h -> h.schedule(1, 0, n), -1),
                new Call("more(" + n + ")", h -> h.more(n), -1),
                new Call("racer(" + n + ")", h -> h.racer(n), -1)));
        }
    }

    private static void begins() {
        CHECK.sentence("begin: false, and nothing happens, without a PROGRAM, or for another mode");
        for (int mode : new int[] {-1, 2, 3, LEAST, GREATEST}) {
            everywhere(List.of(new Call("begin(" + mode + ")", h -> truth(h.begin(mode)), 0)));
        }
        for (int mode = 0; mode < 2; mode++) {
            int one = mode;
            Call begin = new Call("begin(" + mode + ") without a PROGRAM", h -> truth(h.begin(one)), 0);
            unchanged(UnchangedTests::asNew, begin);
            unchanged(UnchangedTests::withTape, begin);
            unchanged(UnchangedTests::fullTape, begin);
        }
    }

    private static void steps() {
        CHECK.sentence("step: false, and nothing happens, without a machine, or if it can't");
        for (int s : new int[] {-1, -3, LEAST, 6, 7, GREATEST}) {
            everywhere(List.of(new Call("step(" + s + ")", h -> truth(h.step(s)), 0)));
        }
        for (int s = 0; s < 6; s++) {
            int one = s;
            Call step = new Call("step(" + s + ")", h -> truth(h.step(one)), 0);
            unchanged(UnchangedTests::asNew, step);
            unchanged(UnchangedTests::withTape, step);
            unchanged(UnchangedTests::withProgram, step);
            if (s >= 3) {
                unchanged(UnchangedTests::atBegin, step);
                unchanged(UnchangedTests::withoutRows, step);
            }
            if (s != 2 && s != 4) {
                unchanged(UnchangedTests::midRun, step);
            }
        }
        for (String waits : new String[] {"fence", "swap a 0", "inc a 0 1", "cas a 0 0 1"}) {
            Consumer<LitmusHall> setup = h -> {
                Check.feed(h, "core:store 0 1;store 1 2;" + waits + ";end");
                h.read();
                h.begin(1);
                h.step(0);
                h.step(0);
                h.step(3);
            };
            unchanged(setup, new Call("step of a " + waits + " that waits", h -> truth(h.step(0)), 0));
        }
    }

    private static void undoes() {
        CHECK.sentence("undo: false: none was done since begin()");
        Call undo = new Call("undo()", h -> truth(h.undo()), 0);
        unchanged(UnchangedTests::asNew, undo);
        unchanged(UnchangedTests::withProgram, undo);
        unchanged(UnchangedTests::atBegin, undo);
        unchanged(h -> {
            midRun(h);
            h.begin(0);
        }, undo);
        unchanged(h -> {
            withoutRows(h);
            h.undo();
            h.undo();
        }, undo);
        unchanged(h -> {
            atBegin(h);
            h.step(5);
        }, undo);
    }

    private static void cures() {
        CHECK.sentence("cured: of the latest cure() that told 0 or more");
        unchanged(UnchangedTests::cured, new Call("cure(0)", h -> h.cure(0), -1));
        unchanged(UnchangedTests::cured, new Call("cure(1)", h -> h.cure(1), -1));
        unchanged(UnchangedTests::cured, new Call("cure(3)", h -> h.cure(3), -1));
        unchanged(UnchangedTests::cured, new Call("cure(2) again", h -> h.cure(2), 2));
    }

    private static void answersChangeNothing() {
        CHECK.sentence("what only answers changes nothing");
        Consumer<LitmusHall> setup = UnchangedTests::midRun;
        int[] outcomes = {hall(setup).outcomes(0), hall(setup).outcomes(1)};
        unchanged(setup, new Call("outcomes(0)", h -> h.outcomes(0), outcomes[0]));
        unchanged(setup, new Call("outcomes(1)", h -> h.outcomes(1), outcomes[1]));
        unchanged(setup, new Call("race()", h -> h.race(), 0));
        unchanged(setup, new Call("cure(2)", h -> h.cure(2), 0));
        unchanged(setup, new Call("more(0)", h -> h.more(0), -1));
        unchanged(setup, new Call("count(2)", h -> h.count(2), hall(setup).count(2)));
        unchanged(setup, new Call("place()", h -> h.place(), -1));
        unchanged(setup, new Call("next(1)", h -> h.next(1), 1));
        unchanged(setup, new Call("memory(0)", h -> h.memory(0), 1));
        unchanged(setup, new Call("store(1, 0, 1)", h -> h.store(1, 0, 1), 2));
    }
}
