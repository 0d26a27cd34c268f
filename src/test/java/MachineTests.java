/** Promises 7 to 13: begin, step, undo, register, memory, next, store; and count(6), count(7). */
public final class MachineTests {
    private static final Check CHECK = new Check();

    public static void main(String[] args) {
        begins();
        stepsOfEachIns();
        rowsAreSeenByTheirCore();
        fencesAndLockedWait();
        withoutRows();
        skips();
        undoes();
        wrongArguments();
        longestRun();
        CHECK.end();
    }

    private static void begins() {
        LitmusHall hall = new LitmusHall();
        CHECK.due("begin without a PROGRAM", hall.begin(1), false);
        CHECK.due("step without a machine", hall.step(0), false);
        CHECK.due("undo without a machine", hall.undo(), false);
        hall = Check.hall("cell 1=-4;core:set a 1;end core:end");
        CHECK.due("no machine: next(0)", hall.next(0), -1);
        CHECK.due("no machine: memory(1)", hall.memory(1), 0);
        CHECK.due("no machine: count(7)", hall.count(7), 0);
        CHECK.due("no machine: step(0)", hall.step(0), false);
        CHECK.due("begin(-1)", hall.begin(-1), false);
        CHECK.due("begin(2)", hall.begin(2), false);
        CHECK.due("still none", hall.next(0), -1);
        CHECK.due("begin(0)", hall.begin(0), true);
        CHECK.due("memory(1)", hall.memory(1), -4);
        CHECK.due("next(1) of an empty CORE", hall.next(1), 0);
        CHECK.due("step(1) of it", hall.step(1), false);
        CHECK.due("step(0)", hall.step(0), true);
        CHECK.due("begin(5) does nothing", hall.begin(5), false);
        CHECK.due("register(0, 0)", hall.register(0, 0), 1);
        CHECK.due("count(7)", hall.count(7), 1);
        CHECK.due("begin(1) anew", hall.begin(1), true);
        CHECK.due("register(0, 0) anew", hall.register(0, 0), 0);
        CHECK.due("count(6) anew", hall.count(6), 0);
        CHECK.due("undo anew", hall.undo(), false);
        LitmusHall empty = Check.hall("core:end");
        empty.begin(1);
        CHECK.due("an empty PROGRAM has ended", empty.count(7), 1);
    }

    private static void stepsOfEachIns() {
        LitmusHall hall = Check.hall("cell 0=10;cell 1=20;cell 2=30;"
            + "core:set a 5;set b a;add a a;add b -7;add c b;load c 2;end "
            + "core:set a 5;swap a 0;inc b 1 a;inc b 1 b;cas c 2 30 c;cas a 3 a -1;end "
            + "core:set a 30;cas a 2 a b;cas b 2 31 9;store 3 a;load c 3;store 3 c;end");
        hall.begin(1);
        walk(hall, 0, 6);
        registers(hall, 0, 10, -2, 30);
        walk(hall, 1, 1);
        registers(hall, 1, 5, 0, 0);
        walk(hall, 1, 1);
        registers(hall, 1, 10, 0, 0);
        CHECK.due("swapped", hall.memory(0), 5);
        walk(hall, 1, 1);
        registers(hall, 1, 10, 20, 0);
        CHECK.due("inc by a", hall.memory(1), 30);
        walk(hall, 1, 1);
        registers(hall, 1, 10, 30, 0);
        CHECK.due("inc by b as it was", hall.memory(1), 50);
        walk(hall, 1, 1);
        registers(hall, 1, 10, 30, 30);
        CHECK.due("cas by c as it was", hall.memory(2), 0);
        walk(hall, 1, 1);
        registers(hall, 1, 0, 30, 30);
        CHECK.due("cas that has not the first", hall.memory(3), 0);
        walk(hall, 2, 2);
        registers(hall, 2, 0, 0, 0);
        CHECK.due("cas by a as it was", hall.memory(2), 0);
        hall.begin(0);
        walk(hall, 2, 2);
        registers(hall, 2, 30, 0, 0);
        CHECK.due("cas by a as it was, that has it", hall.memory(2), 0);
        walk(hall, 2, 1);
        registers(hall, 2, 30, 0, 0);
        walk(hall, 2, 2);
        registers(hall, 2, 30, 0, 30);
        CHECK.due("store of a REG", hall.memory(3), 30);
    }

    private static void walk(LitmusHall hall, int k, int steps) {
        for (int i = 0; i < steps; i++) {
            CHECK.due("step(" + k + ")", hall.step(k), true);
        }
    }

    private static void registers(LitmusHall hall, int k, int a, int b, int c) {
        CHECK.due("register(" + k + ", 0)", hall.register(k, 0), a);
        CHECK.due("register(" + k + ", 1)", hall.register(k, 1), b);
        CHECK.due("register(" + k + ", 2)", hall.register(k, 2), c);
    }

    private static void rowsAreSeenByTheirCore() {
        LitmusHall hall = Check.hall("cell 3=-1;core:store 3 1;store 2 2;store 3 3;load a 3;load b 2;load c 1;end "
            + "core:load a 3;load b 3;load c 3;end");
        hall.begin(1);
        walk(hall, 0, 6);
        registers(hall, 0, 3, 2, 0);
        row(hall, 0, 3, 1, 2, 2, 3, 3);
        walk(hall, 1, 1);
        CHECK.due("goes", hall.step(3), true);
        row(hall, 0, 2, 2, 3, 3);
        walk(hall, 1, 1);
        CHECK.due("goes", hall.step(3), true);
        row(hall, 0, 3, 3);
        CHECK.due("count(7) with a store that waits", hall.count(7), 0);
        CHECK.due("goes", hall.step(3), true);
        row(hall, 0);
        CHECK.due("none is left", hall.step(3), false);
        CHECK.due("none of CORE 1", hall.step(4), false);
        walk(hall, 1, 1);
        registers(hall, 1, -1, 1, 3);
        CHECK.due("count(7)", hall.count(7), 1);
        CHECK.due("count(6)", hall.count(6), 12);
    }

    private static void row(LitmusHall hall, int k, int... want) {
        for (int i = 0; i < want.length / 2; i++) {
            CHECK.due("store(" + k + ", " + i + ", 0)", hall.store(k, i, 0), want[2 * i]);
            CHECK.due("store(" + k + ", " + i + ", 1)", hall.store(k, i, 1), want[2 * i + 1]);
            CHECK.due("store(" + k + ", " + i + ", 2)", hall.store(k, i, 2), -1);
        }
        CHECK.due("store behind the ROW", hall.store(k, want.length / 2, 0), -1);
        CHECK.due("store behind the ROW", hall.store(k, want.length / 2, 1), -1);
        CHECK.due("store ahead of the ROW", hall.store(k, -1, 1), -1);
    }

    private static void fencesAndLockedWait() {
        String[] waiting = {"fence", "swap a 1", "inc a 1 1", "cas a 1 0 1"};
        for (String ins : waiting) {
            LitmusHall hall = Check.hall("core:store 0 1;store 0 2;" + ins + ";end core:store 1 1;end");
            hall.begin(1);
            walk(hall, 0, 2);
            walk(hall, 1, 1);
            CHECK.due(ins + " waits", hall.step(0), false);
            CHECK.due("its number", hall.next(0), 2);
            CHECK.due("goes", hall.step(3), true);
            CHECK.due(ins + " waits", hall.step(0), false);
            CHECK.due("goes", hall.step(3), true);
            CHECK.due(ins + " can, whatever waits in another ROW", hall.step(0), true);
            CHECK.due("THROUGH", hall.next(0), 3);
            hall.begin(0);
            walk(hall, 0, 3);
        }
    }

    private static void withoutRows() {
        LitmusHall hall = Check.hall("core:store 0 1;end");
        hall.begin(0);
        walk(hall, 0, 1);
        CHECK.due("at once", hall.memory(0), 1);
        row(hall, 0);
        CHECK.due("none goes", hall.step(3), false);
        CHECK.due("ended", hall.count(7), 1);
    }

    private static void skips() {
        LitmusHall hall = Check.hall("core:if a skip 2;set a -1;if a skip 2;set b 1;set b 2;set c 3;end");
        hall.begin(0);
        walk(hall, 0, 1);
        CHECK.due("not left out by 0", hall.next(0), 1);
        walk(hall, 0, 2);
        CHECK.due("left out by -1", hall.next(0), 5);
        walk(hall, 0, 1);
        registers(hall, 0, -1, 0, 3);
        hall = Check.hall("core:set b 1;if b skip 1;set a 9;end");
        hall.begin(1);
        walk(hall, 0, 2);
        CHECK.due("left out to the end", hall.next(0), 3);
        CHECK.due("THROUGH", hall.step(0), false);
    }

    private static void undoes() {
        LitmusHall hall = Check.hall("cell 0=7;core:store 0 1;swap a 0;end core:load b 0;end");
        hall.begin(1);
        walk(hall, 0, 1);
        walk(hall, 1, 1);
        hall.step(3);
        walk(hall, 0, 1);
        CHECK.due("MEMORY", hall.memory(0), 0);
        CHECK.due("undo of a swap", hall.undo(), true);
        CHECK.due("MEMORY", hall.memory(0), 1);
        CHECK.due("REG", hall.register(0, 0), 0);
        CHECK.due("undo of what went", hall.undo(), true);
        CHECK.due("MEMORY", hall.memory(0), 7);
        row(hall, 0, 0, 1);
        CHECK.due("undo of a load", hall.undo(), true);
        CHECK.due("REG", hall.register(1, 1), 0);
        CHECK.due("next(1)", hall.next(1), 0);
        hall.step(3);
        walk(hall, 1, 1);
        CHECK.due("another way from there", hall.register(1, 1), 1);
        CHECK.due("count(6)", hall.count(6), 3);
        CHECK.due("a step that can't", hall.step(3), false);
        CHECK.due("undo", hall.undo(), true);
        CHECK.due("undo", hall.undo(), true);
        CHECK.due("undo", hall.undo(), true);
        CHECK.due("undo of none", hall.undo(), false);
        row(hall, 0);
        CHECK.due("count(6)", hall.count(6), 0);
    }

    private static void wrongArguments() {
        LitmusHall hall = Check.hall("core:store 0 5;set a 5;set b 5;set c 5;end core:end");
        hall.begin(1);
        walk(hall, 0, 4);
        int[] wrong = {-1, 2, 3, 4, 1 << 30, Integer.MAX_VALUE, Integer.MIN_VALUE};
        for (int k : wrong) {
            CHECK.due("register of CORE " + k, hall.register(k, 0), 0);
            CHECK.due("next of CORE " + k, hall.next(k), -1);
            CHECK.due("store of CORE " + k, hall.store(k, 0, 0), -1);
            CHECK.due("store " + k, hall.store(0, k, 1), -1);
            CHECK.due("store, what " + k, hall.store(0, 0, k), -1);
            CHECK.due("REG " + k, hall.register(0, k), k == 2 ? 5 : 0);
            CHECK.due("CELL " + k, hall.memory(k), 0);
            CHECK.due("step " + k, hall.step(k == 3 ? 6 : k), false);
        }
        CHECK.due("a store of no CORE", hall.step(5), false);
        CHECK.due("count(6)", hall.count(6), 4);
    }

    private static void longestRun() {
        String core = "core:" + "store 1 -3;".repeat(6) + "end ";
        LitmusHall hall = Check.hall(core + core + core);
        hall.begin(1);
        for (int k = 0; k < 3; k++) {
            walk(hall, k, 6);
            row(hall, k, 1, -3, 1, -3, 1, -3, 1, -3, 1, -3, 1, -3);
        }
        for (int k = 3; k < 6; k++) {
            walk(hall, k, 6);
        }
        CHECK.due("count(6)", hall.count(6), 36);
        CHECK.due("count(7)", hall.count(7), 1);
        for (int i = 0; i < 36; i++) {
            CHECK.due("undo", hall.undo(), true);
        }
        CHECK.due("undo of none", hall.undo(), false);
        CHECK.due("count(7)", hall.count(7), 0);
    }
}
