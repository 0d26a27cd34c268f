/** The edges of a STATE and its STEPS in the document's Terms, and of promises 7 to 13. */
public final class StepEdgeTests {
    private static final Check CHECK = new Check();
    private static final int LEAST = Integer.MIN_VALUE;
    private static final int GREATEST = Integer.MAX_VALUE;

    public static void main(String[] args) {
        nextAndThrough();
        atFirst();
        loadOfTheYoungest();
        storesWithAndWithout();
        setAndAdd();
        intsOfTheLargestKind();
        skips();
        fencesWait();
        lockedWait();
        swaps();
        incs();
        casSteps();
        valsAheadOfTheStep();
        storesGo();
        itEnds();
        begins();
        steps();
        undoes();
        registers();
        memories();
        nexts();
        stores();
        CHECK.end();
    }

    private static LitmusHall machine(int mode, String text) {
        LitmusHall hall = Check.hall(text);
        CHECK.due("begin(" + mode + ") of " + text, hall.begin(mode), true);
        return hall;
    }

    private static void walk(LitmusHall hall, int... steps) {
        for (int s : steps) {
            CHECK.due("step(" + s + ")", hall.step(s), true);
        }
    }

    private static void nextAndThrough() {
        CHECK.sentence("which INS is next (its number, or how many it has: it is THROUGH)");
        for (int size = 0; size <= 6; size++) {
            LitmusHall hall = machine(1, "core:end core:" + "fence;".repeat(size) + "end");
            for (int i = 0; i < size; i++) {
                CHECK.due("next(1)", hall.next(1), i);
                CHECK.due("not ended", hall.count(7), 0);
                walk(hall, 1);
            }
            CHECK.due("next(1) of one that is THROUGH", hall.next(1), size);
            CHECK.due("step(1) of one that is THROUGH", hall.step(1), false);
            CHECK.due("next(1) behind it", hall.next(1), size);
            CHECK.due("next(0) of one without INS", hall.next(0), 0);
            CHECK.due("step(0) of one without INS", hall.step(0), false);
            CHECK.due("ended", hall.count(7), 1);
            CHECK.due("steps", hall.count(6), size);
        }
    }

    private static void atFirst() {
        CHECK.sentence("three REGS, ints, 0 at first; its ROW of stores, empty at first; MEMORY, four ints");
        LitmusHall hall = machine(1, "cell 0=-999;cell 3=999;core:set a 1;store 0 1;end core:set b 1;end core:set c 1;end");
        for (int again = 0; again < 2; again++) {
            for (int k = 0; k < 3; k++) {
                for (int r = 0; r < 3; r++) {
                    CHECK.due("register(" + k + ", " + r + ")", hall.register(k, r), 0);
                }
                CHECK.due("store(" + k + ", 0, 0)", hall.store(k, 0, 0), -1);
                CHECK.due("store(" + k + ", 0, 1)", hall.store(k, 0, 1), -1);
                CHECK.due("next(" + k + ")", hall.next(k), 0);
            }
            int[] memory = {-999, 0, 0, 999};
            for (int c = 0; c < 4; c++) {
                CHECK.due("memory(" + c + ")", hall.memory(c), memory[c]);
            }
            walk(hall, 0, 0, 1, 2);
            hall.begin(1);
        }
    }

    private static void loadOfTheYoungest() {
        CHECK.sentence("load: the REG becomes the int of the youngest store to that CELL in its ROW, else MEMORY's");
        LitmusHall hall = machine(1, "cell 1=7;cell 2=8;core:store 1 1;store 1 2;load a 1;load b 2;load c 0;end "
            + "core:store 2 5;load a 1;load b 2;end");
        walk(hall, 1, 0, 0, 0, 0, 0, 1, 1);
        CHECK.due("the youngest, not the eldest", hall.register(0, 0), 2);
        CHECK.due("MEMORY's, not another CORE's", hall.register(0, 1), 8);
        CHECK.due("MEMORY's", hall.register(0, 2), 0);
        CHECK.due("MEMORY's, not another CORE's", hall.register(1, 0), 7);
        CHECK.due("its own, the only one", hall.register(1, 1), 5);
        // One to another CELL behind it does not hide it; one that has gone is seen in MEMORY.
        hall = machine(1, "cell 3=4;core:store 3 1;store 0 9;load a 3;load b 3;load c 3;end core:store 3 6;end");
        walk(hall, 0, 0, 0, 3, 0, 1, 4, 0);
        CHECK.due("behind it a store to another CELL", hall.register(0, 0), 1);
        CHECK.due("gone to MEMORY", hall.register(0, 1), 1);
        CHECK.due("gone, and another's came behind it", hall.register(0, 2), 6);
        // A ROW with one to each CELL, of which the youngest and the eldest are seen.
        for (int c = 0; c < 4; c++) {
            hall = machine(1, "core:store " + c + " 1;store " + (c + 1) % 4 + " 2;store " + (c + 2) % 4 + " 3;store "
                + (c + 3) % 4 + " 4;load a " + c + ";load b " + (c + 3) % 4 + ";end");
            walk(hall, 0, 0, 0, 0, 0, 0);
            CHECK.due("the eldest is the youngest to its CELL", hall.register(0, 0), 1);
            CHECK.due("the youngest of all", hall.register(0, 1), 4);
        }
    }

    private static void storesWithAndWithout() {
        CHECK.sentence("store: to its ROW, as the youngest (with ROWS; without: to MEMORY at once)");
        String text = "cell 0=3;core:store 0 -5;set b 9;store 0 b;store 3 0;load a 0;end";
        LitmusHall hall = machine(1, text);
        walk(hall, 0, 0, 0, 0);
        CHECK.due("MEMORY with ROWS", hall.memory(0), 3);
        int[][] row = {{0, -5}, {0, 9}, {3, 0}};
        for (int i = 0; i < 3; i++) {
            CHECK.due("its CELL", hall.store(0, i, 0), row[i][0]);
            CHECK.due("its int", hall.store(0, i, 1), row[i][1]);
        }
        CHECK.due("no fourth", hall.store(0, 3, 0), -1);
        hall = machine(0, text);
        walk(hall, 0);
        CHECK.due("MEMORY at once", hall.memory(0), -5);
        CHECK.due("no ROW", hall.store(0, 0, 0), -1);
        walk(hall, 0, 0, 0, 0);
        CHECK.due("MEMORY at once", hall.memory(0), 9);
        CHECK.due("load", hall.register(0, 0), 9);
        CHECK.due("ended", hall.count(7), 1);
    }

    private static void setAndAdd() {
        CHECK.sentence("set, add: the REG becomes the VAL, that much more");
        LitmusHall hall = machine(1, "core:set a 999;add a -999;add a -999;set b a;add b b;set c -0;end core:add c 1;set c c;end");
        int[] a = {999, 0, -999, -999, -999, -999};
        int[] b = {0, 0, 0, -999, -1998, -1998};
        for (int i = 0; i < 6; i++) {
            walk(hall, 0);
            CHECK.due("a", hall.register(0, 0), a[i]);
            CHECK.due("b", hall.register(0, 1), b[i]);
            CHECK.due("c", hall.register(0, 2), 0);
        }
        walk(hall, 1, 1);
        CHECK.due("c of CORE 1", hall.register(1, 2), 1);
        CHECK.due("c of CORE 0", hall.register(0, 2), 0);
    }

    // An INS at most doubles the largest int, and 18 are all: 999 * 2^18 is below 2^31, so that no text comes to a wrap.
    private static void intsOfTheLargestKind() {
        CHECK.sentence("ints wrap (the farthest that a text can come to)");
        for (int sign = -1; sign <= 1; sign += 2) {
            String doubled = "load a 0;" + "add a a;".repeat(4) + "store 0 a;end ";
            String last = "load a 0;" + "add a a;".repeat(4) + "inc b 0 a;end";
            String text = "cell 0=" + (sign < 0 ? "-" : "") + "999;core:" + doubled + "core:" + doubled + "core:" + last;
            LitmusHall hall = machine(0, text);
            walk(hall, 0, 0, 0, 0, 0, 0, 1, 1, 1, 1, 1, 1, 2, 2, 2, 2, 2, 2);
            int far = sign * 999 * 256;
            CHECK.due("MEMORY had", hall.register(2, 1), far);
            CHECK.due("MEMORY has", hall.memory(0), 17 * far);
            CHECK.due("REG", hall.register(2, 0), 16 * far);
            hall = machine(1, text);
            walk(hall, 0, 0, 0, 0, 0, 0, 3, 1, 1, 1, 1, 1, 1);
            CHECK.due("in its ROW", hall.store(1, 0, 1), far);
        }
    }

    private static void skips() {
        CHECK.sentence("if: if the REG is not 0 the next INS is by that many more behind");
        for (int value : new int[] {0, 1, -1, 999, -999}) {
            for (int skip = 0; skip <= 4; skip++) {
                LitmusHall hall = machine(1, "core:set b " + value + ";if b skip " + skip + ";" + "fence;".repeat(4) + "end");
                walk(hall, 0, 0);
                int next = value == 0 ? 2 : 2 + skip;
                CHECK.due("next of " + value + ", " + skip, hall.next(0), next);
                CHECK.due("a step from there", hall.step(0), next < 6);
                CHECK.due("REG", hall.register(0, 1), value);
            }
        }
        // It waits for no ROW, and leaves out what would wait.
        LitmusHall hall = machine(1, "core:set c 1;store 0 1;if c skip 2;fence;swap a 0;set a 2;end");
        walk(hall, 0, 0, 0);
        CHECK.due("next", hall.next(0), 5);
        walk(hall, 0);
        CHECK.due("still in its ROW", hall.store(0, 0, 1), 1);
    }

    private static void fencesWait() {
        CHECK.sentence("fence: nothing, but it can only when its ROW is empty");
        waits("fence");
        LitmusHall hall = machine(1, "cell 0=1;core:set a 2;fence;end");
        walk(hall, 0, 0);
        CHECK.due("REG", hall.register(0, 0), 2);
        CHECK.due("MEMORY", hall.memory(0), 1);
    }

    private static void lockedWait() {
        CHECK.sentence("swap, inc, cas (these are LOCKED; they can only when its ROW is empty)");
        waits("swap a 1");
        waits("inc b 2 1");
        waits("cas c 3 0 1");
        waits("cas c 3 5 1");
    }

    private static void waits(String ins) {
        for (int k = 0; k < 3; k++) {
            for (int stores = 0; stores <= 5; stores++) {
                String one = "core:" + "store 0 1;".repeat(stores) + ins + ";end ";
                LitmusHall hall = machine(1, "core:store 1 1;end ".repeat(k) + one + "core:store 1 1;end ".repeat(2 - k));
                for (int other = 0; other < 3; other++) {
                    for (int i = 0; i < (other == k ? stores : 1); i++) {
                        walk(hall, other);
                    }
                }
                for (int i = 0; i < stores; i++) {
                    CHECK.due(ins + " with " + (stores - i) + " in its ROW", hall.step(k), false);
                    walk(hall, 3 + k);
                }
                CHECK.due(ins + " with an empty ROW, others are not", hall.step(k), true);
                CHECK.due("THROUGH", hall.next(k), stores + 1);
            }
        }
    }

    private static void swaps() {
        CHECK.sentence("swap: the REG becomes what MEMORY has, and MEMORY what the REG was");
        for (int mode = 0; mode < 2; mode++) {
            LitmusHall hall = machine(mode, "cell 2=-6;core:set b 5;swap b 2;swap b 2;swap b 0;end");
            walk(hall, 0, 0);
            CHECK.due("REG", hall.register(0, 1), -6);
            CHECK.due("MEMORY", hall.memory(2), 5);
            walk(hall, 0);
            CHECK.due("REG", hall.register(0, 1), 5);
            CHECK.due("MEMORY", hall.memory(2), -6);
            walk(hall, 0);
            CHECK.due("REG", hall.register(0, 1), 0);
            CHECK.due("MEMORY", hall.memory(0), 5);
            CHECK.due("at once, past the ROW", hall.store(0, 0, 0), -1);
        }
    }

    private static void incs() {
        CHECK.sentence("inc: the REG becomes what MEMORY has, and MEMORY what it had and VAL more");
        for (int mode = 0; mode < 2; mode++) {
            LitmusHall hall = machine(mode, "cell 1=4;core:inc a 1 -9;inc a 1 0;set b 3;inc c 1 b;end");
            walk(hall, 0);
            CHECK.due("REG", hall.register(0, 0), 4);
            CHECK.due("MEMORY", hall.memory(1), -5);
            walk(hall, 0);
            CHECK.due("REG", hall.register(0, 0), -5);
            CHECK.due("MEMORY", hall.memory(1), -5);
            walk(hall, 0, 0);
            CHECK.due("REG", hall.register(0, 2), -5);
            CHECK.due("MEMORY", hall.memory(1), -2);
            CHECK.due("at once, past the ROW", hall.store(0, 0, 0), -1);
        }
    }

    private static void casSteps() {
        CHECK.sentence("cas: .. the second VAL, if it had the first one (else what it had)");
        for (int mode = 0; mode < 2; mode++) {
            for (int first = -1; first <= 1; first++) {
                LitmusHall hall = machine(mode, "cell 3=0;core:set a 7;cas a 3 " + first + " 8;end");
                walk(hall, 0, 0);
                CHECK.due("REG", hall.register(0, 0), 0);
                CHECK.due("MEMORY", hall.memory(3), first == 0 ? 8 : 0);
                CHECK.due("at once, past the ROW", hall.store(0, 0, 0), -1);
            }
            LitmusHall hall = machine(mode, "cell 0=-2;core:set b -2;set c 6;cas a 0 b c;cas a 0 b 1;end");
            walk(hall, 0, 0, 0);
            CHECK.due("REG", hall.register(0, 0), -2);
            CHECK.due("MEMORY", hall.memory(0), 6);
            walk(hall, 0);
            CHECK.due("REG", hall.register(0, 0), 6);
            CHECK.due("MEMORY", hall.memory(0), 6);
        }
    }

    private static void valsAheadOfTheStep() {
        CHECK.sentence("VALS by REGS are those ahead of the step");
        LitmusHall hall = machine(1, "cell 0=10;cell 1=20;cell 2=30;core:set a 3;inc a 0 a;set b 20;cas b 1 b 1;set c 4;cas c 2 30 c;end");
        walk(hall, 0, 0, 0, 0, 0, 0);
        CHECK.due("inc", hall.memory(0), 13);
        CHECK.due("inc", hall.register(0, 0), 10);
        CHECK.due("cas, the first", hall.memory(1), 1);
        CHECK.due("cas, the first", hall.register(0, 1), 20);
        CHECK.due("cas, the second", hall.memory(2), 4);
        CHECK.due("cas, the second", hall.register(0, 2), 30);
        hall = machine(1, "cell 3=5;core:set a 4;cas a 3 a 9;add a a;end core:set b 2;store 0 b;set b 8;end");
        walk(hall, 0, 0, 0, 1, 1, 1, 4);
        CHECK.due("cas with another in the REG", hall.memory(3), 5);
        CHECK.due("add to itself", hall.register(0, 0), 10);
        CHECK.due("a store of the REG as it was", hall.memory(0), 2);
    }

    private static void storesGo() {
        CHECK.sentence("A store goes: the eldest of CORE k's ROW comes to MEMORY, step 3 + k (with ROWS only)");
        for (int k = 0; k < 3; k++) {
            String text = "core:end ".repeat(k) + "core:" + "store 0 1;store 1 2;store 0 3;store 2 4;store 3 5;store 0 6;"
                + "end" + " core:end".repeat(2 - k);
            LitmusHall hall = machine(1, text);
            walk(hall, k, k, k, k, k, k);
            int[][] memory = {{1, 0, 0, 0}, {1, 2, 0, 0}, {3, 2, 0, 0}, {3, 2, 4, 0}, {3, 2, 4, 5}, {6, 2, 4, 5}};
            int[][] row = {{0, 1}, {1, 2}, {0, 3}, {2, 4}, {3, 5}, {0, 6}};
            for (int gone = 0; gone < 6; gone++) {
                for (int i = 0; i < 6; i++) {
                    CHECK.due("CELL", hall.store(k, i, 0), gone + i < 6 ? row[gone + i][0] : -1);
                    CHECK.due("int", hall.store(k, i, 1), gone + i < 6 ? row[gone + i][1] : -1);
                }
                CHECK.due("no store of another", hall.step(3 + (k + 1) % 3), false);
                CHECK.due("no store of another", hall.step(3 + (k + 2) % 3), false);
                walk(hall, 3 + k);
                for (int c = 0; c < 4; c++) {
                    CHECK.due("memory(" + c + ")", hall.memory(c), memory[gone][c]);
                }
            }
            CHECK.due("none of an empty ROW", hall.step(3 + k), false);
            CHECK.due("count(6)", hall.count(6), 12);
            hall = machine(0, text);
            walk(hall, k, k);
            CHECK.due("none goes without ROWS", hall.step(3 + k), false);
        }
    }

    private static void itEnds() {
        CHECK.sentence("It ENDS where all CORES are THROUGH, and all ROWS are empty");
        for (int k = 0; k < 3; k++) {
            String text = "core:end ".repeat(k) + "core:store 0 0;end" + " core:end".repeat(2 - k);
            LitmusHall hall = machine(1, text);
            CHECK.due("not THROUGH", hall.count(7), 0);
            walk(hall, k);
            CHECK.due("a ROW is not empty", hall.count(7), 0);
            walk(hall, 3 + k);
            CHECK.due("ended", hall.count(7), 1);
            hall.undo();
            CHECK.due("taken back", hall.count(7), 0);
            hall = machine(0, text);
            walk(hall, k);
            CHECK.due("ended without ROWS", hall.count(7), 1);
        }
        LitmusHall hall = machine(1, "core:store 0 1;set a 1;end");
        walk(hall, 0, 3);
        CHECK.due("all ROWS are empty, one is not THROUGH", hall.count(7), 0);
        CHECK.due("without an INS", machine(1, "core:end core:end core:end").count(7), 1);
        CHECK.due("without a machine", Check.hall("core:end").count(7), 0);
    }

    private static void begins() {
        CHECK.sentence("begin: with ROWS (mode 1) or without (0): true; false for another mode");
        LitmusHall hall = Check.hall("core:store 0 1;end");
        for (int mode : new int[] {-1, 2, 3, LEAST, GREATEST}) {
            CHECK.due("begin(" + mode + ")", hall.begin(mode), false);
            CHECK.due("no machine", hall.next(0), -1);
        }
        CHECK.due("begin(0)", hall.begin(0), true);
        walk(hall, 0);
        CHECK.due("without ROWS", hall.memory(0), 1);
        CHECK.due("begin(1)", hall.begin(1), true);
        CHECK.due("anew", hall.count(6), 0);
        walk(hall, 0);
        CHECK.due("with ROWS", hall.memory(0), 0);
        for (int mode : new int[] {-1, 2}) {
            CHECK.due("begin(" + mode + ")", hall.begin(mode), false);
            CHECK.due("nothing happens", hall.store(0, 0, 1), 1);
            CHECK.due("nothing happens", hall.count(6), 1);
        }
        walk(hall, 3);
        CHECK.due("still with ROWS", hall.memory(0), 1);
    }

    private static void steps() {
        CHECK.sentence("step: 0 .. 2 an INS of that CORE; 3 .. 5 a store of CORE 0 .. 2 goes");
        LitmusHall hall = machine(1, "core:store 0 1;end core:store 1 2;end core:store 2 3;end");
        for (int s : new int[] {-1, 6, 7, LEAST, GREATEST}) {
            CHECK.due("step(" + s + ")", hall.step(s), false);
        }
        for (int k = 0; k < 3; k++) {
            walk(hall, k);
            CHECK.due("next(" + k + ")", hall.next(k), 1);
            CHECK.due("count(6)", hall.count(6), k + 1);
        }
        for (int k = 0; k < 3; k++) {
            walk(hall, 3 + k);
            CHECK.due("memory(" + k + ")", hall.memory(k), k + 1);
        }
        for (int s = 0; s < 6; s++) {
            CHECK.due("step(" + s + ") of what has ended", hall.step(s), false);
        }
        hall = machine(1, "core:end core:fence;end");
        for (int s : new int[] {0, 2, 3, 4, 5}) {
            CHECK.due("step(" + s + ") of two CORES", hall.step(s), false);
        }
        walk(hall, 1);
        hall = machine(1, ("core:" + "store 3 999;".repeat(6) + "end ").repeat(3));
        for (int k = 0; k < 3; k++) {
            walk(hall, k, k, k, k, k, k);
            for (int s : new int[] {-1, 6, 7, 8}) {
                CHECK.due("step(" + s + ") with ROWS that wait", hall.step(s), false);
            }
        }
        walk(hall, 3, 4, 5, 3, 4, 5, 3, 4, 5, 3, 4, 5, 3, 4, 5, 3, 4, 5);
        CHECK.due("the most steps that there can be", hall.count(6), 36);
        CHECK.due("ended", hall.count(7), 1);
    }

    private static void undoes() {
        CHECK.sentence("undo: The latest step is taken back: true; false: none was done since begin()");
        for (int mode = 0; mode < 2; mode++) {
            LitmusHall hall = machine(mode, "cell 0=5;core:store 0 1;fence;load a 0;if a skip 1;set c 9;swap a 0;end core:inc b 0 2;end");
            CHECK.due("undo of none", hall.undo(), false);
            walk(hall, 1, 0);
            if (mode == 1) {
                walk(hall, 3);
            }
            walk(hall, 0, 0, 0, 0);
            int[] next = {5, 3, 2, 1};
            for (int n : next) {
                CHECK.due("undo", hall.undo(), true);
                CHECK.due("next(0)", hall.next(0), n);
                CHECK.due("REG", hall.register(0, 0), n > 2 ? 1 : 0);
                CHECK.due("MEMORY", hall.memory(0), 1);
            }
            if (mode == 1) {
                CHECK.due("undo of what went", hall.undo(), true);
                CHECK.due("in its ROW again", hall.store(0, 0, 1), 1);
                CHECK.due("MEMORY", hall.memory(0), 7);
            }
            CHECK.due("a step that can't", hall.step(4), false);
            CHECK.due("undo of a store", hall.undo(), true);
            CHECK.due("its ROW", hall.store(0, 0, 0), -1);
            CHECK.due("MEMORY", hall.memory(0), 7);
            CHECK.due("undo of an inc", hall.undo(), true);
            CHECK.due("MEMORY", hall.memory(0), 5);
            CHECK.due("REG", hall.register(1, 1), 0);
            CHECK.due("undo of none", hall.undo(), false);
            walk(hall, 1);
            CHECK.due("begin", hall.begin(mode), true);
            CHECK.due("undo behind begin()", hall.undo(), false);
        }
    }

    private static void registers() {
        CHECK.sentence("register: REG r of CORE k; 0 without such ones");
        LitmusHall hall = Check.hall("core:set a 1;set b 2;set c 3;end core:set a 4;set b 5;set c 6;end");
        CHECK.due("no machine", hall.register(0, 0), 0);
        hall.begin(0);
        walk(hall, 0, 0, 0, 1, 1, 1);
        for (int n = 0; n < 6; n++) {
            CHECK.due("REG " + n, hall.register(n / 3, n % 3), n + 1);
        }
        for (int n : new int[] {-1, 3, LEAST, GREATEST}) {
            CHECK.due("REG " + n, hall.register(0, n), 0);
            CHECK.due("REG " + n, hall.register(1, n), 0);
            CHECK.due("CORE " + n, hall.register(n, 0), 0);
            CHECK.due("CORE " + n, hall.register(n, 2), 0);
        }
        CHECK.due("CORE 2 of 2", hall.register(2, 0), 0);
        CHECK.due("REG -1 of CORE 1", hall.register(1, -1), 0);
    }

    private static void memories() {
        CHECK.sentence("memory: Its MEMORY at CELL c; 0 without such ones");
        LitmusHall hall = Check.hall("cell 0=1;cell 1=2;cell 2=3;cell 3=4;core:set c 9;end core:end core:set c 9;end");
        CHECK.due("no machine", hall.memory(0), 0);
        hall.begin(1);
        walk(hall, 2);
        for (int c = 0; c < 4; c++) {
            CHECK.due("CELL " + c, hall.memory(c), c + 1);
        }
        for (int c : new int[] {-1, 4, 5, LEAST, GREATEST}) {
            CHECK.due("CELL " + c, hall.memory(c), 0);
        }
    }

    private static void nexts() {
        CHECK.sentence("next: Which INS of CORE k is next; NONE without such ones");
        LitmusHall hall = Check.hall("core:fence;end core:end");
        CHECK.due("no machine", hall.next(0), -1);
        hall.begin(1);
        CHECK.due("next(0)", hall.next(0), 0);
        CHECK.due("next(1)", hall.next(1), 0);
        for (int k : new int[] {-1, 2, 3, LEAST, GREATEST}) {
            CHECK.due("next(" + k + ")", hall.next(k), -1);
        }
        hall = machine(0, "core:end core:end core:set a 1;end");
        walk(hall, 2);
        CHECK.due("next(2)", hall.next(2), 1);
        CHECK.due("next(3)", hall.next(3), -1);
    }

    private static void stores() {
        CHECK.sentence("store: its CELL (what 0), int (1). NONE for others");
        LitmusHall hall = Check.hall("core:store 3 -1;store 2 8;end core:store 1 9;end");
        CHECK.due("no machine", hall.store(0, 0, 0), -1);
        hall.begin(1);
        walk(hall, 0, 0, 1);
        CHECK.due("CELL 0", hall.store(0, 0, 0), 3);
        CHECK.due("int 0", hall.store(0, 0, 1), -1);
        CHECK.due("CELL 1", hall.store(0, 1, 0), 2);
        CHECK.due("int 1", hall.store(0, 1, 1), 8);
        CHECK.due("CELL of CORE 1", hall.store(1, 0, 0), 1);
        CHECK.due("int of CORE 1", hall.store(1, 0, 1), 9);
        for (int n : new int[] {-1, 2, 3, LEAST, GREATEST}) {
            for (int what = 0; what < 2; what++) {
                CHECK.due("CORE " + n, hall.store(n, 0, what), -1);
                CHECK.due("store " + n, hall.store(0, n, what), -1);
            }
            CHECK.due("what " + n, hall.store(0, 1, n), -1);
            CHECK.due("what " + n, hall.store(1, 0, n), -1);
        }
        CHECK.due("store 1 of 1", hall.store(1, 1, 0), -1);
        CHECK.due("store -1 of CORE 1", hall.store(1, -1, 0), -1);
    }
}
