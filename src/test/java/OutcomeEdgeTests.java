/** The edges of OUTCOMES, of FULL and of SCHEDULES in the document's Terms, and of promises 14 to 17 and 22. */
public final class OutcomeEdgeTests {
    private static final Check CHECK = new Check();
    private static final int LEAST = Integer.MIN_VALUE;
    private static final int GREATEST = Integer.MAX_VALUE;

    private static final String CROSSED = "core:store 0 1;load a 1;end core:store 1 1;load a 0;end";
    private static final String WITH_3000 = "core:load a 1;store 1 1;load c 1;load c 0;end core:inc a 1 2;load c 0;inc b 0 2;"
        + "load b 0;fence;end core:store 0 1;inc b 1 2;load b 1;end";
    private static final String WITH_3001 = "core:store 2 1;store 0 2;end core:store 0 1;store 0 1;load c 2;fence;end "
        + "core:load c 2;swap b 0;store 2 1;load b 0;store 1 2;end";
    private static final String WITHOUT_3000 = "core:inc a 1 2;inc c 1 1;load a 1;swap c 0;end core:load c 1;inc b 0 2;swap a 1;"
        + "store 0 1;end core:swap c 0;swap a 0;inc b 0 1;inc a 1 0;end";
    private static final String WITHOUT_3001 = "core:inc a 0 2;inc a 0 1;swap c 1;end core:store 1 1;inc c 0 2;load a 1;end "
        + "core:store 0 0;load c 1;inc b 0 2;swap b 0;store 1 2;end";
    // 28 * 28 * 3 STATES with ROWS: with a store more of CORE 2 it would be FULL.
    private static final String LONGEST = "core:" + "store 0 1;".repeat(6) + "end core:" + "store 1 1;".repeat(6)
        + "end core:store 2 1;end";

    public static void main(String[] args) {
        thirteenInts();
        absentCores();
        eachOnce();
        orderOfEachInt();
        orderBySecondInt();
        fullWithRows();
        fullWithout();
        fullIsForgotten();
        schedulesAreShortest();
        schedulesAreFirst();
        longestSchedule();
        outcomesOfModes();
        outcomeOfNoneSuch();
        scheduleOfNoneSuch();
        moreOfNotSoMany();
        moreOfFull();
        countsOfTheProgram();
        countsOfTheMachine();
        countsOfOthers();
        CHECK.end();
    }

    private static void thirteenInts() {
        CHECK.sentence("the REGS (CORE 0's a, b, c, then CORE 1's, ..) and MEMORY's ints, 13 in all");
        LitmusHall hall = Check.hall("cell 0=10;cell 1=11;cell 2=12;cell 3=13;core:set a 1;set b 2;set c 3;end "
            + "core:set a 4;set b 5;set c 6;end core:set a 7;set b 8;set c 9;end");
        for (int mode = 0; mode < 2; mode++) {
            CHECK.due("outcomes", hall.outcomes(mode), 1);
            for (int i = 0; i < 13; i++) {
                CHECK.due("outcome(" + mode + ", 0, " + i + ")", hall.outcome(mode, 0, i), i + 1);
            }
        }
    }

    private static void absentCores() {
        CHECK.sentence("of three CORES, 0 where there is none");
        LitmusHall hall = Check.hall("core:set a 1;set b 2;set c 3;store 3 4;end");
        int[] want = {1, 2, 3, 0, 0, 0, 0, 0, 0, 0, 0, 0, 4};
        for (int mode = 0; mode < 2; mode++) {
            for (int i = 0; i < 13; i++) {
                CHECK.due("outcome(" + mode + ", 0, " + i + ")", hall.outcome(mode, 0, i), want[i]);
            }
        }
        // Where there was one in the PROGRAM ahead.
        hall = Check.hall("core:set a 1;end core:set b 2;end core:set c 3;end");
        hall.outcomes(0);
        hall.outcomes(1);
        Check.feed(hall, "core:end core:end");
        hall.read();
        for (int i = 0; i < 13; i++) {
            CHECK.due("outcome(1, 0, " + i + ")", hall.outcome(1, 0, i), 0);
        }
    }

    private static void eachOnce() {
        CHECK.sentence("of all STATES in which it can end, each once");
        LitmusHall hall = Check.hall("core:store 0 1;set a 1;end core:store 1 1;set a 1;end core:store 2 1;end");
        CHECK.due("one, by many ways", hall.outcomes(0), 1);
        CHECK.due("one, by many ways, with ROWS", hall.outcomes(1), 1);
        hall = Check.hall("core:store 0 1;end core:store 0 2;end core:store 0 1;end");
        CHECK.due("two", hall.outcomes(0), 2);
        CHECK.due("two, with ROWS", hall.outcomes(1), 2);
        hall = Check.hall("core:end");
        CHECK.due("one, of the first STATE", hall.outcomes(0), 1);
        // By a store that went and without it: the ROWS are empty alike.
        hall = Check.hall("core:load b 3;if b skip 1;store 0 0;set b 0;end core:store 3 1;end");
        CHECK.due("one, with a store and without", hall.outcomes(1), 1);
        CHECK.due("its STATES, by the second model", hall.count(2),
            Oracle.of("core:load b 3;if b skip 1;store 0 0;set b 0;end core:store 3 1;end").states(true, false));
        // Only STATES that end: what is loaded on the way is none.
        hall = Check.hall("core:set a 1;set a 2;set a 3;end");
        CHECK.due("one", hall.outcomes(1), 1);
        CHECK.due("the last", hall.outcome(1, 0, 0), 3);
        CHECK.due("not two", hall.outcome(1, 1, 0), 0);
    }

    private static void orderOfEachInt() {
        CHECK.sentence("in their order (by the first of these ints, then the second, ..)");
        for (int at = 0; at < 9; at++) {
            int k = at / 3;
            String load = "core:load " + (char) ('a' + at % 3) + " 0;end ";
            String store = "core:store 0 -1;store 0 -999;store 0 5;end ";
            String text = (k == 0 ? load + store : k == 1 ? store + load : store + "core:end " + load).trim();
            LitmusHall hall = Check.hall(text);
            int[] want = {-999, -1, 0, 5};
            for (int mode = 0; mode < 2; mode++) {
                CHECK.due("outcomes of " + text, hall.outcomes(mode), 4);
                for (int n = 0; n < 4; n++) {
                    CHECK.due("outcome(" + mode + ", " + n + ", " + at + ") of " + text, hall.outcome(mode, n, at), want[n]);
                }
            }
        }
        for (int c = 0; c < 4; c++) {
            LitmusHall hall = Check.hall("core:store " + c + " 7;end core:store " + c + " -7;end core:store " + c + " 0;end");
            for (int n = 0; n < 3; n++) {
                CHECK.due("CELL " + c + " of OUTCOME " + n, hall.outcome(1, n, 9 + c), 7 * n - 7);
            }
        }
    }

    private static void orderBySecondInt() {
        CHECK.sentence("in their order (.. then the second, ..), the earlier int counts more");
        LitmusHall hall = Check.hall("core:set a 5;swap a 0;end core:store 0 9;end");
        CHECK.due("outcomes(0)", hall.outcomes(0), 2);
        CHECK.due("a of the first", hall.outcome(0, 0, 0), 0);
        CHECK.due("MEMORY of the first", hall.outcome(0, 0, 9), 9);
        CHECK.due("a of the second", hall.outcome(0, 1, 0), 9);
        CHECK.due("MEMORY of the second", hall.outcome(0, 1, 9), 5);
        hall = Check.hall("core:load b 0;end core:load a 1;end core:store 1 1;store 0 1;end");
        int[][] want = {{0, 0}, {0, 1}, {1, 0}, {1, 1}};
        CHECK.due("outcomes(1)", hall.outcomes(1), 4);
        for (int n = 0; n < 4; n++) {
            CHECK.due("b of CORE 0", hall.outcome(1, n, 1), want[n][0]);
            CHECK.due("a of CORE 1", hall.outcome(1, n, 3), want[n][1]);
        }
    }

    private static void fullWithRows() {
        CHECK.sentence("All STATES that can be come to, with ROWS; if there are more than 3,000, that is FULL");
        CHECK.due("the second model", Oracle.of(WITH_3000).states(true, false), 3000);
        CHECK.due("the second model", Oracle.of(WITH_3001).states(true, false), 3001);
        LitmusHall hall = Check.hall(WITH_3000);
        CHECK.due("3,000: count(2)", hall.count(2), 3000);
        CHECK.due("3,000: outcomes(1)", hall.outcomes(1) > 1, true);
        CHECK.due("3,000: count(4)", hall.count(4), hall.outcomes(1));
        CHECK.due("3,000: schedule(1, 0, 0)", hall.schedule(1, 0, 0), 0);
        CHECK.due("3,000: more(0)", hall.more(0) >= 0, true);
        hall = Check.hall(WITH_3001);
        CHECK.due("3,001: outcomes(1)", hall.outcomes(1), -2);
        CHECK.due("3,001: count(2)", hall.count(2), -1);
        CHECK.due("3,001: count(4)", hall.count(4), -1);
        for (int i = 0; i < 13; i++) {
            CHECK.due("3,001: outcome(1, 0, " + i + ")", hall.outcome(1, 0, i), 0);
        }
        CHECK.due("3,001: schedule(1, 0, 0)", hall.schedule(1, 0, 0), -1);
        CHECK.due("3,001: more(0)", hall.more(0), -2);
        int without = Oracle.of(WITH_3001).states(false, false);
        CHECK.due("3,001: count(3)", hall.count(3), without);
        CHECK.due("3,001: outcomes(0)", hall.outcomes(0) > 0, true);
        CHECK.due("3,001: count(5)", hall.count(5), hall.outcomes(0));
        CHECK.due("3,001: schedule(0, 0, 0)", hall.schedule(0, 0, 0) >= 0, true);
        CHECK.due("3,001: a machine begins", hall.begin(1), true);
    }

    private static void fullWithout() {
        CHECK.sentence("All STATES that can be come to, without ROWS; if there are more than 3,000, that is FULL");
        CHECK.due("the second model", Oracle.of(WITHOUT_3000).states(false, false), 3000);
        CHECK.due("the second model", Oracle.of(WITHOUT_3001).states(false, false), 3001);
        LitmusHall hall = Check.hall(WITHOUT_3000);
        CHECK.due("3,000: count(3)", hall.count(3), 3000);
        CHECK.due("3,000: outcomes(0)", hall.outcomes(0) > 1, true);
        CHECK.due("3,000: count(5)", hall.count(5), hall.outcomes(0));
        CHECK.due("3,000: schedule(0, 0, 0)", hall.schedule(0, 0, 0) >= 0, true);
        CHECK.due("3,000: with ROWS it is FULL", hall.outcomes(1), -2);
        hall = Check.hall(WITHOUT_3001);
        CHECK.due("3,001: outcomes(0)", hall.outcomes(0), -2);
        CHECK.due("3,001: count(3)", hall.count(3), -1);
        CHECK.due("3,001: count(5)", hall.count(5), -1);
        CHECK.due("3,001: outcome(0, 0, 9)", hall.outcome(0, 0, 9), 0);
        CHECK.due("3,001: outcome(0, 0, 10)", hall.outcome(0, 0, 10), 0);
        CHECK.due("3,001: schedule(0, 0, 0)", hall.schedule(0, 0, 0), -1);
        CHECK.due("3,001: more(0)", hall.more(0), -2);
    }

    private static void fullIsForgotten() {
        CHECK.sentence("nothing is explored (behind a FULL one, and ahead of one)");
        LitmusHall hall = Check.hall(CROSSED);
        CHECK.due("outcomes(1)", hall.outcomes(1), 4);
        CHECK.due("outcomes(0)", hall.outcomes(0), 3);
        Check.feed(hall, WITHOUT_3001);
        hall.read();
        CHECK.due("FULL: outcome(0, 0, 9)", hall.outcome(0, 0, 9), 0);
        CHECK.due("FULL: outcome(1, 1, 9)", hall.outcome(1, 1, 9), 0);
        CHECK.due("FULL: schedule(0, 0, 0)", hall.schedule(0, 0, 0), -1);
        CHECK.due("FULL: outcomes(0)", hall.outcomes(0), -2);
        CHECK.due("FULL: outcomes(1)", hall.outcomes(1), -2);
        Check.feed(hall, CROSSED);
        hall.read();
        CHECK.due("not FULL: outcomes(1)", hall.outcomes(1), 4);
        CHECK.due("not FULL: outcomes(0)", hall.outcomes(0), 3);
        CHECK.due("not FULL: more(0)", hall.more(0), 0);
        CHECK.sentence("nothing is explored (behind one with fewer OUTCOMES, and one with longer SCHEDULES)");
        Check.feed(hall, "core:store 0 1;store 0 2;store 0 3;end core:load a 0;load b 0;end");
        hall.read();
        for (int mode = 0; mode < 2; mode++) {
            CHECK.due("outcomes(" + mode + ")", hall.outcomes(mode), 10);
            CHECK.due("the last of ten", hall.outcome(mode, 9, 3), 3);
        }
        Check.feed(hall, WITH_3000);
        hall.read();
        LitmusHall fresh = Check.hall(WITH_3000);
        for (int mode = 0; mode < 2; mode++) {
            int last = fresh.outcomes(mode) - 1;
            CHECK.due("outcomes(" + mode + ")", hall.outcomes(mode), last + 1);
            for (int i = 0; i < 13; i++) {
                CHECK.due("the last OUTCOME", hall.outcome(mode, last, i), fresh.outcome(mode, last, i));
            }
        }
        Check.feed(hall, "core:end");
        hall.read();
        path(hall, 0, 0);
        path(hall, 1, 0);
        Check.feed(hall, CROSSED);
        hall.read();
        path(hall, 0, 1, 1, 1, 0, 0);
        path(hall, 1, 0, 0, 0, 1, 1, 3, 4);
    }

    private static void path(LitmusHall hall, int mode, int n, int... want) {
        for (int i = 0; i < want.length; i++) {
            CHECK.due("schedule(" + mode + ", " + n + ", " + i + ")", hall.schedule(mode, n, i), want[i]);
        }
        CHECK.due("schedule behind the last", hall.schedule(mode, n, want.length), -1);
    }

    private static void schedulesAreShortest() {
        CHECK.sentence("The SCHEDULE of a STATE: of those that lead to it the shortest");
        // CORE 0 ends the same by three INS less if CORE 1's store has come: the way by step 0 first is longer.
        LitmusHall hall = Check.hall("core:load a 0;if a skip 3;set b 1;set b 0;set b 0;set a 0;end core:store 0 1;end");
        CHECK.due("one OUTCOME", hall.outcomes(0), 1);
        path(hall, 0, 0, 1, 0, 0, 0);
        path(hall, 1, 0, 1, 4, 0, 0, 0);
        path(Check.hall("core:end"), 0, 0);
        path(Check.hall("core:end core:end core:set a 0;end"), 1, 0, 2);
    }

    private static void schedulesAreFirst() {
        CHECK.sentence("of these the first by its first step, then its second, ..");
        LitmusHall hall = Check.hall("core:set a 1;set a 2;end core:set b 1;store 0 1;end core:set c 1;end");
        path(hall, 0, 0, 0, 0, 1, 1, 2);
        path(hall, 1, 0, 0, 0, 1, 1, 2, 4);
        hall = Check.hall("core:store 0 1;end core:load a 0;end core:store 1 1;end");
        path(hall, 0, 0, 1, 0, 2);
        path(hall, 0, 1, 0, 1, 2);
        path(hall, 1, 0, 0, 1, 2, 3, 5);
        path(hall, 1, 1, 0, 2, 3, 1, 5);
        hall = Check.hall("core:store 0 1;fence;store 0 2;end core:load a 0;end");
        path(hall, 1, 1, 0, 3, 0, 0, 1, 3);
    }

    private static void longestSchedule() {
        CHECK.sentence("schedule: Step i of the SCHEDULE (of one with 26 steps)");
        LitmusHall hall = Check.hall(LONGEST);
        CHECK.due("STATES", hall.count(2), 28 * 28 * 3);
        path(hall, 1, 0, 0, 0, 0, 0, 0, 0, 1, 1, 1, 1, 1, 1, 2, 3, 3, 3, 3, 3, 3, 4, 4, 4, 4, 4, 4, 5);
        path(hall, 0, 0, 0, 0, 0, 0, 0, 0, 1, 1, 1, 1, 1, 1, 2);
        hall = Check.hall("core:" + "store 0 1;".repeat(6) + "end");
        path(hall, 1, 0, 0, 0, 0, 0, 0, 0, 3, 3, 3, 3, 3, 3);
        for (int i = -1; i > -12; i--) {
            CHECK.due("schedule(1, 0, " + i + ")", hall.schedule(1, 0, i), -1);
        }
    }

    private static void outcomesOfModes() {
        CHECK.sentence("outcomes: with ROWS (1), without (0). NONE without a PROGRAM, or for another mode");
        CHECK.due("no PROGRAM", new LitmusHall().outcomes(0), -1);
        CHECK.due("no PROGRAM", new LitmusHall().outcomes(1), -1);
        LitmusHall hall = Check.hall(CROSSED);
        CHECK.due("outcomes(0)", hall.outcomes(0), 3);
        CHECK.due("outcomes(1)", hall.outcomes(1), 4);
        LitmusHall full = Check.hall(WITHOUT_3001);
        for (int mode : new int[] {-1, 2, 3, LEAST, GREATEST}) {
            CHECK.due("outcomes(" + mode + ")", hall.outcomes(mode), -1);
            CHECK.due("outcomes(" + mode + ") of one that is FULL", full.outcomes(mode), -1);
        }
    }

    private static void outcomeOfNoneSuch() {
        CHECK.sentence("outcome: Int i (0 .. 12) of the n-th OUTCOME; 0 if there is none such");
        LitmusHall hall = Check.hall("cell 3=8;core:store 0 1;load a 1;set b 5;end core:store 1 1;load a 0;end core:set c 6;end");
        int[] sizes = {3, 4};
        for (int mode = 0; mode < 2; mode++) {
            int last = sizes[mode] - 1;
            CHECK.due("int 12 of the first", hall.outcome(mode, 0, 12), 8);
            CHECK.due("int 12 of the last", hall.outcome(mode, last, 12), 8);
            CHECK.due("int 0 of the last", hall.outcome(mode, last, 0), 1);
            CHECK.due("int 1 of the last", hall.outcome(mode, last, 1), 5);
            CHECK.due("int 8 of the first", hall.outcome(mode, 0, 8), 6);
            for (int n : new int[] {-1, last + 1, last + 2, LEAST, GREATEST}) {
                CHECK.due("OUTCOME " + n, hall.outcome(mode, n, 12), 0);
                CHECK.due("OUTCOME " + n, hall.outcome(mode, n, 1), 0);
            }
            for (int i : new int[] {-1, -5, 13, 14, 17, 18, LEAST, GREATEST}) {
                CHECK.due("int " + i, hall.outcome(mode, 0, i), 0);
                CHECK.due("int " + i + " of the last", hall.outcome(mode, last, i), 0);
            }
        }
        for (int mode : new int[] {-1, 2, LEAST, GREATEST}) {
            CHECK.due("mode " + mode, hall.outcome(mode, 0, 12), 0);
        }
    }

    private static void scheduleOfNoneSuch() {
        CHECK.sentence("schedule: NONE: it has not so many, or there is none such");
        LitmusHall hall = Check.hall(CROSSED);
        path(hall, 0, 0, 0, 0, 1, 1);
        path(hall, 0, 2, 0, 1, 0, 1);
        path(hall, 1, 0, 0, 0, 1, 1, 3, 4);
        path(hall, 1, 3, 0, 1, 3, 1, 4, 0);
        for (int i : new int[] {-1, -2, 6, 7, 9, 10, 11, 37, 38, 39, 40, LEAST, GREATEST}) {
            CHECK.due("step " + i, hall.schedule(1, 3, i), -1);
            CHECK.due("step " + i + " of the first", hall.schedule(1, 0, i), -1);
        }
        for (int n : new int[] {-1, 4, 5, LEAST, GREATEST}) {
            CHECK.due("OUTCOME " + n, hall.schedule(1, n, 0), -1);
        }
        CHECK.due("OUTCOME 3 without ROWS", hall.schedule(0, 3, 0), -1);
        for (int mode : new int[] {-1, 2, LEAST, GREATEST}) {
            CHECK.due("mode " + mode, hall.schedule(mode, 0, 0), -1);
        }
        CHECK.due("no PROGRAM", new LitmusHall().schedule(1, 0, 0), -1);
    }

    private static void moreOfNotSoMany() {
        CHECK.sentence("more: the i-th OUTCOME that there is not without; NONE: there are not so many; without a PROGRAM");
        CHECK.due("no PROGRAM", new LitmusHall().more(0), -1);
        // CORE 0 may see none of the other's stores, and so may CORE 1: each int of theirs stays open.
        LitmusHall hall = Check.hall("core:store 0 1;load a 1;load b 1;end core:store 1 1;store 1 2;load a 0;end");
        int without = hall.outcomes(0);
        int with = hall.outcomes(1);
        int more = with - without;
        CHECK.due("more than one", more > 1, true);
        int ahead = -1;
        for (int i = 0; i < more; i++) {
            int n = hall.more(i);
            CHECK.due("in their order", n > ahead && n < with, true);
            CHECK.due("is not without", hasWithout(hall, n), false);
            ahead = n;
        }
        for (int i : new int[] {-1, more, more + 1, LEAST, GREATEST}) {
            CHECK.due("more(" + i + ")", hall.more(i), -1);
        }
        CHECK.due("none at all", Check.hall("core:store 0 1;end core:load a 0;end").more(0), -1);
        // The last of all with ROWS is not without, though the PROGRAM ahead had it there.
        hall = Check.hall("core:load a 1;end core:load a 0;end core:store 0 -1;store 1 -1;end");
        CHECK.due("outcomes(0) ahead", hall.outcomes(0), 4);
        Check.feed(hall, "core:store 0 -1;load a 1;end core:store 1 -1;load a 0;end");
        hall.read();
        CHECK.due("more(0)", hall.more(0), 3);
        CHECK.due("more(1)", hall.more(1), -1);
    }

    private static boolean hasWithout(LitmusHall hall, int n) {
        for (int m = 0; m < hall.outcomes(0); m++) {
            boolean same = true;
            for (int i = 0; i < 13 && same; i++) {
                same = hall.outcome(0, m, i) == hall.outcome(1, n, i);
            }
            if (same) {
                return true;
            }
        }
        return false;
    }

    private static void moreOfFull() {
        CHECK.sentence("more: -2: one of both is FULL");
        CHECK.due("FULL with ROWS alone", Check.hall(WITH_3001).more(0), -2);
        CHECK.due("FULL with ROWS alone", Check.hall(WITHOUT_3000).more(5), -2);
        CHECK.due("both", Check.hall(WITHOUT_3001).more(0), -2);
        CHECK.due("none", Check.hall(WITH_3000).more(0) >= 0, true);
    }

    private static void countsOfTheProgram() {
        CHECK.sentence("count: 0 CORES, 1 INS in all, .. 8 places for a fence");
        for (int size = 0; size <= 6; size++) {
            String core = "core:" + "fence;".repeat(size) + "end ";
            for (int cores = 1; cores <= 3; cores++) {
                LitmusHall hall = Check.hall(core.repeat(cores));
                CHECK.due("count(0)", hall.count(0), cores);
                CHECK.due("count(1)", hall.count(1), cores * size);
                CHECK.due("count(8) of " + size, hall.count(8), cores * (size == 0 ? 0 : size - 1));
            }
        }
        CHECK.sentence("count: 2 STATES with ROWS, 3 without, 4 OUTCOMES with ROWS, 5 without");
        LitmusHall hall = Check.hall("core:store 0 1;end core:load a 0;end");
        int[] want = {7, 5, 2, 2};
        for (int what = 2; what <= 5; what++) {
            CHECK.due("count(" + what + ")", hall.count(what), want[what - 2]);
        }
        hall = Check.hall(CROSSED);
        CHECK.due("count(4)", hall.count(4), 4);
        CHECK.due("count(5)", hall.count(5), 3);
        CHECK.due("one STATE", Check.hall("core:end").count(2), 1);
        CHECK.due("one STATE", Check.hall("core:end").count(3), 1);
    }

    private static void countsOfTheMachine() {
        CHECK.sentence("count: 6 steps of the machine, 7 whether it has ended (1, 0) .. 0 without a machine");
        LitmusHall hall = Check.hall("core:store 0 1;end");
        CHECK.due("no machine: count(6)", hall.count(6), 0);
        CHECK.due("no machine: count(7)", hall.count(7), 0);
        hall.begin(1);
        int[][] want = {{0, 0}, {1, 0}, {2, 1}};
        for (int n = 0; n < 3; n++) {
            CHECK.due("count(6)", hall.count(6), want[n][0]);
            CHECK.due("count(7)", hall.count(7), want[n][1]);
            hall.step(n == 0 ? 0 : 3);
        }
        CHECK.due("a step that can't", hall.count(6), 2);
        hall.undo();
        CHECK.due("taken back", hall.count(6), 1);
        CHECK.due("not ended", hall.count(7), 0);
    }

    private static void countsOfOthers() {
        CHECK.sentence("count: 9 bytes on the tape. 0 without a PROGRAM or machine (but 9); NONE for others");
        LitmusHall hall = new LitmusHall();
        Check.feed(hall, "core:end");
        for (int what = 0; what < 9; what++) {
            CHECK.due("no PROGRAM: count(" + what + ")", hall.count(what), 0);
        }
        CHECK.due("no PROGRAM: count(9)", hall.count(9), 8);
        hall.read();
        CHECK.due("count(9)", hall.count(9), 0);
        for (int what : new int[] {-1, 10, 11, LEAST, GREATEST}) {
            CHECK.due("count(" + what + ")", hall.count(what), -1);
            CHECK.due("no PROGRAM: count(" + what + ")", new LitmusHall().count(what), -1);
        }
    }
}
