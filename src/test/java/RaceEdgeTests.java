/** The edges of a RACE in the document's Terms, and of promises 18 and 19. */
public final class RaceEdgeTests {
    private static final Check CHECK = new Check();

    private static final String TRACKED_3000 = "core:load b 0;if b skip 2;store 1 2;store 0 1;load b 1;end "
        + "core:inc a 0 1;store 1 1;load b 0;end core:swap a 0;load c 0;store 0 0;swap c 1;store 0 2;swap b 0;end";
    private static final String TRACKED_3001 = "core:inc c 1 2;store 0 1;if c skip 1;store 1 2;load c 0;end "
        + "core:if a skip 2;load b 1;swap b 1;swap b 0;inc a 0 2;end core:load c 0;load b 0;store 0 0;inc c 1 2;end";
    private static final String NONE_3000 = "core:load a 1;store 1 0;if a skip 2;store 1 0;swap a 1;end "
        + "core:if a skip 2;load a 1;store 1 1;load b 1;store 0 0;swap b 0;end "
        + "core:if b skip 2;store 1 2;if a skip 1;load c 1;if c skip 1;inc b 0 0;end";
    private static final String NONE_3001 = "core:load c 1;inc b 1 2;inc c 0 2;store 0 0;if c skip 1;swap c 1;end "
        + "core:if b skip 2;if b skip 1;load c 0;load b 1;store 1 2;end "
        + "core:swap c 1;inc a 0 2;load a 1;store 0 0;store 0 1;end";

    private static final String WITH_3001 = "core:store 2 1;store 0 2;end core:store 0 1;store 0 1;load c 2;fence;end "
        + "core:load c 2;swap b 0;store 2 1;load b 0;store 1 2;end";

    public static void main(String[] args) {
        loadAgainstEachKind();
        ofAnotherCore();
        storeToAnotherCell();
        sinceItsLatestFence();
        ofItsOwnFences();
        sinceItsBegin();
        aStateThatCanBeComeTo();
        nextInsOfBoth();
        withoutRowsOnly();
        storedIsPartOfTheState();
        shortestSchedule();
        firstSchedule();
        leastReader();
        leastWriter();
        withoutProgram();
        full();
        racerOfOthers();
        racerWithoutOne();
        CHECK.end();
    }

    /** The race of a text: none without any ints, else r, w, x and the steps. */
    private static void race(String text, int... want) {
        LitmusHall hall = Check.hall(text);
        CHECK.due("race of " + text, hall.race(), want.length == 0 ? 0 : 1);
        for (int what = 0; what < want.length; what++) {
            CHECK.due("racer(" + what + ") of " + text, hall.racer(what), want[what]);
        }
        for (int what : new int[] {want.length, want.length + 1, -1, Integer.MIN_VALUE, Integer.MAX_VALUE}) {
            CHECK.due("racer(" + what + ") of " + text, hall.racer(what), -1);
        }
    }

    private static void loadAgainstEachKind() {
        CHECK.sentence("the next INS of a CORE r is a load from a CELL x, that of another CORE w a store to x or LOCKED at x");
        String[] kinds = {"store * 1", "swap a *", "inc a * 1", "cas a * 0 1", "cas a * 5 1"};
        for (int x = 0; x < 4; x++) {
            int y = (x + 1) % 4;
            String load = "core:store " + y + " 1;load b " + x + ";end core:";
            for (String kind : kinds) {
                race(load + kind.replace("*", "" + x) + ";end", 0, 1, x, 0);
                race(load + kind.replace("*", "" + (x + 2) % 4) + ";end");
                race(load + kind.replace("*", "" + y) + ";end");
            }
            for (String kind : new String[] {"load a " + x, "set a 1", "add a 1", "fence", "if a skip 0"}) {
                race(load + kind + ";end");
            }
        }
        // What r does next must be a load: LOCKED ones and stores at x are none.
        for (String kind : new String[] {"swap a 0", "inc a 0 1", "cas a 0 0 1", "store 0 1", "set a 1", "fence"}) {
            race("core:store 1 1;" + kind + ";end core:store 0 1;end");
        }
    }

    private static void ofAnotherCore() {
        CHECK.sentence("that of another CORE w");
        race("core:store 1 1;load a 0;store 0 1;end");
        race("core:store 1 1;load a 0;store 0 1;end core:end core:load a 0;end");
        race("core:end core:end core:store 1 1;load a 0;end");
        race("core:store 0 1;end core:end core:store 1 1;load a 0;end", 2, 0, 0, 2);
    }

    private static void storeToAnotherCell() {
        CHECK.sentence("and r did a store to another CELL than x");
        race("core:load a 0;end core:store 0 1;end");
        race("core:store 0 1;load a 0;end core:store 0 1;end");
        race("core:store 0 1;store 0 2;load a 0;end core:store 0 1;end");
        race("core:store 1 0;load a 0;end core:store 0 1;end", 0, 1, 0, 0);
        race("core:store 3 1;store 0 1;load a 0;end core:store 0 1;end", 0, 1, 0, 0, 0);
        race("core:store 0 1;store 2 1;load a 0;end core:store 0 1;end", 0, 1, 0, 0, 0);
        race("core:store 1 1;store 1 2;load a 0;end core:store 0 1;end", 0, 1, 0, 0, 0);
        race("core:store 1 1;store 1 2;store 1 3;store 1 4;load a 0;end core:store 0 1;end", 0, 1, 0, 0, 0, 0, 0);
        // The other's store, and one that comes behind the load, are none of r's.
        race("core:load a 0;store 1 1;end core:store 1 1;store 0 1;end");
        for (String locked : new String[] {"swap a 1", "inc a 1 1", "cas a 1 0 1"}) {
            race("core:" + locked + ";load b 0;end core:store 0 1;end");
        }
    }

    private static void sinceItsLatestFence() {
        CHECK.sentence("since its latest fence or LOCKED one");
        for (String kind : new String[] {"fence", "swap a 2", "inc a 2 1", "cas a 2 0 1", "cas a 2 9 9", "swap a 0", "swap a 1"}) {
            race("core:store 1 1;" + kind + ";load b 0;end core:store 0 1;end");
            race("core:" + kind + ";store 1 1;load b 0;end core:store 0 1;end", 0, 1, 0, 0, 0);
            race("core:store 2 1;" + kind + ";store 1 1;load b 0;end core:store 0 1;end", 0, 1, 0, 0, 0, 0);
            race("core:store 2 1;" + kind + ";store 0 1;load b 0;end core:store 0 1;end");
        }
        for (String kind : new String[] {"load c 2", "set a 1", "add a 1", "if a skip 0"}) {
            race("core:store 1 1;" + kind + ";load b 0;end core:store 0 1;end", 0, 1, 0, 0, 0);
        }
        race("core:fence;store 1 1;fence;load b 0;end core:store 0 1;end");
        // A fence that is left out is not done.
        race("core:store 1 1;set a 1;if a skip 1;fence;load b 0;end core:store 0 1;end", 0, 1, 0, 0, 0, 0);
        race("core:store 1 1;set a 0;if a skip 1;fence;load b 0;end core:store 0 1;end");
    }

    private static void ofItsOwnFences() {
        CHECK.sentence("since its latest fence (another CORE's is none of its)");
        race("core:store 1 1;load b 0;end core:fence;swap a 2;store 0 1;end", 0, 1, 0, 0, 1, 1);
        race("core:fence;fence;store 0 1;end core:store 1 1;load b 0;end", 1, 0, 0, 0, 0, 1);
    }

    private static void sinceItsBegin() {
        CHECK.sentence("(or its begin)");
        race("core:store 1 1;load b 0;end core:store 0 1;end", 0, 1, 0, 0);
        race("core:set a 1;set a 1;set a 1;store 1 1;load b 0;end core:store 0 1;end", 0, 1, 0, 0, 0, 0, 0);
    }

    private static void aStateThatCanBeComeTo() {
        CHECK.sentence("a STATE that can be come to");
        // Without a store by CORE 1, the skip leaves out CORE 0's store.
        race("cell 2=1;core:load a 2;if a skip 1;store 1 1;load b 0;end core:store 0 1;end");
        race("cell 2=1;core:load a 2;if a skip 1;store 1 1;load b 0;end core:store 0 1;end core:store 2 0;end", 0, 1, 0, 2, 0, 0, 0);
        race("cell 2=1;core:load a 2;if a skip 2;store 1 1;load b 0;end core:store 0 1;end");
    }

    private static void nextInsOfBoth() {
        CHECK.sentence("a STATE .. in which the next INS of a CORE r .. that of another CORE w");
        // CORE 1 comes to its load only when it has seen the end of CORE 0: they are never next in one STATE.
        race("cell 2=1;core:store 0 1;store 2 0;end core:load a 2;if a skip 2;store 1 1;load b 0;end");
        // r is THROUGH, or w is.
        race("core:store 1 1;end core:store 0 1;end");
        race("core:store 1 1;load a 0;end core:end");
    }

    private static void withoutRowsOnly() {
        CHECK.sentence("A RACE, without ROWS");
        // With ROWS, CORE 2's store would have to go by a step of its own.
        race("cell 2=1;core:load a 2;if a skip 1;store 1 1;load b 0;end core:store 0 1;end core:store 2 0;end", 0, 1, 0, 2, 0, 0, 0);
        CHECK.due("FULL with ROWS", Check.hall(WITH_3001).outcomes(1), -2);
        CHECK.due("not so without", Check.hall(WITH_3001).race(), 1);
    }

    private static void storedIsPartOfTheState() {
        CHECK.sentence("the STATE (with what was stored so as part of it)");
        // The STATE of both ways of CORE 0 is one but for what was stored: it is come to by the way without the store first.
        race("cell 3=1;core:load b 3;if b skip 1;store 1 0;set b 0;load a 0;end core:store 3 0;store 0 1;end",
            0, 1, 0, 1, 0, 0, 0, 0);
        race("core:if c skip 1;store 1 0;load a 0;end core:store 0 1;end", 0, 1, 0, 0, 0);
    }

    private static void shortestSchedule() {
        CHECK.sentence("THE RACE is told by the STATE of the shortest SCHEDULE");
        // CORE 0 races behind four steps, CORE 1 behind one.
        race("core:set a 1;set a 1;set a 1;store 2 1;load a 0;end core:store 1 1;load b 0;end core:store 0 1;end", 1, 2, 0, 1);
        race("core:store 1 1;load b 0;end core:set a 1;set a 1;set a 1;store 2 1;load a 0;end core:store 0 1;end", 0, 2, 0, 0);
    }

    private static void firstSchedule() {
        CHECK.sentence("of these the first");
        race("core:store 0 1;load a 1;end core:store 1 1;load a 0;end", 0, 1, 1, 0);
        race("core:store 1 1;set a 1;load a 0;end core:store 0 1;set a 1;load a 1;end", 0, 1, 0, 0, 0);
        race("core:store 0 1;end core:store 1 1;set a 1;load a 0;end core:store 1 1;load b 0;set a 1;end", 2, 0, 0, 2);
        race("core:set b 1;store 0 1;end core:store 1 1;set b 1;load a 0;end core:store 2 1;load c 0;end", 2, 0, 0, 0, 2);
    }

    private static void leastReader() {
        CHECK.sentence("of this r, then w, the least: r");
        // CORE 2 comes to its store only when both others have stored.
        race("cell 0=1;cell 1=1;core:store 0 0;load a 2;end core:store 1 0;load a 2;end "
            + "core:load a 0;load b 1;add a b;if a skip 1;store 2 1;end", 0, 2, 2, 0, 1, 2, 2, 2, 2);
        race("cell 0=1;cell 1=1;core:load a 0;load b 1;add a b;if a skip 1;store 2 1;end core:store 0 0;load a 2;end "
            + "core:store 1 0;load a 2;end", 1, 0, 2, 1, 0, 2, 0, 0, 0);
        // r is the least also where another r would have a lesser w.
        race("cell 0=1;cell 1=1;core:store 0 0;load a 2;end core:load a 0;load b 1;add a b;if a skip 1;store 2 1;end "
            + "core:store 1 0;load a 2;end", 0, 1, 2, 0, 1, 2, 1, 1, 1);
    }

    private static void leastWriter() {
        CHECK.sentence("of this r, then w, the least: w");
        race("core:store 0 1;load a 2;end core:store 2 1;end core:store 2 1;end", 0, 1, 2, 0);
        race("core:store 2 1;end core:store 0 1;load a 2;end core:swap a 2;end", 1, 0, 2, 1);
        race("core:inc a 2 1;end core:cas a 2 0 1;end core:store 0 1;load a 2;end", 2, 0, 2, 2);
        race("core:end core:cas a 2 0 1;end core:store 0 1;load a 2;end", 2, 1, 2, 2);
    }

    private static void withoutProgram() {
        CHECK.sentence("race: NONE without a PROGRAM");
        LitmusHall hall = new LitmusHall();
        CHECK.due("race()", hall.race(), -1);
        CHECK.due("racer(0)", hall.racer(0), -1);
        hall.read();
        CHECK.due("race() behind a FAULT", hall.race(), -1);
        Check.feed(hall, "core:end");
        hall.read();
        CHECK.due("race() of a PROGRAM", hall.race(), 0);
    }

    private static void full() {
        CHECK.sentence("race: -2: with what was stored as part of them there are more than 3,000 STATES (without ROWS)");
        CHECK.due("the second model", Oracle.of(TRACKED_3000).states(false, true), 3000);
        CHECK.due("the second model", Oracle.of(NONE_3000).states(false, true), 3000);
        CHECK.due("the second model", Oracle.of(TRACKED_3001).states(false, true), 3001);
        CHECK.due("the second model", Oracle.of(NONE_3001).states(false, true), 3001);
        CHECK.due("3,000 with a RACE", Check.hall(TRACKED_3000).race(), 1);
        CHECK.due("3,000 with a RACE: racer(0)", Check.hall(TRACKED_3000).racer(0) >= 0, true);
        CHECK.due("3,000 without", Check.hall(NONE_3000).race(), 0);
        for (String text : new String[] {TRACKED_3001, NONE_3001}) {
            LitmusHall hall = Check.hall(text);
            CHECK.due("3,001", hall.race(), -2);
            for (int what = -1; what < 6; what++) {
                CHECK.due("3,001: racer(" + what + ")", hall.racer(what), -1);
            }
            CHECK.due("3,001: not FULL without what was stored", hall.outcomes(0) > 0, true);
            CHECK.due("3,001: count(3)", hall.count(3) < 3001, true);
        }
    }

    private static void racerOfOthers() {
        CHECK.sentence("racer: r (what 0), w (1), x (2), step i - 3 (what i, 3 and more). NONE for others");
        LitmusHall hall = Check.hall("core:set a 1;store 3 1;end core:end core:store 0 1;set a 1;load a 3;end");
        int[] want = {2, 0, 3, 0, 2, 2};
        for (int what = 0; what < want.length; what++) {
            CHECK.due("racer(" + what + ")", hall.racer(what), want[what]);
        }
        for (int what : new int[] {-1, -2, 6, 7, 40, 41, 42, Integer.MIN_VALUE, Integer.MAX_VALUE}) {
            CHECK.due("racer(" + what + ")", hall.racer(what), -1);
        }
        CHECK.due("race() behind it", hall.race(), 1);
    }

    private static void racerWithoutOne() {
        CHECK.sentence("racer: NONE .. without one");
        LitmusHall hall = Check.hall("core:store 0 1;load a 1;end core:store 1 1;load a 0;end");
        CHECK.due("race()", hall.race(), 1);
        Check.feed(hall, "core:store 0 1;end core:load a 0;end");
        hall.read();
        for (int what = -1; what < 8; what++) {
            CHECK.due("racer(" + what + ") of a PROGRAM behind it", hall.racer(what), -1);
        }
        CHECK.due("race()", hall.race(), 0);
    }
}
