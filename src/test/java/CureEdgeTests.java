import java.util.List;

/** The edges of a CURE in the document's Terms, and of promises 20 and 21. */
public final class CureEdgeTests {
    private static final Check CHECK = new Check();

    private static final String CROSSED = "core:store 0 1;load a 1;end core:store 1 1;load a 0;end";
    // CORE 1 is fenced: what cures is a place of CORE 0.
    private static final String OTHER_FENCED = " core:store 1 1;fence;load a 0;end";

    private static final String WITH_3000 = "core:store 0 1;store 0 1;store 0 1;end "
        + "core:store 1 1;store 1 1;store 1 1;store 1 1;end core:store 2 1;store 2 1;store 2 1;store 2 1;set a 1;end";
    private static final String WITH_3001 = "core:store 2 1;store 0 2;end core:store 0 1;store 0 1;load c 2;fence;end "
        + "core:load c 2;swap b 0;store 2 1;load b 0;store 1 2;end";
    private static final String WITHOUT_3001 = "core:inc a 0 2;inc a 0 1;swap c 1;end core:store 1 1;inc c 0 2;load a 1;end "
        + "core:store 0 0;load c 1;inc b 0 2;swap b 0;store 1 2;end";
    // Of those with one fence that are looked at, the largest has 3,000 and 3,001 STATES.
    private static final String ONE_3000 = "core:load c 1;store 1 1;end core:swap b 1;load a 0;add b 2;load b 1;store 0 2;"
        + "store 0 2;end core:store 0 1;load c 1;store 1 2;store 1 1;end";
    private static final String ONE_3001 = "core:inc a 1 1;store 1 1;cas c 0 2 1;load b 1;add a 1;end core:store 1 2;"
        + "cas b 1 2 1;end core:store 0 2;load b 1;swap c 1;fence;end";
    private static final String TWO_3000 = "core:if a skip 0;store 1 2;load b 0;store 0 2;end core:swap b 1;load a 1;set c 2;"
        + "set a 1;end core:load c 1;store 0 2;store 0 1;load c 1;fence;set b 2;end";
    private static final String TWO_3001 = "core:store 1 2;inc a 1 1;load a 0;fence;end core:load c 1;load c 1;store 0 2;"
        + "load c 1;end core:store 1 1;load a 0;cas b 1 2 2;end";
    // The least CURE, and others behind it that would be FULL.
    private static final String LATER_FULL = "core:inc b 0 2;store 1 2;load b 1;end core:store 0 2;store 1 1;load b 0;add b 1;end "
        + "core:swap b 0;load c 1;add a 1;end";
    private static final String NONE_NEEDED = "core:load b 0;store 0 1;load a 0;end core:store 0 1;inc a 0 2;store 0 2;end "
        + "core:swap c 0;store 0 2;fence;end";

    public static void main(String[] args) {
        placesBetweenTwo();
        noPlaceAtTheEnds();
        noneNeeded();
        asFewAsCanBe();
        firstPlaceFirst();
        secondPlaceThen();
        atMostN();
        skipLeavesFencesOut();
        skipIntoTheEndWithin();
        skipLeadsToAFence();
        skipOfNone();
        skipToTheEnd();
        otherN();
        withoutProgram();
        fullAsItIs();
        fullWithoutRows();
        fullWithOneFence();
        fullWithTwoFences();
        upToTheLeast();
        curedOfTheLatest();
        curedNotSoMany();
        CHECK.end();
    }

    /** The least CURE of a text, as its places; all of 0, 1 and 2 are asked on a hall of their own. */
    private static void cure(String text, int... want) {
        for (int n = 0; n <= 2; n++) {
            LitmusHall hall = Check.hall(text);
            boolean enough = n >= want.length;
            CHECK.due("cure(" + n + ") of " + text, hall.cure(n), enough ? want.length : -1);
            for (int i = 0; i < 3; i++) {
                int place = enough && i < want.length ? want[i] : -1;
                CHECK.due("cured(" + i + ") behind cure(" + n + ") of " + text, hall.cured(i), place);
            }
        }
    }

    private static void none(String text) {
        for (int n = 0; n <= 2; n++) {
            LitmusHall hall = Check.hall(text);
            CHECK.due("cure(" + n + ") of " + text, hall.cure(n), -1);
            CHECK.due("cured(0) of " + text, hall.cured(0), -1);
        }
    }

    private static void placesBetweenTwo() {
        CHECK.sentence("a set of places, each between two INS of a CORE that stand one behind the other");
        // The place is ahead of INS at and of no other: what comes behind the store leaves no other.
        for (int k = 0; k < 3; k++) {
            for (int at = 1; at <= 5; at++) {
                String one = "core:" + "set b 1;".repeat(at - 1) + "store 0 1;load a 1;" + "set b 1;".repeat(5 - at) + "end";
                String two = "core:store 1 1;fence;load a 0;end";
                String text = k == 0 ? one + " " + two : k == 1 ? two + " " + one : two + " core:end " + one;
                CHECK.due("INS of " + text, Check.hall(text).ins(k, at, 0), 0);
                cure(text, 10 * k + at);
            }
        }
    }

    private static void noPlaceAtTheEnds() {
        CHECK.sentence("between two INS (not ahead of the first, and not behind the last)");
        CHECK.due("no place of none", Check.hall("core:end").count(8), 0);
        CHECK.due("no place of one", Check.hall("core:fence;end core:fence;end core:fence;end").count(8), 0);
        CHECK.due("one of two", Check.hall("core:fence;fence;end").count(8), 1);
        CHECK.due("five of six", Check.hall("core:" + "fence;".repeat(6) + "end").count(8), 5);
        // Three CORES that each need one: two places are too few, and there are three in all.
        none("core:store 0 1;load a 1;end core:store 1 1;load a 2;end core:store 2 1;load a 0;end");
    }

    private static void noneNeeded() {
        CHECK.sentence("A CURE .. has with ROWS just the OUTCOMES that it has without: none needed");
        cure("core:end");
        cure("core:store 0 1;end core:load a 0;end");
        cure("core:store 0 1;fence;load a 1;end core:store 1 1;fence;load a 0;end");
        cure("core:store 0 1;swap b 2;load a 1;end core:store 1 1;cas b 2 9 9;load a 0;end");
        cure("core:store 0 1;load a 0;end core:store 0 2;load a 0;end");
    }

    private static void asFewAsCanBe() {
        CHECK.sentence("The least: as few places as can be");
        cure("core:store 0 1;load a 1;end" + OTHER_FENCED, 1);
        cure(CROSSED, 1, 11);
        // One place of CORE 0 does for both loads, though two would do too.
        cure("core:store 0 1;load a 1;load b 1;end" + OTHER_FENCED, 1);
        cure("core:store 0 1;store 2 1;load b 3;load a 1;end" + OTHER_FENCED, 1);
    }

    private static void firstPlaceFirst() {
        CHECK.sentence("of these the one whose first place comes first (by CORES, then INS)");
        cure("core:store 0 1;set b 1;set b 2;load a 1;end" + OTHER_FENCED, 1);
        cure("core:set b 1;store 0 1;set b 2;load a 1;end" + OTHER_FENCED, 2);
        // CORE 1's is as good as CORE 0's second: by CORES first.
        cure("core:set b 1;set b 2;store 0 1;load a 1;end core:store 1 1;set b 1;load a 0;end", 3, 11);
        cure("core:store 1 1;load a 0;set b 1;end core:end core:store 0 1;set b 1;load a 1;end", 1, 21);
    }

    private static void secondPlaceThen() {
        CHECK.sentence("then its second one");
        cure("core:store 0 1;set b 1;load a 1;end core:store 1 1;set b 1;load a 0;end", 1, 11);
        cure("core:store 0 1;load a 1;end core:set c 1;store 1 1;set b 1;load a 0;end", 1, 12);
        // Both of CORE 0: each store has a load of its own that may not pass it.
        cure("core:store 0 1;load a 1;store 2 1;load b 3;end core:store 1 1;fence;load a 0;end core:store 3 1;fence;load b 2;end",
            1, 3);
    }

    private static void atMostN() {
        CHECK.sentence("cure: How many places the least CURE of at most n (0 .. 2) has; NONE: there is none such");
        LitmusHall hall = Check.hall(CROSSED);
        int[] asked = {2, 1, 0, 2, 0, 1, 2};
        for (int n : asked) {
            CHECK.due("cure(" + n + ")", hall.cure(n), n == 2 ? 2 : -1);
        }
        hall = Check.hall("core:store 0 1;load a 1;end" + OTHER_FENCED);
        for (int n : asked) {
            CHECK.due("cure(" + n + ")", hall.cure(n), n == 0 ? -1 : 1);
        }
        hall = Check.hall("core:store 0 1;end");
        for (int n : asked) {
            CHECK.due("cure(" + n + ")", hall.cure(n), 0);
        }
    }

    private static void skipLeavesFencesOut() {
        CHECK.sentence("(A skip counts fences put in within what it leaves out as none: it leads to where it led)");
        String tail = OTHER_FENCED + " core:store 3 1;end";
        // The place that cures is within what the skip leaves out: a skip that stopped at it would come to the load, or to the set.
        cure("core:load b 3;if b skip 2;store 0 1;load a 1;set c 1;end" + tail, 3);
        cure("core:load b 3;if b skip 3;store 0 1;load a 1;add c 1;set b 2;end" + tail, 3);
        cure("core:load b 3;if b skip 3;add c 1;store 0 1;load a 1;set b 2;end" + tail, 4);
        // Two places, both within.
        cure("core:load b 3;if b skip 4;store 0 1;load a 1;store 2 1;load c 3;end" + OTHER_FENCED + " core:store 3 1;fence;load b 2;end",
            3, 5);
        // One within, one of another CORE.
        cure("core:load b 3;if b skip 2;store 0 1;load a 1;set c 1;end core:store 1 1;load a 0;end core:store 3 1;end", 3, 11);
        // A place within does not cure what goes by the skip: the one ahead of the if does.
        cure("core:load b 3;store 0 1;if b skip 2;set c 1;set c 2;load a 1;end" + tail, 2);
        cure("core:load b 3;if b skip 1;set c 1;store 0 1;load a 1;end" + tail, 4);
    }

    private static void skipIntoTheEndWithin() {
        CHECK.sentence("it leads to where it led (behind the last INS, with a fence within)");
        cure("core:load b 3;if b skip 2;store 0 1;load a 1;end" + OTHER_FENCED + " core:store 3 1;end", 3);
        cure("core:load b 3;if b skip 3;store 0 1;load a 1;add c 1;end" + OTHER_FENCED + " core:store 3 1;end", 3);
    }

    private static void skipLeadsToAFence() {
        CHECK.sentence("one right ahead of that INS is done then");
        // By the skip the load comes right behind it, else behind another store: only a fence right ahead of it does for both.
        cure("cell 3=1;core:load b 3;store 0 1;if b skip 1;store 0 2;load a 1;end" + OTHER_FENCED + " core:store 3 0;end", 4);
        // The place ahead of the if does not do for the store that is left out or not.
        cure("cell 3=1;core:load b 3;if b skip 1;store 0 2;load a 1;end" + OTHER_FENCED + " core:store 3 0;end", 3);
    }

    private static void skipOfNone() {
        CHECK.sentence("one right ahead of that INS is done then (a skip of no INS)");
        cure("core:store 0 1;if b skip 0;load a 1;end" + OTHER_FENCED, 1);
        cure("core:set b 1;store 0 1;if b skip 0;load a 1;end" + OTHER_FENCED, 2);
        // The only place that cures is the one right behind the if.
        cure("cell 2=1;core:load b 2;if b skip 1;store 0 1;if b skip 0;load a 1;end" + OTHER_FENCED + " core:store 2 0;end", 3);
    }

    private static void skipToTheEnd() {
        CHECK.sentence("it leads to where it led (behind the last INS)");
        cure("core:store 0 1;set b 1;if b skip 1;load a 1;end" + OTHER_FENCED);
        // It may be left out or not: the fence is needed where it is not.
        cure("core:load b 3;store 0 1;if b skip 2;set c 1;load a 1;end core:store 1 1;fence;load a 0;end core:store 3 1;end", 2);
    }

    private static void otherN() {
        CHECK.sentence("cure: NONE .. for another n");
        LitmusHall hall = Check.hall("core:end");
        LitmusHall full = Check.hall(WITHOUT_3001);
        for (int n : new int[] {-1, 3, 4, Integer.MIN_VALUE, Integer.MAX_VALUE}) {
            CHECK.due("cure(" + n + ")", hall.cure(n), -1);
            CHECK.due("cure(" + n + ") of one that is FULL", full.cure(n), -1);
        }
        for (int n = 0; n <= 2; n++) {
            CHECK.due("cure(" + n + ")", hall.cure(n), 0);
        }
    }

    private static void withoutProgram() {
        CHECK.sentence("cure: NONE .. without a PROGRAM");
        LitmusHall hall = new LitmusHall();
        for (int n = -1; n <= 3; n++) {
            CHECK.due("cure(" + n + ")", hall.cure(n), -1);
        }
        hall.read();
        CHECK.due("cure(2) behind a FAULT", hall.cure(2), -1);
    }

    private static void fullAsItIs() {
        CHECK.sentence("cure: -2: one of those that are looked at is FULL, with ROWS (the one of no places)");
        CHECK.due("the second model", Oracle.of(WITH_3000).states(true, false), 3000);
        CHECK.due("the second model", Oracle.of(WITH_3001).states(true, false), 3001);
        for (int n = 0; n <= 2; n++) {
            CHECK.due("3,000: cure(" + n + ")", Check.hall(WITH_3000).cure(n), 0);
            CHECK.due("3,001: cure(" + n + ")", Check.hall(WITH_3001).cure(n), -2);
        }
    }

    private static void fullWithoutRows() {
        CHECK.sentence("cure: -2: .. or the PROGRAM itself without");
        for (int n = 0; n <= 2; n++) {
            LitmusHall hall = Check.hall(WITHOUT_3001);
            CHECK.due("cure(" + n + ")", hall.cure(n), -2);
            CHECK.due("cure(" + n + ") again", hall.cure(n), -2);
            CHECK.due("cured(0)", hall.cured(0), -1);
        }
    }

    private static void fullWithOneFence() {
        CHECK.sentence("cure: -2: one of those that are looked at (by how few places) is FULL (one of one place)");
        CHECK.due("the second model", most(ONE_3000, 21), 3000);
        CHECK.due("the second model", most(ONE_3001, 21), 3001);
        CHECK.due("3,000: cure(0)", Check.hall(ONE_3000).cure(0), -1);
        CHECK.due("3,000: cure(1)", Check.hall(ONE_3000).cure(1), 1);
        CHECK.due("3,000: cure(2)", Check.hall(ONE_3000).cure(2), 1);
        LitmusHall hall = Check.hall(ONE_3001);
        int[] asked = {0, 1, 2, 0, 2, 1};
        for (int n : asked) {
            CHECK.due("3,001: cure(" + n + ")", hall.cure(n), n == 0 ? -1 : -2);
        }
        CHECK.due("3,001: cured(0)", hall.cured(0), -1);
        CHECK.due("3,001: not FULL as it is", hall.outcomes(1) > 0, true);
    }

    private static void fullWithTwoFences() {
        CHECK.sentence("cure: -2: one of those that are looked at (by how few places) is FULL (one of two places)");
        CHECK.due("the second model", most(TWO_3000, 2, 23), 3000);
        CHECK.due("the second model", most(TWO_3001, 13, 21), 3001);
        LitmusHall hall = Check.hall(TWO_3000);
        CHECK.due("3,000: cure(1)", hall.cure(1), -1);
        CHECK.due("3,000: cure(2)", hall.cure(2), 2);
        CHECK.due("3,000: cured(0)", hall.cured(0), 2);
        CHECK.due("3,000: cured(1)", hall.cured(1), 23);
        hall = Check.hall(TWO_3001);
        int[] asked = {0, 1, 2, 1, 0, 2};
        for (int n : asked) {
            CHECK.due("3,001: cure(" + n + ")", hall.cure(n), n == 2 ? -2 : -1);
        }
        CHECK.due("3,001: cured(0)", hall.cured(0), -1);
        CHECK.due("3,001, asked at once: cure(2)", Check.hall(TWO_3001).cure(2), -2);
    }

    private static void upToTheLeast() {
        CHECK.sentence("cure: those that are looked at (.. then in their order, up to the least)");
        CHECK.due("none up to the least is FULL", most(LATER_FULL, 12) <= 3000, true);
        CHECK.due("one behind it would be", most(LATER_FULL, 22) > 3000, true);
        cure(LATER_FULL, 12);
        CHECK.due("one of one place would be FULL", most(NONE_NEEDED, 22) > 3000, true);
        cure(NONE_NEEDED);
    }

    private static void curedOfTheLatest() {
        CHECK.sentence("cured: Place i of the latest cure() that told 0 or more, as 10 times its CORE and the INS behind it");
        LitmusHall hall = Check.hall(CROSSED);
        CHECK.due("ahead of any", hall.cured(0), -1);
        hall.cure(1);
        CHECK.due("behind NONE", hall.cured(0), -1);
        hall.cure(2);
        CHECK.due("behind 2", hall.cured(0), 1);
        CHECK.due("behind 2", hall.cured(1), 11);
        hall.cure(0);
        hall.cure(1);
        hall.cure(-1);
        hall.cure(3);
        CHECK.due("behind NONE", hall.cured(1), 11);
        Check.feed(hall, ONE_3001);
        hall.read();
        CHECK.due("FULL", hall.cure(2), -2);
        CHECK.due("behind FULL", hall.cured(1), 11);
        Check.feed(hall, "core:store 0 1;load a 1;end core:store 1 1;load a 2;end core:store 2 1;load a 0;end");
        hall.read();
        CHECK.due("NONE of all", hall.cure(2), -1);
        CHECK.due("behind NONE of all", hall.cured(0), 1);
        CHECK.due("behind NONE of all", hall.cured(1), 11);
        Check.feed(hall, "core:end core:store 1 1;fence;load a 0;end core:set b 1;store 0 1;load a 1;end");
        hall.read();
        CHECK.due("1", hall.cure(2), 1);
        CHECK.due("behind 1", hall.cured(0), 22);
        CHECK.due("behind 1", hall.cured(1), -1);
        Check.feed(hall, "core:end");
        hall.read();
        CHECK.due("0", hall.cure(1), 0);
        CHECK.due("behind 0", hall.cured(0), -1);
    }

    private static void curedNotSoMany() {
        CHECK.sentence("cured: NONE: it has not so many");
        LitmusHall hall = Check.hall(CROSSED);
        hall.cure(2);
        for (int i : new int[] {-1, 2, 3, Integer.MIN_VALUE, Integer.MAX_VALUE}) {
            CHECK.due("cured(" + i + ") of 2", hall.cured(i), -1);
        }
        hall = Check.hall("core:store 0 1;load a 1;end" + OTHER_FENCED);
        hall.cure(2);
        CHECK.due("cured(0) of 1", hall.cured(0), 1);
        for (int i : new int[] {-1, 1, 2, Integer.MIN_VALUE, Integer.MAX_VALUE}) {
            CHECK.due("cured(" + i + ") of 1", hall.cured(i), -1);
        }
    }

    /** By the second model: the most STATES of all that are looked at, if these places were the least CURE. */
    private static int most(String text, Integer... least) {
        Oracle oracle = Oracle.of(text);
        List<Integer> places = oracle.places();
        int most = oracle.states(true, false);
        for (int a : places) {
            most = Math.max(most, oracle.states(true, false, a));
            if (List.of(a).equals(List.of(least))) {
                return most;
            }
        }
        for (int a : places) {
            for (int b : places.subList(places.indexOf(a) + 1, places.size())) {
                most = Math.max(most, oracle.states(true, false, a, b));
                if (List.of(a, b).equals(List.of(least))) {
                    return most;
                }
            }
        }
        return -1;
    }
}
