/** Promises 14 to 22: outcomes, outcome, schedule, more, race, racer, cure, cured, count. */
public final class FindingTests {
    private static final Check CHECK = new Check();

    private static final String CROSSED = "core:store 0 1;load a 1;end core:store 1 1;load a 0;end";
    // 3 stores, 4 stores, 4 stores and a set: 10 * 15 * 20 STATES with ROWS.
    private static final String JUST_3000 = "core:store 0 1;store 0 1;store 0 1;end "
        + "core:store 1 1;store 1 1;store 1 1;store 1 1;end "
        + "core:store 2 1;store 2 1;store 2 1;store 2 1;set a 1;end";
    // 21 * 11 * 13 STATES with ROWS.
    private static final String JUST_3003 = "core:store 0 1;store 0 1;store 0 1;store 0 1;store 0 1;end "
        + "core:store 1 1;set a 1;set a 2;set a 3;set a 4;end "
        + "core:store 2 1;set a 1;set a 2;set a 3;set a 4;set a 5;end";
    private static final String FULL_WITHOUT = ("core:" + "inc a 0 1;inc b 0 1;inc c 0 1;".repeat(2) + "end ").repeat(3);

    public static void main(String[] args) {
        withoutProgram();
        wrongArguments();
        crossed();
        orderIsOfInts();
        schedules();
        fullWithRows();
        fullWithout();
        races();
        racesThatAreNone();
        raceIsTheFirst();
        cures();
        curesAndSkips();
        curedIsTheLatest();
        curesThatAreFull();
        counts();
        CHECK.end();
    }

    private static void withoutProgram() {
        LitmusHall hall = new LitmusHall();
        for (int n = -1; n < 4; n++) {
            CHECK.due("no PROGRAM: outcomes", hall.outcomes(n), -1);
            CHECK.due("no PROGRAM: outcome", hall.outcome(n, 0, 0), 0);
            CHECK.due("no PROGRAM: schedule", hall.schedule(n, 0, 0), -1);
            CHECK.due("no PROGRAM: more", hall.more(n), -1);
            CHECK.due("no PROGRAM: racer", hall.racer(n), -1);
            CHECK.due("no PROGRAM: cure", hall.cure(n), -1);
            CHECK.due("no PROGRAM: cured", hall.cured(n), -1);
        }
        CHECK.due("no PROGRAM: race", hall.race(), -1);
        for (int what = -2; what < 13; what++) {
            CHECK.due("no PROGRAM: count(" + what + ")", hall.count(what), what < 0 || what > 9 ? -1 : 0);
        }
    }

    private static void wrongArguments() {
        LitmusHall hall = Check.hall("cell 0=3;core:set a 4;end");
        int[] wrong = {-1, 2, 3, 100, Integer.MIN_VALUE, Integer.MAX_VALUE};
        for (int n : wrong) {
            CHECK.due("outcomes(" + n + ")", hall.outcomes(n), -1);
            CHECK.due("outcome(" + n + ", 0, 0)", hall.outcome(n, 0, 0), 0);
            CHECK.due("outcome(0, " + n + ", 0)", hall.outcome(0, n, 0), 0);
            CHECK.due("schedule(" + n + ", 0, 0)", hall.schedule(n, 0, 0), -1);
            CHECK.due("schedule(0, " + n + ", 0)", hall.schedule(0, n, 0), -1);
            CHECK.due("schedule(0, 0, " + n + ")", hall.schedule(0, 0, n), -1);
            CHECK.due("more(" + n + ")", hall.more(n), -1);
            CHECK.due("racer(" + n + ")", hall.racer(n), -1);
            CHECK.due("cured(" + n + ")", hall.cured(n), -1);
        }
        CHECK.due("outcome(0, 0, 0)", hall.outcome(0, 0, 0), 4);
        CHECK.due("outcome(0, 0, 9)", hall.outcome(0, 0, 9), 3);
        CHECK.due("outcome(0, 0, 13)", hall.outcome(0, 0, 13), 0);
        CHECK.due("outcome(0, 0, -1)", hall.outcome(0, 0, -1), 0);
        CHECK.due("outcome(0, 1, 0)", hall.outcome(0, 1, 0), 0);
        CHECK.due("cure(-1)", hall.cure(-1), -1);
        CHECK.due("cure(3)", hall.cure(3), -1);
        CHECK.due("cure(0)", hall.cure(0), 0);
    }

    private static void crossed() {
        LitmusHall hall = Check.hall(CROSSED);
        CHECK.due("more ahead of all else", hall.more(0), 0);
        CHECK.due("outcomes(1)", hall.outcomes(1), 4);
        CHECK.due("outcomes(0)", hall.outcomes(0), 3);
        CHECK.due("more(1)", hall.more(1), -1);
        LitmusHall fenced = Check.hall("core:store 0 1;fence;load a 1;end core:store 1 1;fence;load a 0;end");
        CHECK.due("fenced: outcomes(1)", fenced.outcomes(1), 3);
        CHECK.due("fenced: more(0)", fenced.more(0), -1);
        // A load of its own store does not wait for MEMORY: both may see their own ahead of the other's.
        LitmusHall own = Check.hall("core:store 0 1;load a 0;load b 1;end core:store 1 1;load a 1;load b 0;end");
        CHECK.due("own stores: outcomes(1)", own.outcomes(1), 4);
        CHECK.due("own stores: REG a", own.outcome(1, own.more(0), 0), 1);
        CHECK.due("own stores: REG b", own.outcome(1, own.more(0), 1), 0);
        CHECK.due("own stores: the other's b", own.outcome(1, own.more(0), 4), 0);
    }

    private static void orderIsOfInts() {
        LitmusHall hall = Check.hall("core:store 0 -2;store 0 -1;store 0 2;end core:load a 0;end core:swap c 3;end");
        CHECK.due("outcomes(0)", hall.outcomes(0), 4);
        int[] want = {-2, -1, 0, 2};
        for (int n = 0; n < 4; n++) {
            CHECK.due("OUTCOME " + n, hall.outcome(0, n, 3), want[n]);
            CHECK.due("OUTCOME " + n + ", with ROWS", hall.outcome(1, n, 3), want[n]);
        }
    }

    private static void schedules() {
        LitmusHall hall = Check.hall("core:store 0 1;end core:load a 0;end");
        path(hall, 0, 0, 1, 0);
        path(hall, 0, 1, 0, 1);
        path(hall, 1, 0, 0, 1, 3);
        path(hall, 1, 1, 0, 3, 1);
        LitmusHall none = Check.hall("core:end");
        CHECK.due("an empty PROGRAM has an OUTCOME", none.outcomes(1), 1);
        path(none, 1, 0);
        LitmusHall skipped = Check.hall("core:if a skip 1;set b 0;end core:store 1 0;set c 0;end");
        path(skipped, 0, 0, 0, 0, 1, 1);
        // The shortest, not the first: CORE 0 leaves three INS out when CORE 1's store has come.
        LitmusHall shorter = Check.hall("core:load a 0;if a skip 3;set b 1;set b 0;set b 0;set a 0;end core:store 0 1;end");
        path(shorter, 0, 0, 1, 0, 0, 0);
        LitmusHall longest = Check.hall(("core:" + "store 0 1;".repeat(6) + "end ").repeat(1));
        path(longest, 1, 0, 0, 0, 0, 0, 0, 0, 3, 3, 3, 3, 3, 3);
    }

    private static void path(LitmusHall hall, int mode, int n, int... want) {
        for (int i = 0; i < want.length; i++) {
            CHECK.due("schedule(" + mode + ", " + n + ", " + i + ")", hall.schedule(mode, n, i), want[i]);
        }
        CHECK.due("schedule behind the last", hall.schedule(mode, n, want.length), -1);
        CHECK.due("schedule ahead of the first", hall.schedule(mode, n, -1), -1);
    }

    private static void fullWithRows() {
        LitmusHall hall = Check.hall(JUST_3000);
        CHECK.due("3,000 STATES", hall.count(2), 3000);
        CHECK.due("are not FULL", hall.outcomes(1), 1);
        CHECK.due("more(0)", hall.more(0), -1);
        CHECK.due("cure(0)", hall.cure(0), 0);
        hall = Check.hall(JUST_3003);
        CHECK.due("more of them: outcomes(1)", hall.outcomes(1), -2);
        CHECK.due("outcomes(0)", hall.outcomes(0), 1);
        CHECK.due("count(2)", hall.count(2), -1);
        CHECK.due("count(4)", hall.count(4), -1);
        CHECK.due("count(3)", hall.count(3), 6 * 6 * 7);
        CHECK.due("count(5)", hall.count(5), 1);
        CHECK.due("outcome(1, 0, 9)", hall.outcome(1, 0, 9), 0);
        CHECK.due("outcome(0, 0, 9)", hall.outcome(0, 0, 9), 1);
        CHECK.due("schedule(1, 0, 0)", hall.schedule(1, 0, 0), -1);
        CHECK.due("schedule(0, 0, 0)", hall.schedule(0, 0, 0), 0);
        CHECK.due("more(0)", hall.more(0), -2);
        CHECK.due("race()", hall.race(), 0);
        for (int n = 0; n < 3; n++) {
            CHECK.due("cure(" + n + ")", hall.cure(n), -2);
        }
        CHECK.due("cure(3)", hall.cure(3), -1);
        Check.feed(hall, "core:end");
        hall.read();
        CHECK.due("a PROGRAM behind it", hall.outcomes(1), 1);
        CHECK.due("its STATES", hall.count(2), 1);
    }

    private static void fullWithout() {
        LitmusHall hall = Check.hall(FULL_WITHOUT);
        CHECK.due("outcomes(0)", hall.outcomes(0), -2);
        CHECK.due("outcomes(1)", hall.outcomes(1), -2);
        CHECK.due("count(3)", hall.count(3), -1);
        CHECK.due("count(5)", hall.count(5), -1);
        CHECK.due("outcome(0, 0, 9)", hall.outcome(0, 0, 9), 0);
        CHECK.due("schedule(0, 0, 0)", hall.schedule(0, 0, 0), -1);
        CHECK.due("more(0)", hall.more(0), -2);
        CHECK.due("race()", hall.race(), -2);
        CHECK.due("racer(0)", hall.racer(0), -1);
        CHECK.due("racer(3)", hall.racer(3), -1);
        CHECK.due("cure(0)", hall.cure(0), -2);
        CHECK.due("cured(0)", hall.cured(0), -1);
    }

    private static void race(String text, int... want) {
        LitmusHall hall = Check.hall(text);
        for (int what = 0; what < want.length; what++) {
            CHECK.due("racer(" + what + ") of " + text, hall.racer(what), want[what]);
        }
        CHECK.due("race of " + text, hall.race(), want.length == 0 ? 0 : 1);
        CHECK.due("racer behind the last of " + text, hall.racer(want.length), -1);
        CHECK.due("racer far behind of " + text, hall.racer(Integer.MAX_VALUE), -1);
        CHECK.due("racer(-1) of " + text, hall.racer(-1), -1);
    }

    private static void races() {
        race(CROSSED, 0, 1, 1, 0);
        race("core:store 1 1;end core:store 0 1;load a 1;end", 1, 0, 1, 1);
        for (String locked : new String[] {"swap a 1", "inc a 1 0", "cas a 1 9 9"}) {
            race("core:store 0 1;load a 1;end core:" + locked + ";end", 0, 1, 1, 0);
            race("core:store 0 1;" + locked.replace('1', '2') + ";store 3 1;load a 1;end core:store 1 1;end", 0, 1, 1, 0, 0, 0);
        }
        race("core:store 0 1;load a 2;end core:set a 1;store 2 1;end", 0, 1, 2, 0, 1);
        // r is the least of the STATE, then w.
        race("core:store 0 1;load a 2;end core:end core:store 1 1;store 2 1;load a 0;end", 0, 2, 2, 0, 2);
        race("core:store 2 1;end core:store 2 1;end core:store 0 1;load a 2;end", 2, 0, 2, 2);
    }

    private static void racesThatAreNone() {
        race("core:load a 0;end core:store 0 1;end");
        race("core:store 0 1;load a 0;end core:store 0 1;end");
        race("core:store 1 1;fence;load a 0;end core:store 0 1;end");
        race("core:store 1 1;swap a 1;load a 0;end core:store 0 1;end");
        race("core:store 1 1;inc a 1 1;load a 0;end core:store 0 1;end");
        race("core:store 1 1;cas a 1 5 5;load a 0;end core:store 0 1;end");
        race("core:store 1 1;load a 0;end core:load b 0;end");
        race("core:store 1 1;load a 0;end core:store 2 1;end");
        race("core:store 1 1;swap a 0;end core:store 0 1;end");
        race("core:store 1 1;load a 0;store 0 1;end");
        race("core:swap a 1;load a 0;end core:store 0 1;end");
        race("core:end");
    }

    private static void raceIsTheFirst() {
        // 2,885 STATES, but more than 3,000 with what was stored as part of them.
        LitmusHall hall = Check.hall("core:if a skip 1;load b 2;swap c 0;if b skip 2;load b 2;store 1 0;end "
            + "core:swap c 0;store 0 0;if b skip 1;inc a 0 1;inc b 2 1;swap c 2;end "
            + "core:store 1 0;store 0 2;load c 2;load c 2;store 2 0;swap a 1;end");
        CHECK.due("count(3)", hall.count(3), 2885);
        CHECK.due("race() with what was stored", hall.race(), -2);
        CHECK.due("racer(0) of it", hall.racer(0), -1);
        // Two cells stored to: the store to x itself does not count, the other does.
        race("core:store 1 1;store 0 1;load a 0;end core:store 0 2;end", 0, 1, 0, 0, 0);
        // The same MEMORY and REGS by a way with the store and by one without: only the way with it races.
        race("cell 3=1;core:load b 3;if b skip 1;store 1 0;load a 0;end core:store 3 0;store 0 1;end", 0, 1, 0, 1, 0, 0, 0);
    }

    private static void cure(String text, int most, int... want) {
        LitmusHall hall = Check.hall(text);
        CHECK.due("cure of " + text, hall.cure(most), want.length);
        for (int i = 0; i < want.length; i++) {
            CHECK.due("cured(" + i + ") of " + text, hall.cured(i), want[i]);
        }
        CHECK.due("cured behind the last of " + text, hall.cured(want.length), -1);
        CHECK.due("cured(-1) of " + text, hall.cured(-1), -1);
        for (int n = 0; n < most; n++) {
            CHECK.due("cure(" + n + ") of " + text, hall.cure(n), n >= want.length ? want.length : -1);
        }
    }

    private static void cures() {
        cure(CROSSED, 2, 1, 11);
        cure("core:store 0 1;load a 1;end core:store 1 1;fence;load a 0;end", 2, 1);
        cure("core:store 0 1;load a 1;end core:store 1 1;fence;load a 0;end", 1, 1);
        cure("core:store 0 1;fence;load a 1;end core:end core:store 1 1;set b 1;load a 0;end", 2, 21);
        cure("core:store 0 1;set b 1;load a 1;end core:set b 1;store 1 1;load a 0;end", 2, 1, 12);
        cure("core:store 0 1;swap b 3;load a 1;end core:store 1 1;swap b 3;load a 0;end", 2);
        cure("core:end", 2);
        cure("core:end core:end core:end", 1);
        LitmusHall three = Check.hall("core:store 0 1;load a 1;end core:store 1 1;load a 2;end core:store 2 1;load a 0;end");
        CHECK.due("three places would do", three.cure(2), -1);
        CHECK.due("three places would do", three.cure(1), -1);
        CHECK.due("no place", Check.hall(CROSSED).cure(0), -1);
    }

    private static void curesAndSkips() {
        // The skip leaves the first place out: a fence there is none for it; one right ahead of the load is done.
        cure("core:store 0 1;set b 1;if b skip 1;set c 1;load a 1;end core:store 1 1;fence;load a 0;end", 2, 1);
        cure("core:set b 1;store 0 1;if b skip 1;set c 1;load a 1;end core:store 1 1;fence;load a 0;end", 2, 2);
        cure("core:if b skip 1;store 0 1;load a 1;end core:store 1 1;fence;load a 0;end", 2, 2);
        // The load comes right behind the skip or right behind a store: only the place ahead of it will do.
        cure("cell 3=1;core:load b 3;store 0 1;if b skip 1;store 0 2;load a 1;end core:store 1 1;fence;load a 0;end "
            + "core:store 3 0;end", 2, 4);
        // A skip to the end leaves out all.
        cure("core:store 0 1;set b 1;if b skip 1;load a 1;end core:store 1 1;load a 0;end", 2);
    }

    private static void curedIsTheLatest() {
        LitmusHall hall = Check.hall(CROSSED);
        CHECK.due("cured ahead of a cure", hall.cured(0), -1);
        CHECK.due("cure(1)", hall.cure(1), -1);
        CHECK.due("cured behind NONE", hall.cured(0), -1);
        CHECK.due("cure(2)", hall.cure(2), 2);
        CHECK.due("cure(1)", hall.cure(1), -1);
        CHECK.due("cure(7)", hall.cure(7), -1);
        CHECK.due("cured(1) as told last", hall.cured(1), 11);
        Check.feed(hall, JUST_3003);
        hall.read();
        CHECK.due("cured(1) as told last, of the PROGRAM ahead", hall.cured(1), 11);
        CHECK.due("cure(2)", hall.cure(2), -2);
        CHECK.due("cured(1) behind FULL", hall.cured(1), 11);
        Check.feed(hall, "core:end");
        hall.read();
        CHECK.due("cure(2)", hall.cure(2), 0);
        CHECK.due("cured(0) behind 0", hall.cured(0), -1);
        CHECK.due("cured(1) behind 0", hall.cured(1), -1);
    }

    private static void curesThatAreFull() {
        // 2,784 STATES, but more than 3,000 with one fence put in.
        LitmusHall hall = Check.hall("core:store 1 2;set a 2;set a 1;load c 0;fence;store 2 1;end "
            + "core:store 1 2;store 0 2;store 2 2;end core:load a 1;load a 2;load c 2;store 2 1;load b 0;store 0 1;end");
        CHECK.due("count(2)", hall.count(2), 2784);
        CHECK.due("cure(2)", hall.cure(2), -2);
        CHECK.due("cure(1)", hall.cure(1), -2);
        CHECK.due("cure(0)", hall.cure(0), -1);
        CHECK.due("cure(1) again", hall.cure(1), -2);
        // With one fence it is not, with two it is.
        hall = Check.hall("core:fence;inc b 0 1;inc c 1 1;load c 2;add a 2;end core:store 1 2;load b 0;inc c 2 1;end "
            + "core:fence;store 2 1;add a 2;add a 2;load c 0;load b 1;end");
        CHECK.due("cure(1)", hall.cure(1), -1);
        CHECK.due("cure(2)", hall.cure(2), -2);
        CHECK.due("cure(1) again", hall.cure(1), -1);
    }

    private static void counts() {
        LitmusHall hall = Check.hall("core:store 0 1;set a 1;fence;end core:end core:set b 2;end");
        int[] want = {3, 4, 12, 8, 1, 1, 0, 0, 2, 0};
        for (int what = 0; what < 10; what++) {
            CHECK.due("count(" + what + ")", hall.count(what), want[what]);
        }
        CHECK.due("count(10)", hall.count(10), -1);
        CHECK.due("count(-1)", hall.count(-1), -1);
        CHECK.due("count(the greatest int)", hall.count(Integer.MAX_VALUE), -1);
        Check.feed(hall, "abc");
        CHECK.due("count(9)", hall.count(9), 3);
        hall.begin(1);
        hall.step(0);
        CHECK.due("count(6)", hall.count(6), 1);
        CHECK.due("count(7)", hall.count(7), 0);
        CHECK.due("exploring leaves the machine", hall.outcomes(1), 1);
        hall.race();
        hall.cure(2);
        CHECK.due("next(0)", hall.next(0), 1);
    }
}
