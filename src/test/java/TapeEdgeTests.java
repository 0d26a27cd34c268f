/** The edges of promises 1 to 6: a new object, feed, back, read, place, ins; and of an object's 512 calls. */
public final class TapeEdgeTests {
    private static final Check CHECK = new Check();
    private static final int[] ANY = {Integer.MIN_VALUE, -2, -1, 0, 1, 2, 3, 9, 10, Integer.MAX_VALUE};

    public static void main(String[] args) {
        noProgram();
        emptyTape();
        orderOfBytes();
        bytesOfEveryKind();
        fullTape();
        behindBack();
        tapeIsEmptyThen();
        numbersOfFaults();
        places();
        theProgram();
        nothingIsLeftOver();
        insOfOthers();
        insWithoutParts();
        call512();
        CHECK.end();
    }

    private static void noProgram() {
        CHECK.sentence("LitmusHall(): No PROGRAM");
        LitmusHall hall = new LitmusHall();
        for (int n : ANY) {
            CHECK.due("ins", hall.ins(n, 0, 0), -1);
            CHECK.due("ins", hall.ins(0, 0, n), -1);
            CHECK.due("begin(" + n + ")", hall.begin(n), false);
            CHECK.due("step(" + n + ")", hall.step(n), false);
            CHECK.due("register", hall.register(n, 0), 0);
            CHECK.due("memory", hall.memory(n), 0);
            CHECK.due("next", hall.next(n), -1);
            CHECK.due("store", hall.store(0, n, 0), -1);
            CHECK.due("outcomes(" + n + ")", hall.outcomes(n), -1);
            CHECK.due("outcome", hall.outcome(n, 0, 0), 0);
            CHECK.due("outcome", hall.outcome(1, n, 0), 0);
            CHECK.due("schedule", hall.schedule(n, 0, 0), -1);
            CHECK.due("schedule", hall.schedule(1, 0, n), -1);
            CHECK.due("more(" + n + ")", hall.more(n), -1);
            CHECK.due("racer(" + n + ")", hall.racer(n), -1);
            CHECK.due("cure(" + n + ")", hall.cure(n), -1);
            CHECK.due("cured(" + n + ")", hall.cured(n), -1);
            CHECK.due("count(" + n + ")", hall.count(n), n < 0 || n > 9 ? -1 : 0);
        }
        CHECK.due("undo", hall.undo(), false);
        CHECK.due("race", hall.race(), -1);
        CHECK.due("place", hall.place(), -1);
        // A text with a FAULT is none either.
        CHECK.due("read", hall.read(), 1);
        CHECK.due("race behind it", hall.race(), -1);
        CHECK.due("outcomes(1) behind it", hall.outcomes(1), -1);
        CHECK.due("begin(1) behind it", hall.begin(1), false);
    }

    private static void emptyTape() {
        CHECK.sentence("LitmusHall(): an empty tape");
        LitmusHall hall = new LitmusHall();
        CHECK.due("count(9)", hall.count(9), 0);
        CHECK.due("back(1)", hall.back(1), -1);
        CHECK.due("back(0)", hall.back(0), 0);
        CHECK.due("feed", hall.feed(0, 0, 0, 0, 0), 20);
        CHECK.due("of one hall alone", new LitmusHall().count(9), 0);
    }

    private static void orderOfBytes() {
        CHECK.sentence("feed: Twenty bytes, the highest of a first, come behind the tape");
        String text = "core:store 3 c;end  ";
        int[] words = new int[5];
        for (int i = 0; i < 5; i++) {
            words[i] = Check.word(text, 4 * i);
        }
        CHECK.due("the first", words[0], 0x636f7265);
        // A byte that is none in each of the twenty places, behind twenty blanks.
        for (int at = 0; at < 20; at++) {
            int[] fed = new int[5];
            for (int i = 0; i < 20; i++) {
                fed[i / 4] |= (i == at ? 0xfe : 32) << (8 * (3 - i % 4));
            }
            LitmusHall hall = new LitmusHall();
            CHECK.due("feed of blanks", hall.feed(0x20202020, 0x20202020, 0x20202020, 0x20202020, 0x20202020), 20);
            CHECK.due("feed", hall.feed(fed[0], fed[1], fed[2], fed[3], fed[4]), 40);
            CHECK.due("read", hall.read(), 1);
            CHECK.due("place", hall.place(), 20 + at);
        }
        LitmusHall hall = new LitmusHall();
        CHECK.due("feed of a text", hall.feed(words[0], words[1], words[2], words[3], words[4]), 20);
        CHECK.due("read of it", hall.read(), 0);
        CHECK.due("its CELL", hall.ins(0, 0, 1), 3);
        CHECK.due("its REG", hall.ins(0, 0, 3), 2);
    }

    private static void bytesOfEveryKind() {
        CHECK.sentence("feed: bytes of every kind come, also those above 127");
        for (int b = 128; b < 256; b++) {
            LitmusHall hall = new LitmusHall();
            CHECK.due("feed", hall.feed(0x636f7265, 0x3a656e64, b << 24 | 0x202020, 0x20202020, 0x20202020), 20);
            CHECK.due("read with byte " + b, hall.read(), 1);
            CHECK.due("place of byte " + b, hall.place(), 8);
        }
    }

    private static void fullTape() {
        CHECK.sentence("feed: how many it has. NONE, and nothing comes, if it would have more than 4,000");
        LitmusHall hall = new LitmusHall();
        for (int n = 1; n <= 200; n++) {
            CHECK.due("feed " + n, hall.feed(0x20202020, 0x20202020, 0x20202020, 0x20202020, 0x20202020), 20 * n);
        }
        CHECK.due("feed at 4,000", hall.feed(0, 0, 0, 0, 0), -1);
        CHECK.due("count(9)", hall.count(9), 4000);
        CHECK.due("back(19)", hall.back(19), 3981);
        CHECK.due("feed at 3,981", hall.feed(0, 0, 0, 0, 0), -1);
        CHECK.due("count(9)", hall.count(9), 3981);
        CHECK.due("back(1)", hall.back(1), 3980);
        CHECK.due("feed at 3,980", hall.feed(0x20202020, 0x20202020, 0x20202020, 0x20202020, 0x20202020), 4000);
        CHECK.due("read of blanks: none of the refused came", hall.read(), 1);
        CHECK.due("place of their end", hall.place(), 4000);
        CHECK.due("feed behind it", hall.feed(0, 0, 0, 0, 0), 20);
    }

    private static void behindBack() {
        CHECK.sentence("back: The last n bytes of the tape go");
        LitmusHall hall = new LitmusHall();
        Check.feed(hall, "core:fence;end core:zz");
        CHECK.due("back(2)", hall.back(2), 20);
        CHECK.due("back(0)", hall.back(0), 20);
        Check.feed(hall, "load a 3;end");
        CHECK.due("count(9)", hall.count(9), 32);
        CHECK.due("read", hall.read(), 0);
        CHECK.due("INS in all", hall.count(1), 2);
        Check.feed(hall, "core:end");
        CHECK.due("back(9): not so many", hall.back(9), -1);
        CHECK.due("back(-1)", hall.back(-1), -1);
        CHECK.due("back(8)", hall.back(8), 0);
        CHECK.due("read of none", hall.read(), 1);
        CHECK.due("place", hall.place(), 0);
    }

    private static void tapeIsEmptyThen() {
        CHECK.sentence("read: The tape, which is empty then, is read");
        String[] texts = {"core:end", "core:en", "core:end core:end core:end core:end", "core:load a 4;end"};
        for (int fault = 0; fault < 4; fault++) {
            LitmusHall hall = new LitmusHall();
            Check.feed(hall, texts[fault]);
            CHECK.due("read", hall.read(), fault);
            CHECK.due("count(9)", hall.count(9), 0);
            CHECK.due("back(1)", hall.back(1), -1);
            Check.feed(hall, "core:fence;end");
            CHECK.due("count(9) of a new text", hall.count(9), 14);
            CHECK.due("read of a new text", hall.read(), 0);
            CHECK.due("its INS", hall.count(1), 1);
            CHECK.due("read of none", hall.read(), 1);
        }
    }

    private static void numbersOfFaults() {
        CHECK.sentence("read: 0, or the number of its FAULT");
        CHECK.text("core:end", 0, -1);
        CHECK.text("core:end:", 1, 8);
        CHECK.text("core:end core:end core:end core:end", 2, 27);
        CHECK.text("core:store 4 1;end", 3, 11);
    }

    private static void places() {
        CHECK.sentence("place: The byte of the latest read()'s FAULT; NONE without");
        LitmusHall hall = new LitmusHall();
        CHECK.due("without a read()", hall.place(), -1);
        Check.feed(hall, "core:store 4 1;end");
        CHECK.due("still without", hall.place(), -1);
        hall.read();
        CHECK.due("of a FAULT", hall.place(), 11);
        Check.feed(hall, "core:");
        hall.back(1);
        hall.begin(1);
        hall.cure(2);
        CHECK.due("still the latest", hall.place(), 11);
        hall.read();
        CHECK.due("of another FAULT", hall.place(), 4);
        Check.feed(hall, "core:end");
        hall.read();
        CHECK.due("without a FAULT", hall.place(), -1);
        hall.read();
        CHECK.due("of an empty text", hall.place(), 0);
    }

    private static void theProgram() {
        CHECK.sentence("Else it is the PROGRAM: .. MEMORY has the INTS told, 0 in other CELLS; nothing is explored, no machine stands");
        LitmusHall hall = Check.hall("cell 0=9;cell 1=8;cell 2=7;cell 3=6;core:store 0 1;load a 1;set b 3;end "
            + "core:store 1 1;load a 0;end core:set c 5;end");
        CHECK.due("outcomes(1)", hall.outcomes(1) > 1, true);
        CHECK.due("outcomes(0)", hall.outcomes(0) > 1, true);
        CHECK.due("race()", hall.race(), 1);
        CHECK.due("cure(2)", hall.cure(2), 2);
        CHECK.due("begin(1)", hall.begin(1), true);
        CHECK.due("step(0)", hall.step(0), true);
        Check.feed(hall, "cell 2=-4;core:set a 1;end");
        CHECK.due("read", hall.read(), 0);
        CHECK.due("no machine: count(6)", hall.count(6), 0);
        CHECK.due("no machine: next(0)", hall.next(0), -1);
        CHECK.due("no machine: step(0)", hall.step(0), false);
        CHECK.due("no machine: undo()", hall.undo(), false);
        CHECK.due("no machine: store", hall.store(0, 0, 0), -1);
        CHECK.due("CORES", hall.count(0), 1);
        CHECK.due("INS", hall.count(1), 1);
        CHECK.due("places", hall.count(8), 0);
        CHECK.due("ins(0, 1, 0)", hall.ins(0, 1, 0), -1);
        CHECK.due("ins(1, 0, 0)", hall.ins(1, 0, 0), -1);
        CHECK.due("race() anew", hall.race(), 0);
        CHECK.due("cure(0) anew", hall.cure(0), 0);
        for (int mode = 0; mode < 2; mode++) {
            CHECK.due("STATES anew", hall.count(2 + mode), 2);
            CHECK.due("outcomes anew", hall.outcomes(mode), 1);
            int[] want = {1, 0, 0, 0, 0, 0, 0, 0, 0, 0, 0, -4, 0};
            for (int i = 0; i < 13; i++) {
                CHECK.due("outcome(" + mode + ", 0, " + i + ") anew", hall.outcome(mode, 0, i), want[i]);
            }
        }
    }

    // Two PROGRAMS ahead, and a text with a FAULT: what holds a text may be used again for the next or the one behind it.
    private static LitmusHall used(String ahead, String text) {
        LitmusHall hall = Check.hall(ahead);
        for (String one : new String[] {ahead, ahead + " zz", text}) {
            Check.feed(hall, one);
            hall.read();
        }
        return hall;
    }

    private static void nothingIsLeftOver() {
        CHECK.sentence("MEMORY has the INTS told, 0 in other CELLS (whatever was told ahead)");
        LitmusHall hall = used("cell 0=1;cell 1=2;cell 2=3;cell 3=4;core:end", "cell 2=7;core:end");
        hall.begin(1);
        for (int c = 0; c < 4; c++) {
            CHECK.due("memory(" + c + ")", hall.memory(c), c == 2 ? 7 : 0);
        }
        CHECK.sentence("a CELL told by 'cell' already (in this text)");
        CHECK.due("place", used("cell 0=1;core:end", "cell 0=2;core:end").place(), -1);
        CHECK.sentence("CORES and their INS are numbered from 0 on (whatever was ahead)");
        hall = used("core:fence;fence;end core:fence;end core:fence;end", "core:fence;end core:end");
        CHECK.due("count(0)", hall.count(0), 2);
        CHECK.due("count(1)", hall.count(1), 1);
        CHECK.due("ins(0, 1, 0)", hall.ins(0, 1, 0), -1);
        CHECK.due("ins(1, 0, 0)", hall.ins(1, 0, 0), -1);
        CHECK.due("ins(2, 0, 0)", hall.ins(2, 0, 0), -1);
        CHECK.sentence("that of another CORE w (an INS of the PROGRAM ahead is none)");
        hall = used("core:store 1 1;load a 0;end core:set a 1;store 0 1;end", "core:store 1 1;load a 0;end core:set a 1;end");
        CHECK.due("race()", hall.race(), 0);
        hall = used("core:store 1 1;load a 0;end core:store 0 1;end", "core:store 1 1;end core:store 0 1;end");
        CHECK.due("race()", hall.race(), 0);
    }

    private static void insOfOthers() {
        CHECK.sentence("ins: NONE for others");
        LitmusHall hall = Check.hall("core:" + "inc c 3 2;".repeat(6) + "end core:end core:inc c 3 2;end");
        int[] want = {6, 3, 2, -1, 2, -1, 0, 0};
        for (int what = 0; what < 8; what++) {
            CHECK.due("the first INS", hall.ins(0, 0, what), want[what]);
            CHECK.due("the last INS", hall.ins(0, 5, what), want[what]);
            CHECK.due("the last CORE's", hall.ins(2, 0, what), want[what]);
            CHECK.due("INS -1", hall.ins(0, -1, what), -1);
            CHECK.due("INS 6 of 6", hall.ins(0, 6, what), -1);
            CHECK.due("INS 0 of none", hall.ins(1, 0, what), -1);
            CHECK.due("INS 1 of 1", hall.ins(2, 1, what), -1);
            CHECK.due("CORE -1", hall.ins(-1, 0, what), -1);
            CHECK.due("CORE 3 of 3", hall.ins(3, 0, what), -1);
            CHECK.due("CORE 1 of 1", Check.hall("core:fence;end").ins(1, 0, what), -1);
        }
        for (int what : new int[] {-1, 8, 9, Integer.MIN_VALUE, Integer.MAX_VALUE}) {
            CHECK.due("what " + what, hall.ins(0, 0, what), -1);
        }
    }

    private static void insWithoutParts() {
        CHECK.sentence("ins: its CELL (NONE without); its first REG (NONE without; of a store none); .. (0 of others)");
        String[] inses = {"load b 1", "store 2 c", "store 3 -8", "set c 7", "set a b", "add b -1", "add a c", "fence",
            "swap c 2", "inc b 1 a", "inc a 3 -9", "cas c 0 a b", "cas b 1 -2 3", "cas a 2 4 c", "cas a 3 b 5",
            "if c skip 0"};
        int[][] want = {{0, 1, 1, -1, 0, -1, 0, 0}, {1, 2, -1, 2, 0, -1, 0, 0}, {1, 3, -1, -1, -8, -1, 0, 0},
            {2, -1, 2, -1, 7, -1, 0, 0}, {2, -1, 0, 1, 0, -1, 0, 0}, {3, -1, 1, -1, -1, -1, 0, 0},
            {3, -1, 0, 2, 0, -1, 0, 0}, {4, -1, -1, -1, 0, -1, 0, 0}, {5, 2, 2, -1, 0, -1, 0, 0},
            {6, 1, 1, 0, 0, -1, 0, 0}, {6, 3, 0, -1, -9, -1, 0, 0}, {7, 0, 2, 0, 0, 1, 0, 0},
            {7, 1, 1, -1, -2, -1, 3, 0}, {7, 2, 0, -1, 4, 2, 0, 0}, {7, 3, 0, 1, 0, -1, 5, 0},
            {8, -1, 2, -1, 0, -1, 0, 0}};
        for (int n = 0; n < inses.length; n++) {
            LitmusHall hall = used("core:cas c 3 9 9;if c skip 1;cas c 3 9 9;end", "core:" + inses[n] + ";" + inses[n] + ";end");
            for (int what = 0; what < 8; what++) {
                CHECK.due("ins(0, 0, " + what + ") of " + inses[n], hall.ins(0, 0, what), want[n][what]);
                CHECK.due("ins(0, 1, " + what + ") of " + inses[n], hall.ins(0, 1, what), want[n][what]);
            }
        }
        CHECK.sentence("ins 7: how many a skip leaves out");
        for (int skip = 0; skip < 6; skip++) {
            LitmusHall hall = Check.hall("core:if a skip " + skip + ";" + "fence;".repeat(5) + "end");
            CHECK.due("skip " + skip, hall.ins(0, 0, 7), skip);
        }
    }

    private static void call512() {
        CHECK.sentence("An object is used for at most 512 calls after it has been made");
        LitmusHall hall = new LitmusHall();
        for (int n = 0; n < 199; n++) {
            hall.feed(0x20202020, 0x20202020, 0x20202020, 0x20202020, 0x20202020);
        }
        CHECK.due("call 200", hall.feed(0x636f7265, 0x3a73746f, 0x72652032, 0x20333b20, 0x20656e64), 4000);
        CHECK.due("call 201", hall.read(), 0);
        CHECK.due("call 202", hall.begin(1), true);
        for (int n = 203; n < 509; n += 2) {
            CHECK.due("call " + n, hall.step(0), true);
            CHECK.due("call " + (n + 1), hall.undo(), true);
        }
        CHECK.due("call 509", hall.step(0), true);
        CHECK.due("call 510", hall.step(3), true);
        CHECK.due("call 511", hall.count(7), 1);
        CHECK.due("call 512", hall.memory(2), 3);
    }
}
