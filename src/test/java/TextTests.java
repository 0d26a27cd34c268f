/** Promises 1 to 6: a new object, feed, back, read, place, ins. */
public final class TextTests {
    private static final Check CHECK = new Check();

    public static void main(String[] args) {
        newObject();
        feedAndBack();
        goodTexts();
        syntaxFaults();
        roomFaults();
        lateFaults();
        aFaultChangesNothing();
        partsOfIns();
        CHECK.end();
    }

    private static void newObject() {
        LitmusHall hall = new LitmusHall();
        CHECK.due("new: count(9)", hall.count(9), 0);
        CHECK.due("new: count(0)", hall.count(0), 0);
        CHECK.due("new: place()", hall.place(), -1);
        CHECK.due("new: ins(0, 0, 0)", hall.ins(0, 0, 0), -1);
        CHECK.due("new: begin(0)", hall.begin(0), false);
        CHECK.due("new: NONE", LitmusHall.NONE, -1);
        CHECK.due("new: back(0)", hall.back(0), 0);
        CHECK.due("new: back(1)", hall.back(1), -1);
    }

    private static void feedAndBack() {
        LitmusHall hall = new LitmusHall();
        for (int n = 1; n <= 200; n++) {
            CHECK.due("feed " + n, hall.feed(0x20202020, 0x20202020, 0x20202020, 0x20202020, 0x20202020), 20 * n);
        }
        CHECK.due("feed above 4,000", hall.feed(0, 0, 0, 0, 0), -1);
        CHECK.due("count(9) behind it", hall.count(9), 4000);
        CHECK.due("back(19)", hall.back(19), 3981);
        CHECK.due("feed that would make 4,001", hall.feed(0, 0, 0, 0, 0), -1);
        CHECK.due("back(1)", hall.back(1), 3980);
        CHECK.due("feed that makes 4,000", hall.feed(0, 0, 0, 0, 0), 4000);
        CHECK.due("back(4001)", hall.back(4001), -1);
        CHECK.due("back(-1)", hall.back(-1), -1);
        CHECK.due("back(the least int)", hall.back(Integer.MIN_VALUE), -1);
        CHECK.due("back(20)", hall.back(20), 3980);
        CHECK.due("read of blanks", hall.read(), 1);
        CHECK.due("place of blanks", hall.place(), 3980);
        CHECK.due("tape behind read", hall.count(9), 0);
        CHECK.due("order of bytes", hall.feed(0x636f7265, 0x3a656e64, 0x20202020, 0x20202020, 0x20202021), 20);
        CHECK.due("read of '!'", hall.read(), 1);
        CHECK.due("place of '!'", hall.place(), 19);
    }

    private static void text(String text, int fault, int place) {
        CHECK.text(text, fault, place);
    }

    private static void goodTexts() {
        text("core:end", 0, -1);
        text("\t\n\r core \t: end\r\n", 0, -1);
        text("core:end core:endcore:end", 1, 14);
        text("core:end core:end core:end", 0, -1);
        text("cell 0=1;cell 3=-999;cell002 = - 0;core:end", 0, -1);
        text("core:load a0;load b003;store 0-1;store 1c;set a b;set c -7;end", 0, -1);
        text("core:add a a;fence;swap a 3;inc b 2 c;cas c 1 a -5;if a skip 0;end", 0, -1);
        text("core:if a skip 5;fence;fence;fence;fence;fence;end", 0, -1);
        text("core:if a skip 002;fence;fence;end", 0, -1);
    }

    private static void syntaxFaults() {
        text("", 1, 0);
        text("   ", 1, 3);
        text("core", 1, 4);
        text("core: ", 1, 6);
        text("core:fence", 1, 10);
        text("core:fence;", 1, 11);
        text("end", 1, 0);
        text("core:end;", 1, 8);
        text("core:end end", 1, 9);
        text("core:end cell 0=1;", 1, 9);
        text("Core:end", 1, 0);
        text("core:fences;end", 1, 5);
        text("core:abcdefgh;end", 1, 5);
        text("core:abcdefghi;end", 1, 5);
        text("core:fencefence;end", 1, 5);
        text("core:set a 1000;end", 1, 11);
        text("core:set a 0001;end", 1, 11);
        text("core:set a --1;end", 1, 12);
        text("core:set a -b;end", 1, 12);
        text("core:set d 1;end", 1, 9);
        text("core:set 1 a;end", 1, 9);
        text("core:load a b;end", 1, 12);
        text("core:load a -1;end", 1, 12);
        text("core:store a 1;end", 1, 11);
        text("core:if a skip -1;end", 1, 15);
        text("core:if a skip b;end", 1, 15);
        text("core:if a 1;end", 1, 10);
        text("core:if 1 skip 1;end", 1, 8);
        text("core:cas a 1 2;end", 1, 14);
        text("core:inc a 1;end", 1, 12);
        text("core:swap a 1 1;end", 1, 14);
        text("core:fence a;end", 1, 11);
        text("cell 0=a;core:end", 1, 7);
        text("cell a=1;core:end", 1, 5);
        text("cell -1=1;core:end", 1, 5);
        text("cell 0 1;core:end", 1, 7);
        text("cell 0=1 core:end", 1, 9);
        text("cell 0=1;", 1, 9);
        text("core;end", 1, 4);
        text("core:end.", 1, 8);
        text("core:end\u0000", 1, 8);
        text("core:end\u00ff", 1, 8);
        text("core:end\u000b", 1, 8);
    }

    private static void roomFaults() {
        String six = "fence;".repeat(6);
        text("core:" + six + "end", 0, -1);
        text("core:" + six + "fence;end", 2, 41);
        text("core:" + six + "if", 2, 41);
        text("core:" + six + "foo", 1, 41);
        text("core:" + six + "core:end", 1, 41);
        text("core:" + six, 1, 41);
        text("core:end core:" + six + " load a 0;end", 2, 51);
        text("core:end core:end core:end core:end", 2, 27);
        text("core:end core:end core:end core", 2, 27);
        text("core:end core:end core:end end", 1, 27);
        text("core:end core:end core:end cell", 1, 27);
        // A hundred lines of five TOKENS: the 501st comes behind them.
        String lines = "cell 0=1;".repeat(100);
        text(lines + "core:end", 2, 900);
        text(lines + "cell 0=1;", 2, 900);
        text(lines + "end", 1, 900);
        text(lines + "?", 1, 900);
        text(lines + "abcdefghi", 1, 900);
        text(lines, 1, 900);
        text(lines + "  ", 1, 902);
        text("cell 0=1;".repeat(99) + "core:end core", 1, 904);
        text("cell 0=1;".repeat(99) + "core:end", 3, 14);
        text("cell 0=1;".repeat(98) + "cell 0=-1;core:end", 3, 14);
        text("cell 0=1;".repeat(98) + "core:end core:end core:end core", 2, 909);
        text("cell 0=1;".repeat(99) + "core:fence;end", 3, 14);
        text("cell 0=1;".repeat(99) + "core:fence;;", 1, 902);
        text("cell 0=-1;".repeat(82) + "core:fence;fence;end", 3, 15);
        text("cell 0=-1;".repeat(82) + "core:fence;fence;fence;end", 2, 843);
    }

    private static void lateFaults() {
        text("cell 4=1;core:end", 3, 5);
        text("cell 999=1;core:end", 3, 5);
        text("cell 1=1;cell 01=1;core:end", 3, 14);
        text("cell 7=1;cell 7=1;core:end", 3, 5);
        text("core:load a 4;end", 3, 12);
        text("core:store 4 1;end", 3, 11);
        text("core:swap a 4;end", 3, 12);
        text("core:inc a 4 1;end", 3, 11);
        text("core:cas a 4 1 1;end", 3, 11);
        text("core:if a skip 1;end", 3, 15);
        text("core:if a skip 2;fence;end core:fence;end", 3, 15);
        text("core:if a skip 2;load a 9;end", 3, 15);
        text("core:load a 9;if a skip 2;end", 3, 12);
        text("core:if a skip 0;if a skip 999;end", 3, 27);
        text("core:fence;fence;fence;fence;fence;if a skip 1;end", 3, 45);
        text("core:load a 9;end core:", 1, 23);
        text("core:load a 9;end core:end core:end core:end", 2, 36);
    }

    private static void aFaultChangesNothing() {
        LitmusHall hall = Check.hall("cell 0=5;core:load a 0;end");
        hall.begin(1);
        hall.step(0);
        Check.feed(hall, "cell 0=6;core:load a 0;end core:load a 7;end");
        CHECK.due("read with a FAULT", hall.read(), 3);
        CHECK.due("its place", hall.place(), 39);
        CHECK.due("CORES as ahead of it", hall.count(0), 1);
        CHECK.due("the machine as ahead of it", hall.register(0, 0), 5);
        CHECK.due("its steps", hall.count(6), 1);
        CHECK.due("its OUTCOME", hall.outcome(0, 0, 9), 5);
        Check.feed(hall, "core:end");
        CHECK.due("read without one", hall.read(), 0);
        CHECK.due("no place", hall.place(), -1);
        CHECK.due("no machine", hall.next(0), -1);
        CHECK.due("no step", hall.step(0), false);
        CHECK.due("no steps", hall.count(6), 0);
        CHECK.due("MEMORY is told anew", hall.outcome(0, 0, 9), 0);
        CHECK.due("empty tape again", hall.read(), 1);
        CHECK.due("at its begin", hall.place(), 0);
    }

    private static void partsOfIns() {
        LitmusHall hall = Check.hall("core:load b 3;store 2 c;set c -9;add a b;fence;swap c 1;end"
            + " core:inc a 0 7;cas b 1 -2 c;cas c 3 a 8;if b skip 2;store 0 -3;fence;end");
        parts(hall, 0, 0, 0, 3, 1, -1, 0, -1, 0, 0);
        parts(hall, 0, 1, 1, 2, -1, 2, 0, -1, 0, 0);
        parts(hall, 0, 2, 2, -1, 2, -1, -9, -1, 0, 0);
        parts(hall, 0, 3, 3, -1, 0, 1, 0, -1, 0, 0);
        parts(hall, 0, 4, 4, -1, -1, -1, 0, -1, 0, 0);
        parts(hall, 0, 5, 5, 1, 2, -1, 0, -1, 0, 0);
        parts(hall, 1, 0, 6, 0, 0, -1, 7, -1, 0, 0);
        parts(hall, 1, 1, 7, 1, 1, -1, -2, 2, 0, 0);
        parts(hall, 1, 2, 7, 3, 2, 0, 0, -1, 8, 0);
        parts(hall, 1, 3, 8, -1, 1, -1, 0, -1, 0, 2);
        parts(hall, 1, 4, 1, 0, -1, -1, -3, -1, 0, 0);
        parts(hall, 1, 5, 4, -1, -1, -1, 0, -1, 0, 0);
        int[][] others = {{-1, 0}, {2, 0}, {0, -1}, {0, 6}, {3, 0}, {Integer.MAX_VALUE, 0}, {0, Integer.MIN_VALUE}};
        for (int[] other : others) {
            for (int what = -1; what < 9; what++) {
                CHECK.due("ins of others", hall.ins(other[0], other[1], what), -1);
            }
        }
        CHECK.due("ins(0, 0, -1)", hall.ins(0, 0, -1), -1);
        CHECK.due("ins(0, 0, 8)", hall.ins(0, 0, 8), -1);
    }

    private static void parts(LitmusHall hall, int k, int i, int... want) {
        for (int what = 0; what < want.length; what++) {
            CHECK.due("ins(" + k + ", " + i + ", " + what + ")", hall.ins(k, i, what), want[what]);
        }
    }
}
