import java.util.List;

/** The edges of 'THE TEXT' in the document's Terms: each sentence with the last that is taken and the first that is not. */
public final class TextEdgeTests {
    private static final Check CHECK = new Check();
    // Every kind of INS, of REG, of VAL and of INT, and three CORES.
    private static final List<String> TOKENS = List.of(("cell 0 = 1 ; cell 3 = - 2 ; core : load a 0 ; store 1 b ; "
        + "store 1 - 7 ; set c 9 ; add b - 1 ; fence ; end core : swap c 2 ; inc a 3 b ; inc b 0 - 5 ; cas a 1 b c ; "
        + "cas c 2 - 3 4 ; if b skip 0 ; end core : end").split(" "));

    public static void main(String[] args) {
        bytesOfAText();
        blanks();
        blanksBetweenOrNot();
        longestTokens();
        words();
        numbers();
        numbersOfBytes();
        signs();
        everyTokenIsNeeded();
        wordsWithWhichNoTextGoesOn();
        ints();
        valsAndRegs();
        firstByItsPlace();
        ofOnePlaceTheLeast();
        token501();
        core4();
        ins7();
        cellsOutOfRange();
        cellsToldAlready();
        skips();
        lateOnesByTheirPlace();
        CHECK.end();
    }

    private static void bytesOfAText() {
        CHECK.sentence("THE TEXT of a program, at most 4,000 bytes");
        CHECK.text(" ".repeat(3992) + "core:end", 0, -1);
        CHECK.text("core:" + " ".repeat(3992) + "end", 0, -1);
        CHECK.text(" ".repeat(3991) + "core:end!", 1, 3999);
        CHECK.text(" ".repeat(3993) + "core:en", 1, 3998);
        CHECK.sentence("its place (a byte; the text's end: its length)");
        CHECK.text("", 1, 0);
        CHECK.text(" ", 1, 1);
        CHECK.text("core:", 1, 5);
        CHECK.text("core:   ", 1, 8);
        CHECK.text(" ".repeat(3999), 1, 3999);
        CHECK.text(" ".repeat(4000), 1, 4000);
        CHECK.text("!" + " ".repeat(3999), 1, 0);
    }

    private static void blanks() {
        CHECK.sentence("blanks (9, 10, 13, 32)");
        for (int b = 0; b < 256; b++) {
            boolean blank = b == 9 || b == 10 || b == 13 || b == 32;
            boolean letter = b >= 'a' && b <= 'z';
            int place = letter ? 0 : b == ':' ? 5 : 4;
            CHECK.text("core" + (char) b + ":end", blank ? 0 : 1, blank ? -1 : place);
            CHECK.text("core:end" + (char) b, blank ? 0 : 1, blank ? -1 : letter ? 5 : 8);
            CHECK.text((char) b + "core:end", blank ? 0 : 1, blank ? -1 : 0);
        }
    }

    private static void blanksBetweenOrNot() {
        CHECK.sentence("with blanks between or not");
        CHECK.text("cell0=-1;core:load a0;if a skip000;end", 0, -1);
        CHECK.text("cell 0 = - 1 ; core : load a 0 ; if a skip 0 ; end", 0, -1);
        CHECK.text("\r\n\t cell\t\t0\n=\r-\t1\n;core\r\n:load\ta\n0\r;if\ta\tskip\t0 ;\nend\n\n", 0, -1);
        CHECK.text("co re:end", 1, 0);
        CHECK.text("core:set a 1 2;end", 1, 13);
        CHECK.text("core:if a sk ip 0;end", 1, 10);
    }

    private static void longestTokens() {
        CHECK.sentence("TOKENS, the longest that can be");
        CHECK.text("core:endcore:end", 1, 5);
        CHECK.text("core:end core:end", 0, -1);
        CHECK.text("core:loada 0;end", 1, 5);
        CHECK.text("core:set ab;end", 1, 9);
        CHECK.text("core:set a b;end", 0, -1);
        CHECK.text("core:fenceend", 1, 5);
        CHECK.text("core:cas a 0 12;end", 1, 15);
        CHECK.text("core:cas a 0 1 2;end", 0, -1);
        CHECK.text("core:cas a 0 1-2;end", 0, -1);
        CHECK.text("core:cas a 012;end", 1, 14);
        CHECK.due("a NUMBER is not cut", Check.hall("core:set a12;end").ins(0, 0, 4), 12);
    }

    private static void words() {
        CHECK.sentence("WORDS (letters a .. z, at most 8) .. A longer one, all else, is no TOKEN");
        for (String word : new String[] {"z", "zz", "abcdefgh", "abcdefghi", "fencefence", "z".repeat(3000)}) {
            CHECK.text(word, 1, 0);
            CHECK.text("core:" + word, 1, 5);
            CHECK.text("core:end " + word, 1, 9);
        }
        for (String word : new String[] {"Core", "CORE", "corE", "`core", "{core", "core{", "core`"}) {
            CHECK.text(word + ":end", 1, word.startsWith("core") ? 4 : 0);
        }
        // What is read as a WORD is the whole of it, not its first letters.
        for (String word : new String[] {"loads", "stores", "storee", "sets", "adds", "fences", "swaps", "incs", "cass", "ifs"}) {
            CHECK.text("core:" + word + ";end", 1, 5);
        }
        for (String word : new String[] {"loa", "stor", "se", "ad", "fenc", "swa", "in", "ca", "i", "en", "l"}) {
            CHECK.text("core:" + word + ";end", 1, 5);
        }
    }

    private static void numbers() {
        CHECK.sentence("NUMBERS (1 to 3 digits) .. A longer one is no TOKEN");
        number("0", 0);
        number("9", 9);
        number("99", 99);
        number("999", 999);
        number("000", 0);
        number("007", 7);
        number("100", 100);
        for (String longer : new String[] {"1000", "0000", "0001", "9999", "12345678901234567890", "0".repeat(3000)}) {
            CHECK.text("core:set a " + longer + ";end", 1, 11);
            CHECK.text("core:set a -" + longer + ";end", 1, 12);
            CHECK.text("cell " + longer + "=0;core:end", 1, 5);
            CHECK.text("cell 0=" + longer + ";core:end", 1, 7);
            CHECK.text("core:load a " + longer + ";end", 1, 12);
            CHECK.text("core:if a skip " + longer + ";end", 1, 15);
        }
    }

    private static void number(String digits, int want) {
        LitmusHall hall = Check.hall("cell 0=" + digits + ";cell 1=-" + digits + ";core:set a " + digits + ";set b -" + digits + ";end");
        hall.begin(0);
        CHECK.due("told " + digits, hall.memory(0), want);
        CHECK.due("told -" + digits, hall.memory(1), -want);
        CHECK.due("set " + digits, hall.ins(0, 0, 4), want);
        CHECK.due("set -" + digits, hall.ins(0, 1, 4), -want);
    }

    private static void numbersOfBytes() {
        CHECK.sentence("NUMBERS (1 to 3 digits), of bytes '0' to '9' alone");
        for (int b = 0; b < 256; b++) {
            boolean blank = b == 9 || b == 10 || b == 13 || b == 32;
            boolean digit = b >= '0' && b <= '9';
            boolean taken = blank || digit;
            CHECK.text("core:set a 1" + (char) b + ";end", taken ? 0 : 1, taken ? -1 : b == ';' ? 13 : 12);
            boolean val = digit || b == 'a' || b == 'b' || b == 'c';
            boolean late = blank || b == '-';
            CHECK.text("core:set a " + (char) b + ";end", val ? 0 : 1, val ? -1 : late ? 12 : 11);
        }
        for (int digit = 0; digit < 10; digit++) {
            number(String.valueOf(digit), digit);
            number("1" + digit, 10 + digit);
            number(digit + "01", 100 * digit + 1);
        }
    }

    private static void signs() {
        CHECK.sentence("SIGNS : ; = - . .. all else, is no TOKEN");
        for (int b = 33; b < 127; b++) {
            char sign = (char) b;
            if (Character.isLetterOrDigit(sign)) {
                continue;
            }
            CHECK.text("cell 0" + sign + "1;core:end", sign == '=' ? 0 : 1, sign == '=' ? -1 : 6);
            CHECK.text("cell 0=1" + sign + "core:end", sign == ';' ? 0 : 1, sign == ';' ? -1 : 8);
            CHECK.text("cell 0=" + sign + "1;core:end", sign == '-' ? 0 : 1, sign == '-' ? -1 : 7);
            CHECK.text("core" + sign + "end", sign == ':' ? 0 : 1, sign == ':' ? -1 : 4);
        }
    }

    private static String joined(int tokens) {
        return String.join(" ", TOKENS.subList(0, tokens));
    }

    private static int placeOf(int token) {
        return token == 0 ? 0 : joined(token).length() + 1;
    }

    private static void everyTokenIsNeeded() {
        CHECK.sentence("1 SYNTAX: a TOKEN, or what is none, with which no text goes on");
        CHECK.text(joined(TOKENS.size()), 0, -1);
        boolean cores = false;
        for (int n = 0; n < TOKENS.size(); n++) {
            boolean whole = cores && TOKENS.get(n - 1).equals("end");
            cores |= TOKENS.get(n).equals("core");
            int place = placeOf(n);
            CHECK.text(joined(n), whole ? 0 : 1, whole ? -1 : joined(n).length());
            String rest = String.join(" ", TOKENS.subList(n, TOKENS.size()));
            for (String bad : new String[] {"zz", "?", "1000", "\u0000", "skipp"}) {
                CHECK.text(joined(n) + (n == 0 ? "" : " ") + bad + " " + rest, 1, place);
            }
        }
        for (String bad : new String[] {"zz", "?", "1", ";", ":", "=", "-", "a", "end", "skip", "cell", "load", "fence"}) {
            CHECK.text("core:end " + bad, 1, 9);
        }
    }

    private static void wordsWithWhichNoTextGoesOn() {
        CHECK.sentence("text: {'cell' CELL '=' INT ';'} CORE {CORE}. CORE: 'core' ':' {INS ';'} 'end'");
        CHECK.text("core:end", 0, -1);
        CHECK.text("cell 0=1;", 1, 9);
        CHECK.text("cell 0=1;end", 1, 9);
        CHECK.text("core:end cell 0=1;", 1, 9);
        CHECK.text("core:cell 0=1;end", 1, 5);
        CHECK.text("core:core:end end", 1, 5);
        CHECK.text("core:end;", 1, 8);
        CHECK.text("core:;end", 1, 5);
        CHECK.text("core:fence end", 1, 11);
        CHECK.text("core:fence;;end", 1, 11);
        CHECK.text("core:a;end", 1, 5);
        CHECK.text("core:skip 1;end", 1, 5);
        CHECK.text("core:set cell 1;end", 1, 9);
        CHECK.text("core:set load 1;end", 1, 9);
        CHECK.text("core:if a end 1;end", 1, 10);
        CHECK.text("core:if a skip skip;end", 1, 15);
    }

    private static void ints() {
        CHECK.sentence("INT: ['-'] NUMBER. CELL: NUMBER");
        CHECK.text("cell 0=-1;core:end", 0, -1);
        CHECK.text("cell 0=--1;core:end", 1, 8);
        CHECK.text("cell 0=-;core:end", 1, 8);
        CHECK.text("cell 0=1-;core:end", 1, 8);
        CHECK.text("cell 0=a;core:end", 1, 7);
        CHECK.text("cell 0=-a;core:end", 1, 8);
        CHECK.text("cell -0=1;core:end", 1, 5);
        CHECK.text("cell a=1;core:end", 1, 5);
        CHECK.text("core:load a -0;end", 1, 12);
        CHECK.text("core:load a a;end", 1, 12);
        CHECK.text("core:store -0 1;end", 1, 11);
        CHECK.text("core:store a 1;end", 1, 11);
        CHECK.text("core:swap a b;end", 1, 12);
        CHECK.text("core:inc a b 1;end", 1, 11);
        CHECK.text("core:cas a b 1 1;end", 1, 11);
        CHECK.text("core:if a skip -0;end", 1, 15);
        CHECK.text("core:if a skip a;end", 1, 15);
    }

    private static void valsAndRegs() {
        CHECK.sentence("REG: 'a' | 'b' | 'c'. VAL: INT | REG");
        String[] regs = {"load * 0", "set * 1", "add * 1", "swap * 0", "inc * 0 1", "cas * 0 1 1", "if * skip 0"};
        for (String ins : regs) {
            int place = 5 + ins.indexOf('*');
            for (String bad : new String[] {"d", "aa", "0", "-1", "=", "`", "A", "end", "load"}) {
                CHECK.text("core:" + ins.replace("*", bad) + ";end", 1, place);
            }
            for (String good : new String[] {"a", "b", "c"}) {
                LitmusHall hall = Check.hall("core:" + ins.replace("*", good) + ";end");
                CHECK.due("REG of " + ins, hall.ins(0, 0, 2), good.charAt(0) - 'a');
            }
        }
        String[] vals = {"store 0 *", "set a *", "add a *", "inc a 0 *", "cas a 0 * 1", "cas a 0 1 *"};
        for (String ins : vals) {
            int place = 5 + ins.indexOf('*');
            for (String bad : new String[] {"d", "ab", "=", "A", "end", "skip", ":"}) {
                CHECK.text("core:" + ins.replace("*", bad) + ";end", 1, place);
            }
            CHECK.text("core:" + ins.replace("*", "-b") + ";end", 1, place + 1);
            for (String good : new String[] {"a", "b", "c", "0", "-1", "999", "-999"}) {
                CHECK.text("core:" + ins.replace("*", good) + ";end", 0, -1);
            }
        }
    }

    private static void firstByItsPlace() {
        CHECK.sentence("FAULTS, the first by its place");
        String seven = "core:" + "fence;".repeat(7) + "end";
        CHECK.text("core:zz;end " + seven, 1, 5);
        CHECK.text(seven + " zz", 2, 41);
        CHECK.text("core:end core:end core:end core zz", 2, 27);
        CHECK.text("core:end core:end zz core:end core:end", 1, 18);
        CHECK.text("core:" + "fence;".repeat(6) + "load zz", 2, 41);
        CHECK.text("cell 0=1;".repeat(100) + "core:zz", 2, 900);
        CHECK.text("cell 0=1;".repeat(99) + "core:zz " + "cell 0=1;".repeat(9), 1, 896);
        CHECK.sentence("If there is none, likewise: 3");
        CHECK.text("cell 9=1;core:load a 9;end zz", 1, 27);
        CHECK.text("cell 9=1;cell 9=1;" + seven, 2, 59);
        CHECK.text("core:if a skip 9;end core:end core:end core", 2, 39);
        CHECK.text("cell 9=1;core:end", 3, 5);
    }

    private static void ofOnePlaceTheLeast() {
        CHECK.sentence("of one place the least");
        String lines = "cell 0=1;".repeat(100);
        for (String bad : new String[] {"zz", "?", "end", "1", "abcdefghi", "1000", ":"}) {
            CHECK.text(lines + bad, 1, 900);
        }
        CHECK.text(lines, 1, 900);
        CHECK.text(lines + "cell", 2, 900);
        CHECK.text(lines + "core", 2, 900);
        String six = "core:" + "fence;".repeat(6);
        CHECK.text(six + "zz", 1, 41);
        CHECK.text(six + "core", 1, 41);
        CHECK.text(six + ";", 1, 41);
        CHECK.text(six, 1, 41);
        CHECK.text(six + "cas", 2, 41);
        CHECK.text("core:end core:end core:end cell", 1, 27);
        CHECK.text("core:end core:end core:end ?", 1, 27);
        CHECK.text("core:end core:end core:end cores", 1, 27);
    }

    // Each TOKEN of a text becomes the 501st, behind lines of five and of six TOKENS.
    private static void token501() {
        CHECK.sentence("2 ROOM: a 501st TOKEN");
        for (int n = 0; n < TOKENS.size(); n++) {
            int lines6 = (500 - n) % 5;
            int lines5 = (500 - n - 6 * lines6) / 5;
            String lines = "cell 0=1;".repeat(lines5) + "cell 0=-1;".repeat(lines6);
            int place = lines.length() + placeOf(n);
            CHECK.text(lines + joined(TOKENS.size()), 2, place);
            CHECK.text(lines + joined(n + 1), 2, place);
            CHECK.text(lines + joined(n) + " zz", 1, lines.length() + joined(n).length() + 1);
        }
        int all = TOKENS.size();
        int lines6 = (500 - all) % 5;
        int lines5 = (500 - all - 6 * lines6) / 5;
        String lines = "cell 0=1;".repeat(lines5) + "cell 0=-1;".repeat(lines6);
        CHECK.text(lines + joined(all), 3, 14);
        CHECK.text(lines + joined(all) + "  \n", 3, 14);
        CHECK.text(lines + joined(all) + " core", 2, lines.length() + joined(all).length() + 1);
        CHECK.text(lines + joined(all - 1), 1, lines.length() + joined(all - 1).length());
    }

    private static void core4() {
        CHECK.sentence("a 4th CORE (at 'core')");
        CHECK.due("1 CORE", Check.hall("core:end").count(0), 1);
        CHECK.due("2 CORES", Check.hall("core:end core:end").count(0), 2);
        CHECK.due("3 CORES", Check.hall("core:end core:end core:end").count(0), 3);
        CHECK.text("core:end core:end core:end core:end", 2, 27);
        CHECK.text("core:end core:end core:end \n core", 2, 29);
        CHECK.text("core:end core:end core:set a 1;end core:end", 2, 35);
        CHECK.text("core:end core:end core:end core:end core:end", 2, 27);
    }

    private static void ins7() {
        CHECK.sentence("a 7th INS of one (at its first TOKEN)");
        String six = "core:" + "set a 1;".repeat(6);
        String[] kinds = {"load", "store", "set", "add", "fence", "swap", "inc", "cas", "if"};
        for (int k = 0; k < 3; k++) {
            String ahead = "core:end ".repeat(k);
            CHECK.text(ahead + six + "end", 0, -1);
            CHECK.text(ahead + six + "end" + " core:end".repeat(2 - k), 0, -1);
            for (String kind : kinds) {
                CHECK.text(ahead + six + " " + kind, 2, ahead.length() + 54);
            }
        }
        // Six of each CORE are no seventh of one.
        CHECK.text((six + "end ").repeat(3), 0, -1);
        CHECK.due("INS in all", Check.hall((six + "end ").repeat(3)).count(1), 18);
    }

    private static void cellsOutOfRange() {
        CHECK.sentence("3 a CELL that is not 0 .. 3, at its NUMBER");
        String[] inses = {"load a *", "store * 1", "swap b *", "inc c * 1", "cas a * 1 1"};
        for (String ins : inses) {
            for (String good : new String[] {"0", "1", "2", "3", "003"}) {
                LitmusHall hall = Check.hall("core:" + ins.replace("*", good) + ";end");
                CHECK.due("CELL of " + ins, hall.ins(0, 0, 1), Integer.parseInt(good));
            }
            for (String bad : new String[] {"4", "5", "10", "004", "30", "255", "256", "999"}) {
                CHECK.text("core:" + ins.replace("*", bad) + ";end", 3, 5 + ins.indexOf('*'));
                CHECK.text("core:end core:" + ins.replace("*", bad) + ";end", 3, 14 + ins.indexOf('*'));
            }
        }
        for (String good : new String[] {"0", "1", "2", "3", "03"}) {
            CHECK.text("cell " + good + "=1;core:end", 0, -1);
        }
        for (String bad : new String[] {"4", "5", "32", "004", "999"}) {
            CHECK.text("cell  " + bad + "=1;core:end", 3, 6);
        }
    }

    private static void cellsToldAlready() {
        CHECK.sentence("a CELL told by 'cell' already, at its NUMBER");
        CHECK.text("cell 3=1;cell 2=1;cell 1=1;cell 0=1;core:end", 0, -1);
        for (int c = 0; c < 4; c++) {
            CHECK.text("cell " + c + "=1;cell " + c + "=1;core:end", 3, 14);
            CHECK.text("cell " + c + "=0;cell 00" + c + "=0;core:end", 3, 14);
            CHECK.text("cell " + c + "=1;cell " + (c + 1) % 4 + "=1;cell " + c + "=1;core:end", 3, 23);
            CHECK.text("cell " + c + "=1;cell " + c + "=1;cell " + c + "=1;core:end", 3, 14);
            CHECK.text("cell " + c + "=1;core:load a " + c + ";store " + c + " 1;end", 0, -1);
        }
        // Out of range comes first there: it is no less told.
        CHECK.text("cell 4=1;cell 4=1;core:end", 3, 5);
    }

    private static void skips() {
        CHECK.sentence("a skip of more INS than come behind it in its CORE, at its NUMBER");
        for (int size = 1; size <= 6; size++) {
            for (int i = 0; i < size; i++) {
                int behind = size - 1 - i;
                String ahead = "core:" + "fence;".repeat(i) + "if b skip ";
                String rest = ";" + "fence;".repeat(behind) + "end core:" + "fence;".repeat(6) + "end";
                CHECK.text(ahead + behind + rest, 0, -1);
                CHECK.text(ahead + (behind + 1) + rest, 3, ahead.length());
                CHECK.text(ahead + "999" + rest, 3, ahead.length());
                CHECK.text("core:end " + ahead + "00" + behind + rest, 0, -1);
                CHECK.text("core:end " + ahead + "00" + (behind + 1) + rest, 3, 9 + ahead.length());
            }
        }
    }

    private static void lateOnesByTheirPlace() {
        CHECK.sentence("If there is none, likewise (the first by its place): 3");
        CHECK.text("cell 4=1;cell 0=1;cell 0=1;core:load a 9;if a skip 9;end", 3, 5);
        CHECK.text("cell 0=1;cell 0=1;cell 4=1;core:load a 9;end", 3, 14);
        CHECK.text("core:if a skip 9;load a 9;end", 3, 15);
        CHECK.text("core:load a 9;if a skip 9;end", 3, 12);
        CHECK.text("core:if a skip 2;if a skip 1;end", 3, 15);
        CHECK.text("core:if a skip 1;if a skip 1;end", 3, 27);
        CHECK.text("core:end core:if a skip 1;end core:load a 4;end", 3, 24);
        CHECK.text("core:load a 0;end core:load a 4;end core:if a skip 9;end", 3, 30);
        CHECK.text("cell 1=1;core:load a 0;store 7 1;end core:if a skip 9;end", 3, 29);
    }
}
