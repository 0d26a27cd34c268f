import java.util.ArrayList;
import java.util.List;
import java.util.Random;
import java.util.TreeMap;
import java.util.TreeSet;

/** Programs and texts from a fixed seed: every answer of the class against the second model. */
public final class OracleTests {
    private static final Check CHECK = new Check();
    private static final String[] OPS = {"load", "store", "set", "add", "fence", "swap", "inc", "cas", "if"};
    private static int full;
    private static int races;
    private static final int[] CURES = new int[5];
    private static final int[] FAULTS = new int[4];

    public static void main(String[] args) {
        int scale = args.length > 0 ? Integer.parseInt(args[0]) : 1;
        Random random = new Random(20261116 + scale);
        LongHall hall = new LongHall();
        for (int n = 0; n < 150 * scale; n++) {
            // Rows that were used for an earlier program must not show in a later one.
            hall = n % 5 == 0 ? new LongHall() : hall;
            program(hall, program(random, 1 + random.nextInt(3), 1 + random.nextInt(4), random.nextInt(4)), 2);
        }
        for (int n = 0; n < 150 * scale; n++) {
            hall = n % 5 == 0 ? new LongHall() : hall;
            program(hall, crossing(random, 2 + random.nextInt(2)), 2);
        }
        for (int n = 0; n < 40 * scale; n++) {
            hall = n % 3 == 0 ? new LongHall() : hall;
            program(hall, program(random, 3, 3 + random.nextInt(4), random.nextInt(4)), 0);
        }
        for (int n = 0; n < 300 * scale; n++) {
            walk(hall, program(random, 1 + random.nextInt(3), random.nextInt(7), random.nextInt(4)), random);
        }
        for (int n = 0; n < 20000 * scale; n++) {
            text(hall, mutated(random, program(random, random.nextInt(5), random.nextInt(8), random.nextInt(4))));
            text(hall, wideNumbers(random, program(random, 1 + random.nextInt(3), random.nextInt(7), 0)));
        }
        System.out.println("full " + full + ", races " + races + ", cures none " + CURES[1] + " full " + CURES[0]
            + " of 0, 1, 2: " + CURES[2] + " " + CURES[3] + " " + CURES[4]);
        System.out.println("texts without and with faults 1, 2, 3: " + FAULTS[0] + " " + FAULTS[1] + " " + FAULTS[2]
            + " " + FAULTS[3]);
        CHECK.end();
    }

    // ---- making

    private static String program(Random random, int cores, int most, int taste) {
        StringBuilder text = new StringBuilder();
        for (int cell = 0; cell < 4; cell++) {
            if (random.nextInt(6) == 0) {
                text.append("cell ").append(cell).append('=').append(random.nextInt(5) - 2).append(';');
            }
        }
        for (int k = 0; k < cores; k++) {
            text.append("core:");
            int size = Math.max(0, most - random.nextInt(2));
            for (int i = 0; i < size; i++) {
                ins(text, random, size - 1 - i, taste);
            }
            text.append("end ");
        }
        return text.toString();
    }

    private static void ins(StringBuilder text, Random random, int behind, int taste) {
        // Most tastes are for loads and stores: they make what is worth looking at.
        int op = random.nextInt(4) < taste ? random.nextInt(2) : random.nextInt(9);
        int cells = taste == 3 ? 2 : 3;
        text.append(OPS[op]);
        if (op != 1 && op != 4) {
            text.append(' ').append((char) ('a' + random.nextInt(3)));
        }
        if (op < 2 || op >= 5 && op <= 7) {
            text.append(' ').append(random.nextInt(cells));
        }
        int vals = op == 7 ? 2 : op >= 1 && op <= 3 || op == 6 ? 1 : 0;
        for (int v = 0; v < vals; v++) {
            text.append(' ').append(val(random));
        }
        if (op == 8) {
            text.append(" skip ").append(random.nextInt(behind + 1));
        }
        text.append(';');
    }

    private static String val(Random random) {
        if (random.nextInt(3) == 0) {
            return String.valueOf((char) ('a' + random.nextInt(3)));
        }
        return String.valueOf(random.nextInt(4) - 1);
    }

    /** CORES that store to a CELL of their own and load from another's: what fences are for. */
    private static String crossing(Random random, int cores) {
        StringBuilder text = new StringBuilder();
        for (int k = 0; k < cores; k++) {
            text.append("core:");
            int other = (k + 1 + random.nextInt(cores - 1)) % cores;
            int extra = cores == 3 ? random.nextInt(2) : random.nextInt(3);
            for (int i = 0; i < extra; i++) {
                ins(text, random, 2, random.nextInt(3));
            }
            text.append("store ").append(k).append(" 1;");
            if (random.nextInt(3) == 0) {
                text.append(random.nextBoolean() ? "set c 1;" : "if c skip 1;");
            }
            if (random.nextInt(3) == 0) {
                text.append(random.nextBoolean() ? "fence;" : "swap c 3;");
            }
            if (random.nextInt(4) == 0) {
                text.append("if b skip ").append(random.nextInt(2)).append(';');
            }
            text.append("load a ").append(random.nextInt(5) == 0 ? k : other).append(";end ");
        }
        return text.toString();
    }

    private static String wideNumbers(Random random, String text) {
        StringBuilder b = new StringBuilder(text);
        for (int i = 0; i < b.length(); i++) {
            if (Character.isDigit(b.charAt(i)) && random.nextInt(12) == 0) {
                b.setCharAt(i, (char) ('0' + random.nextInt(10)));
            }
        }
        return b.toString();
    }

    private static String mutated(Random random, String text) {
        StringBuilder b = new StringBuilder(text);
        String[] bits = {" ", ";", ":", "=", "-", "a", "d", "4", "12", "1000", "core:end ", "cell 1=2;", "fence;",
            "if a skip 1;", "end", "\t", "\n", "\r", "\u0000", "\u00ff", "A", ".", "cell", "core", "abcdefghi", "0"};
        int edits = random.nextInt(4);
        for (int n = 0; n < edits && b.length() > 0; n++) {
            int at = random.nextInt(b.length());
            switch (random.nextInt(4)) {
                case 0 -> b.deleteCharAt(at);
                case 1 -> b.insert(at, bits[random.nextInt(bits.length)]);
                case 2 -> b.setCharAt(at, bits[random.nextInt(bits.length)].charAt(0));
                default -> {
                    int end = Math.min(b.length(), at + random.nextInt(12));
                    b.insert(random.nextInt(b.length()), b.substring(at, end));
                }
            }
        }
        if (random.nextInt(40) == 0) {
            b.insert(0, "cell 1=2;".repeat(97 + random.nextInt(5)));
        }
        return b.toString();
    }

    // ---- comparing

    private static void text(LongHall hall, String text) {
        Oracle oracle = Oracle.of(text);
        FAULTS[oracle.fault]++;
        CHECK.due("read of '" + text + "'", hall.read(text), oracle.fault);
        CHECK.due("place of '" + text + "'", hall.place(), oracle.place);
        if (oracle.fault == 0) {
            CHECK.due("CORES of '" + text + "'", hall.count(0), oracle.cores.size());
            parts(hall, oracle, text);
        }
    }

    private static void parts(LongHall hall, Oracle oracle, String text) {
        int sum = 0;
        for (int k = 0; k < oracle.cores.size(); k++) {
            sum += oracle.cores.get(k).size();
            for (int i = 0; i < oracle.cores.get(k).size(); i++) {
                Oracle.Ins ins = oracle.cores.get(k).get(i);
                int[] want = {List.of(OPS).indexOf(ins.op()), ins.cell(), regOf(ins.reg()), regOf(ins.val()),
                    intOf(ins.val()), regOf(ins.val2()), intOf(ins.val2()), ins.skip()};
                for (int what = 0; what < 8; what++) {
                    CHECK.due("ins(" + k + ", " + i + ", " + what + ") of '" + text + "'", hall.ins(k, i, what),
                        want[what]);
                }
            }
        }
        CHECK.due("INS of '" + text + "'", hall.count(1), sum);
        CHECK.due("places of '" + text + "'", hall.count(8), oracle.places().size());
    }

    private static int regOf(String val) {
        return val.matches("[abc]") ? val.charAt(0) - 'a' : -1;
    }

    private static int intOf(String val) {
        return val.isEmpty() || regOf(val) >= 0 ? 0 : Integer.parseInt(val);
    }

    private static void program(LongHall hall, String text, int mostCure) {
        text(hall, text);
        Oracle oracle = Oracle.of(text);
        if (oracle.fault != 0) {
            return;
        }
        List<TreeMap<List<Integer>, String>> both = new ArrayList<>();
        for (int mode = 0; mode < 2; mode++) {
            List<Oracle.S> states = oracle.explore(mode == 1, false, new TreeSet<>());
            both.add(oracle.outcomes(states));
            CHECK.due("STATES of '" + text + "'", hall.count(3 - mode), states == null ? -1 : states.size());
            found(hall, text, mode, both.get(mode));
        }
        others(hall, text, both.get(0), both.get(1));
        race(hall, text, oracle.race());
        for (int n = 0; n <= mostCure; n++) {
            cure(hall, text, n, oracle.cure(n));
        }
    }

    private static void found(LongHall hall, String text, int mode, TreeMap<List<Integer>, String> want) {
        if (want == null) {
            full++;
        }
        CHECK.due("outcomes of '" + text + "'", hall.outcomes(mode), want == null ? -2 : want.size());
        CHECK.due("count(4), (5) of '" + text + "'", hall.count(5 - mode), want == null ? -1 : want.size());
        int n = 0;
        for (List<Integer> outcome : want == null ? List.<List<Integer>>of() : want.keySet()) {
            for (int i = 0; i < 13; i++) {
                CHECK.due("outcome " + n + " of '" + text + "'", hall.outcome(mode, n, i), outcome.get(i));
            }
            String path = want.get(outcome);
            for (int i = 0; i <= path.length(); i++) {
                CHECK.due("schedule " + n + " of '" + text + "'", hall.schedule(mode, n, i),
                    i < path.length() ? path.charAt(i) - '0' : -1);
            }
            n++;
        }
        CHECK.due("schedule behind the last of '" + text + "'", hall.schedule(mode, n, 0), -1);
        CHECK.due("outcome behind the last of '" + text + "'", hall.outcome(mode, n, 9), 0);
    }

    private static void others(LongHall hall, String text, TreeMap<List<Integer>, String> without,
            TreeMap<List<Integer>, String> with) {
        if (without == null || with == null) {
            CHECK.due("more(0) of '" + text + "'", hall.more(0), -2);
            return;
        }
        int met = 0;
        int n = 0;
        for (List<Integer> outcome : with.keySet()) {
            if (!without.containsKey(outcome)) {
                CHECK.due("more(" + met + ") of '" + text + "'", hall.more(met), n);
                met++;
            }
            n++;
        }
        CHECK.due("more behind the last of '" + text + "'", hall.more(met), -1);
    }

    private static void race(LongHall hall, String text, List<Integer> want) {
        if (want == null || want.isEmpty()) {
            CHECK.due("race of '" + text + "'", hall.race(), want == null ? -2 : 0);
            CHECK.due("racer(0) of '" + text + "'", hall.racer(0), -1);
            return;
        }
        races++;
        CHECK.due("race of '" + text + "'", hall.race(), 1);
        for (int what = 0; what <= want.size(); what++) {
            CHECK.due("racer(" + what + ") of '" + text + "'", hall.racer(what),
                what < want.size() ? want.get(what) : -1);
        }
    }

    private static void cure(LongHall hall, String text, int n, Oracle.Cure want) {
        CURES[want.answer() + 2]++;
        CHECK.due("cure(" + n + ") of '" + text + "'", hall.cure(n), want.answer());
        for (int i = 0; want.answer() >= 0 && i <= want.places().size(); i++) {
            CHECK.due("cured(" + i + ") of '" + text + "'", hall.cured(i),
                i < want.places().size() ? want.places().get(i) : -1);
        }
    }

    // ---- a machine, step by step, with steps that can't and steps taken back

    private static void walk(LongHall hall, String text, Random random) {
        text(hall, text);
        Oracle oracle = Oracle.of(text);
        int mode = random.nextInt(2);
        CHECK.due("begin of '" + text + "'", hall.begin(mode), true);
        TreeSet<Integer> none = new TreeSet<>();
        List<Oracle.S> stack = new ArrayList<>(List.of(oracle.first(none)));
        for (int n = 0; n < 90; n++) {
            Oracle.S top = stack.get(stack.size() - 1);
            if (random.nextInt(6) == 0) {
                CHECK.due("undo in '" + text + "'", hall.undo(), stack.size() > 1);
                if (stack.size() > 1) {
                    stack.remove(stack.size() - 1);
                }
            } else {
                int s = random.nextInt(6);
                Oracle.S to = oracle.step(top, s, mode == 1, false, none);
                CHECK.due("step(" + s + ") in '" + text + "'", hall.step(s), to != null);
                if (to != null) {
                    stack.add(to);
                }
            }
            same(hall, text, oracle, stack);
        }
    }

    private static void same(LongHall hall, String text, Oracle oracle, List<Oracle.S> stack) {
        Oracle.S s = stack.get(stack.size() - 1);
        CHECK.due("steps in '" + text + "'", hall.count(6), stack.size() - 1);
        CHECK.due("ended in '" + text + "'", hall.count(7), oracle.ended(s) ? 1 : 0);
        for (int k = 0; k < 3; k++) {
            CHECK.due("next in '" + text + "'", hall.next(k), k < oracle.cores.size() ? s.next[k] : -1);
            for (int r = 0; r < 3; r++) {
                CHECK.due("register in '" + text + "'", hall.register(k, r), s.regs[k][r]);
            }
            List<int[]> row = s.rows.get(k);
            for (int i = 0; i <= row.size(); i++) {
                for (int what = 0; what < 2; what++) {
                    CHECK.due("store in '" + text + "'", hall.store(k, i, what), i < row.size() ? row.get(i)[what] : -1);
                }
            }
        }
        for (int c = 0; c < 4; c++) {
            CHECK.due("memory in '" + text + "'", hall.memory(c), s.mem[c]);
        }
    }
}
