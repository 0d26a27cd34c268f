import java.util.ArrayDeque;
import java.util.ArrayList;
import java.util.Deque;
import java.util.List;
import java.util.Map;
import java.util.TreeMap;
import java.util.TreeSet;
import java.util.HashMap;
import java.util.regex.Matcher;
import java.util.regex.Pattern;

/** A second model of the document, slow and plain, that shares nothing with the class. */
public final class Oracle {
    public static final int LIMIT = 3000;

    /** One INS, as its words. */
    public record Ins(String op, String reg, int cell, String val, String val2, int skip) { }

    public final List<List<Ins>> cores = new ArrayList<>();
    public final int[] memory = new int[4];
    public int fault;
    public int place = -1;

    // ---- the text

    private record Token(String text, int place) { }

    private static final class Stop extends RuntimeException {
        private static final long serialVersionUID = 1;
        final int fault;
        final int place;

        Stop(int fault, int place) {
            super("", null, false, false);
            this.fault = fault;
            this.place = place;
        }
    }

    private final Deque<Token> tokens = new ArrayDeque<>();
    private int taken;
    private final TreeSet<Integer> late = new TreeSet<>();

    private static final Pattern TOKEN = Pattern.compile("[\\t\\n\\r ]+|([a-z]+|[0-9]+|.)", Pattern.DOTALL);

    public static Oracle of(String text) {
        Oracle oracle = new Oracle();
        try {
            oracle.read(text);
        } catch (Stop stop) {
            oracle.fault = stop.fault;
            oracle.place = stop.place;
        }
        return oracle;
    }

    private void read(String text) {
        Matcher matcher = TOKEN.matcher(text);
        while (matcher.find()) {
            if (matcher.group(1) != null) {
                tokens.add(new Token(matcher.group(1), matcher.start()));
            }
        }
        tokens.add(new Token("", text.length()));
        TreeSet<Integer> told = new TreeSet<>();
        while (sees("cell")) {
            take("cell");
            int where = tokens.peek().place();
            int cell = cell();
            if (!told.add(cell)) {
                late.add(where);
            }
            take("=");
            int value = Integer.parseInt(intText());
            take(";");
            if (cell < 4) {
                memory[cell] = value;
            }
        }
        do {
            if (cores.size() == 3 && sees("core")) {
                throw new Stop(2, tokens.peek().place());
            }
            core();
        } while (!sees(""));
        if (!late.isEmpty()) {
            throw new Stop(3, late.first());
        }
    }

    private boolean sees(String regex) {
        return tokens.peek().text().matches(regex);
    }

    private String take(String regex) {
        Token token = tokens.poll();
        if (!token.text().matches(regex)) {
            throw new Stop(1, token.place());
        }
        if (++taken > 500) {
            throw new Stop(2, token.place());
        }
        return token.text();
    }

    private int cell() {
        int where = tokens.peek().place();
        int cell = Integer.parseInt(take("[0-9]{1,3}"));
        if (cell > 3) {
            late.add(where);
        }
        return cell;
    }

    private String intText() {
        String sign = sees("-") ? take("-") : "";
        return sign + Integer.parseInt(take("[0-9]{1,3}"));
    }

    private String val() {
        return sees("[abc]") ? take("[abc]") : intText();
    }

    private void core() {
        take("core");
        take(":");
        List<Ins> list = new ArrayList<>();
        Map<Integer, Integer> skipPlaces = new TreeMap<>();
        String words = "load|store|set|add|fence|swap|inc|cas|if";
        while (sees(words)) {
            if (list.size() == 6) {
                throw new Stop(2, tokens.peek().place());
            }
            String op = take(words);
            String reg = op.matches("store|fence") ? "" : take("[abc]");
            int cell = op.matches("load|store|swap|inc|cas") ? cell() : -1;
            String val = op.matches("store|set|add|inc|cas") ? val() : "";
            String val2 = op.equals("cas") ? val() : "";
            int skip = 0;
            if (op.equals("if")) {
                take("skip");
                skipPlaces.put(list.size(), tokens.peek().place());
                skip = Integer.parseInt(take("[0-9]{1,3}"));
            }
            take(";");
            list.add(new Ins(op, reg, cell, val, val2, skip));
        }
        take("end");
        for (Map.Entry<Integer, Integer> entry : skipPlaces.entrySet()) {
            int behind = list.size() - 1 - entry.getKey();
            if (list.get(entry.getKey()).skip() > behind) {
                late.add(entry.getValue());
            }
        }
        cores.add(list);
    }

    // ---- states and steps

    /** A state; a fence put in ahead of INS i is still to come while pending is true. */
    public static final class S {
        public final int[] next = new int[3];
        public final boolean[] pending = new boolean[3];
        public final int[][] regs = new int[3][3];
        public final List<List<int[]>> rows = List.of(new ArrayList<>(), new ArrayList<>(), new ArrayList<>());
        public final int[] mem = new int[4];
        public final List<TreeSet<Integer>> stored = List.of(new TreeSet<>(), new TreeSet<>(), new TreeSet<>());
        public String path = "";

        S copy() {
            S s = new S();
            for (int k = 0; k < 3; k++) {
                s.next[k] = next[k];
                s.pending[k] = pending[k];
                s.regs[k] = regs[k].clone();
                s.rows.get(k).addAll(rows.get(k));
                s.stored.get(k).addAll(stored.get(k));
            }
            System.arraycopy(mem, 0, s.mem, 0, 4);
            s.path = path;
            return s;
        }

        String key() {
            StringBuilder b = new StringBuilder();
            for (int k = 0; k < 3; k++) {
                b.append(next[k]).append(pending[k] ? "p" : "d").append(stored.get(k));
                for (int r : regs[k]) {
                    b.append(r).append(',');
                }
                for (int[] store : rows.get(k)) {
                    b.append(store[0]).append('=').append(store[1]).append(' ');
                }
                b.append('|');
            }
            for (int m : mem) {
                b.append(m).append(',');
            }
            return b.toString();
        }

        public List<Integer> outcome() {
            List<Integer> list = new ArrayList<>();
            for (int[] three : regs) {
                for (int r : three) {
                    list.add(r);
                }
            }
            for (int m : mem) {
                list.add(m);
            }
            return list;
        }
    }

    public S first(TreeSet<Integer> fences) {
        S s = new S();
        System.arraycopy(memory, 0, s.mem, 0, 4);
        for (int k = 0; k < 3; k++) {
            s.pending[k] = fences.contains(10 * k);
        }
        return s;
    }

    public boolean ended(S s) {
        for (int k = 0; k < cores.size(); k++) {
            if (s.next[k] < cores.get(k).size() || !s.rows.get(k).isEmpty()) {
                return false;
            }
        }
        return true;
    }

    private static int reg(String name) {
        return name.charAt(0) - 'a';
    }

    private static int val(S s, int k, String val) {
        return val.matches("[abc]") ? s.regs[k][reg(val)] : Integer.parseInt(val);
    }

    /** The state behind a step, or null if it can't. */
    public S step(S from, int step, boolean rows, boolean track, TreeSet<Integer> fences) {
        S s = from.copy();
        s.path = from.path + step;
        if (step >= 3) {
            List<int[]> row = s.rows.get(step - 3);
            if (row.isEmpty()) {
                return null;
            }
            int[] store = row.remove(0);
            s.mem[store[0]] = store[1];
            return s;
        }
        int k = step;
        if (k >= cores.size() || s.next[k] >= cores.get(k).size()) {
            return null;
        }
        boolean empty = s.rows.get(k).isEmpty();
        if (s.pending[k]) {
            s.pending[k] = false;
            s.stored.get(k).clear();
            return empty ? s : null;
        }
        Ins ins = cores.get(k).get(s.next[k]);
        int go = s.next[k] + 1;
        int r = ins.reg().isEmpty() ? -1 : reg(ins.reg());
        switch (ins.op()) {
            case "load" -> {
                int seen = s.mem[ins.cell()];
                for (int[] store : s.rows.get(k)) {
                    seen = store[0] == ins.cell() ? store[1] : seen;
                }
                s.regs[k][r] = seen;
            }
            case "store" -> {
                int v = val(s, k, ins.val());
                if (rows) {
                    s.rows.get(k).add(new int[] {ins.cell(), v});
                } else {
                    s.mem[ins.cell()] = v;
                    if (track) {
                        s.stored.get(k).add(ins.cell());
                    }
                }
            }
            case "set" -> s.regs[k][r] = val(from, k, ins.val());
            case "add" -> s.regs[k][r] = from.regs[k][r] + val(from, k, ins.val());
            case "if" -> go += s.regs[k][r] != 0 ? ins.skip() : 0;
            default -> {
                if (!empty) {
                    return null;
                }
                s.stored.get(k).clear();
                if (!ins.op().equals("fence")) {
                    int had = from.mem[ins.cell()];
                    s.regs[k][r] = had;
                    s.mem[ins.cell()] = switch (ins.op()) {
                        case "swap" -> from.regs[k][r];
                        case "inc" -> had + val(from, k, ins.val());
                        default -> had == val(from, k, ins.val()) ? val(from, k, ins.val2()) : had;
                    };
                }
            }
        }
        s.next[k] = go;
        s.pending[k] = fences.contains(10 * k + go) && go < cores.get(k).size();
        return s;
    }

    // ---- exploring

    /** All states with their least schedules, or null if there are more than 3,000. */
    public List<S> explore(boolean rows, boolean track, TreeSet<Integer> fences) {
        return explore(rows, track, fences, LIMIT);
    }

    /** How many states there are, also if there are some more than 3,000; -1: far more. */
    public int states(boolean rows, boolean track, Integer... fences) {
        List<S> all = explore(rows, track, new TreeSet<>(List.of(fences)), 2 * LIMIT);
        return all == null ? -1 : all.size();
    }

    private List<S> explore(boolean rows, boolean track, TreeSet<Integer> fences, int limit) {
        Map<String, S> all = new HashMap<>();
        Map<String, S> level = new HashMap<>();
        S start = first(fences);
        level.put(start.key(), start);
        all.putAll(level);
        while (!level.isEmpty()) {
            Map<String, S> nearest = new HashMap<>();
            for (S s : level.values()) {
                for (int step = 0; step < 6; step++) {
                    S t = step(s, step, rows, track, fences);
                    if (t == null || all.containsKey(t.key())) {
                        continue;
                    }
                    S old = nearest.get(t.key());
                    if (old == null || old.path.compareTo(t.path) > 0) {
                        nearest.put(t.key(), t);
                    }
                }
            }
            all.putAll(nearest);
            if (all.size() > limit) {
                return null;
            }
            level = nearest;
        }
        return new ArrayList<>(all.values());
    }

    public static int compare(List<Integer> a, List<Integer> b) {
        for (int i = 0; i < a.size(); i++) {
            if (!a.get(i).equals(b.get(i))) {
                return Integer.compare(a.get(i), b.get(i));
            }
        }
        return 0;
    }

    /** The outcomes in their order with their schedules; null: full. */
    public TreeMap<List<Integer>, String> outcomes(List<S> states) {
        if (states == null) {
            return null;
        }
        TreeMap<List<Integer>, String> found = new TreeMap<>(Oracle::compare);
        for (S s : states) {
            if (ended(s) && found.put(s.outcome(), s.path) != null) {
                throw new IllegalStateException("two states end so");
            }
        }
        return found;
    }

    /** r, w, x and the schedule of the race; empty: none; null: full. */
    public List<Integer> race() {
        List<S> states = explore(false, true, new TreeSet<>());
        if (states == null) {
            return null;
        }
        states.sort((s, t) -> s.path.length() != t.path.length()
            ? s.path.length() - t.path.length() : s.path.compareTo(t.path));
        for (S s : states) {
            for (int r = 0; r < cores.size(); r++) {
                for (int w = 0; w < cores.size(); w++) {
                    Ins load = nextIns(s, r);
                    Ins write = nextIns(s, w);
                    if (r == w || load == null || write == null || !load.op().equals("load")
                        || !write.op().matches("store|swap|inc|cas") || write.cell() != load.cell()) {
                        continue;
                    }
                    TreeSet<Integer> others = new TreeSet<>(s.stored.get(r));
                    others.remove(load.cell());
                    if (!others.isEmpty()) {
                        List<Integer> told = new ArrayList<>(List.of(r, w, load.cell()));
                        s.path.chars().forEach(c -> told.add(c - '0'));
                        return told;
                    }
                }
            }
        }
        return List.of();
    }

    private Ins nextIns(S s, int k) {
        return s.next[k] < cores.get(k).size() ? cores.get(k).get(s.next[k]) : null;
    }

    public List<Integer> places() {
        List<Integer> list = new ArrayList<>();
        for (int k = 0; k < cores.size(); k++) {
            for (int i = 1; i < cores.get(k).size(); i++) {
                list.add(10 * k + i);
            }
        }
        return list;
    }

    /** The places of the least cure of at most n; an empty Cure: none; full. */
    public record Cure(int answer, List<Integer> places) { }

    public Cure cure(int n) {
        TreeMap<List<Integer>, String> due = outcomes(explore(false, false, new TreeSet<>()));
        if (due == null) {
            return new Cure(-2, List.of());
        }
        List<Integer> all = places();
        List<List<Integer>> sets = new ArrayList<>();
        sets.add(List.of());
        for (int a = 0; n > 0 && a < all.size(); a++) {
            sets.add(List.of(all.get(a)));
        }
        for (int a = 0; n > 1 && a < all.size(); a++) {
            for (int b = a + 1; b < all.size(); b++) {
                sets.add(List.of(all.get(a), all.get(b)));
            }
        }
        for (List<Integer> set : sets) {
            TreeMap<List<Integer>, String> with = outcomes(explore(true, false, new TreeSet<>(set)));
            if (with == null) {
                return new Cure(-2, List.of());
            }
            if (with.keySet().equals(due.keySet())) {
                return new Cure(set.size(), set);
            }
        }
        return new Cure(-1, List.of());
    }
}
