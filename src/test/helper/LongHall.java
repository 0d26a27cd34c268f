import java.util.ArrayList;
import java.util.List;
import java.util.function.Consumer;

/** A hall for more calls than an object is promised for: where they end another takes over, by the same text and steps. */
public final class LongHall {
    private static final int PROMISED = 512;

    private LitmusHall hall = new LitmusHall();
    private int calls;
    private String text = "";
    private final List<Consumer<LitmusHall>> changes = new ArrayList<>();

    /** Feeds a text and reads it, on the same object as the text ahead of it if it has the calls left. */
    public int read(String newText) {
        text = newText;
        changes.clear();
        if (calls + callsOf(text) > PROMISED) {
            hall = new LitmusHall();
            calls = 0;
        }
        return readAgain();
    }

    private static int callsOf(String text) {
        return (text.length() + 19) / 20 + 2;
    }

    private int readAgain() {
        Check.feed(hall, text);
        calls += callsOf(text);
        return hall.read();
    }

    private LitmusHall asked() {
        if (calls >= PROMISED) {
            hall = new LitmusHall();
            calls = changes.size();
            readAgain();
            changes.forEach(change -> change.accept(hall));
        }
        calls++;
        return hall;
    }

    private LitmusHall changed(Consumer<LitmusHall> change) {
        LitmusHall answering = asked();
        changes.add(change);
        return answering;
    }

    public boolean begin(int mode) {
        return changed(h -> h.begin(mode)).begin(mode);
    }

    public boolean step(int s) {
        return changed(h -> h.step(s)).step(s);
    }

    public boolean undo() {
        return changed(h -> h.undo()).undo();
    }

    public int cure(int n) {
        return changed(h -> h.cure(n)).cure(n);
    }

    public int place() {
        return asked().place();
    }

    public int ins(int k, int i, int what) {
        return asked().ins(k, i, what);
    }

    public int register(int k, int r) {
        return asked().register(k, r);
    }

    public int memory(int c) {
        return asked().memory(c);
    }

    public int next(int k) {
        return asked().next(k);
    }

    public int store(int k, int i, int what) {
        return asked().store(k, i, what);
    }

    public int outcomes(int mode) {
        return asked().outcomes(mode);
    }

    public int outcome(int mode, int n, int i) {
        return asked().outcome(mode, n, i);
    }

    public int schedule(int mode, int n, int i) {
        return asked().schedule(mode, n, i);
    }

    public int more(int i) {
        return asked().more(i);
    }

    public int race() {
        return asked().race();
    }

    public int racer(int what) {
        return asked().racer(what);
    }

    public int cured(int i) {
        return asked().cured(i);
    }

    public int count(int what) {
        return asked().count(what);
    }
}
