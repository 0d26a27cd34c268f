/** All that a hall tells of itself, in one text. It fits a small PROGRAM: an object is promised for 512 calls. */
public final class Snapshot {
    private final LitmusHall hall;
    private final StringBuilder text = new StringBuilder();

    private Snapshot(LitmusHall hall) {
        this.hall = hall;
    }

    /** Asks all, takes the machine back step by step, and reads the tape last. */
    public static String of(LitmusHall hall) {
        Snapshot snapshot = new Snapshot(hall);
        snapshot.counts();
        snapshot.program();
        snapshot.machine();
        snapshot.findings();
        snapshot.stepsBack();
        snapshot.tape();
        return snapshot.text.toString();
    }

    private void tell(String name, int answer) {
        text.append(name).append(' ').append(answer).append("; ");
    }

    private void counts() {
        for (int what = 0; what < 10; what++) {
            tell("count" + what, hall.count(what));
        }
    }

    private void program() {
        for (int k = 0; k < 3; k++) {
            for (int i = 0; i < 6 && hall.ins(k, i, 0) >= 0; i++) {
                for (int what = 0; what < 8; what++) {
                    tell("ins", hall.ins(k, i, what));
                }
            }
        }
    }

    private void machine() {
        for (int k = 0; k < 3; k++) {
            tell("next", hall.next(k));
            for (int r = 0; r < 3; r++) {
                tell("register", hall.register(k, r));
            }
            for (int i = 0; i < 3; i++) {
                tell("cell", hall.store(k, i, 0));
                tell("int", hall.store(k, i, 1));
            }
        }
        for (int c = 0; c < 4; c++) {
            tell("memory", hall.memory(c));
        }
    }

    private void findings() {
        for (int mode = 0; mode < 2; mode++) {
            int size = hall.outcomes(mode);
            tell("outcomes", size);
            for (int n = 0; n < size && n < 3; n++) {
                for (int i = 0; i < 13; i++) {
                    tell("outcome", hall.outcome(mode, n, i));
                }
                for (int i = 0; i < 8; i++) {
                    tell("schedule", hall.schedule(mode, n, i));
                }
            }
        }
        tell("more", hall.more(0));
        tell("race", hall.race());
        for (int what = 0; what < 6; what++) {
            tell("racer", hall.racer(what));
        }
        for (int i = 0; i < 3; i++) {
            tell("cured", hall.cured(i));
        }
    }

    private void stepsBack() {
        for (int n = 0; n < 20 && hall.undo(); n++) {
            tell("undone to", hall.count(6));
            tell("next", hall.next(0));
            tell("next", hall.next(1));
            tell("memory", hall.memory(0));
        }
    }

    private void tape() {
        tell("read", hall.read());
        tell("place", hall.place());
        tell("cores", hall.count(0));
        tell("ins", hall.count(1));
    }
}
