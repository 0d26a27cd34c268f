/** Counts answers that are not the due ones, and feeds texts to a hall. */
public final class Check {
    private int wrong;
    private int asked;
    private String sentence = "";
    private int askedAhead = -1;

    /** The sentence of the document by which the answers behind this are due. */
    public void sentence(String text) {
        endSentence();
        sentence = text;
        askedAhead = asked;
    }

    // A sentence with no answer asked by it would look tested, and is not.
    private void endSentence() {
        if (asked == askedAhead) {
            wrong++;
            System.out.println("nothing is asked by [" + sentence + "]");
        }
    }

    public void due(String call, long got, long want) {
        asked++;
        if (got != want) {
            wrong++;
            System.out.println(call + " answered " + got + ", due is " + want + bySentence());
        }
    }

    public void due(String call, boolean got, boolean want) {
        due(call, got ? 1 : 0, want ? 1 : 0);
    }

    public void due(String call, String got, String want) {
        asked++;
        if (!got.equals(want)) {
            wrong++;
            System.out.println(call + bySentence() + " is\n  " + got + "\n  due is\n  " + want);
        }
    }

    private String bySentence() {
        return sentence.isEmpty() ? "" : " by [" + sentence + "]";
    }

    /** A text on a new hall: the answer of read(), the place, and whether it is the PROGRAM then. */
    public void text(String text, int fault, int place) {
        LitmusHall hall = new LitmusHall();
        feed(hall, text);
        due("read of '" + text + "'", hall.read(), fault);
        due("place of '" + text + "'", hall.place(), place);
        due("tape behind '" + text + "'", hall.count(9), 0);
        due("PROGRAM of '" + text + "'", hall.begin(0), fault == 0);
    }

    /** Ends the program with exit code 1 if an answer was wrong. */
    public void end() {
        endSentence();
        System.out.println(wrong + " of " + asked + " answers are not as due");
        if (wrong != 0 || asked == 0) {
            System.exit(1);
        }
    }

    /** Puts the text behind the tape, without a byte more. */
    public static void feed(LitmusHall hall, String text) {
        int rest = text.length() % 20;
        String whole = rest == 0 ? text : text + " ".repeat(20 - rest);
        for (int at = 0; at < whole.length(); at += 20) {
            hall.feed(word(whole, at), word(whole, at + 4), word(whole, at + 8), word(whole, at + 12),
                word(whole, at + 16));
        }
        hall.back(whole.length() - text.length());
    }

    /** A hall whose tape had this text, and was read. */
    public static LitmusHall hall(String text) {
        LitmusHall hall = new LitmusHall();
        feed(hall, text);
        hall.read();
        return hall;
    }

    public static int word(String text, int at) {
        int word = 0;
        for (int i = 0; i < 4; i++) {
            word = word << 8 | text.charAt(at + i) & 255;
        }
        return word;
    }
}
