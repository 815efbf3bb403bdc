import java.io.IOException;
import java.nio.file.Files;
import java.nio.file.Path;

/** Counts answers that are not due and tells where each was asked. */
final class Check {
    private static final Path DOCUMENT = Path.of("../shared/DOC.md");
    private static String document;

    private final String name;
    private String promise = "";
    private int asked;
    private int wrong;

    Check(String name) {
        this.name = name;
    }

    void promise(String text) {
        promise = text;
    }

    /** A sentence of the document, word by word: what follows tests it. */
    void says(int promise, String sentence) {
        says("promise " + promise, sentence);
    }

    void saysOfTerm(int term, String sentence) {
        says("term " + term, sentence);
    }

    private void says(String where, String sentence) {
        promise = where + " \"" + sentence + "\"";
        due(document().isEmpty() || document().contains(sentence), true);
    }

    /** Where the document isn't at hand, what is tested holds all the same: no sentence is looked up. */
    private static String document() {
        if (document == null) {
            try {
                document = Files.readString(DOCUMENT);
            } catch (IOException e) {
                System.out.println(DOCUMENT + " can't be read: its sentences are not looked up");
                document = "";
            }
        }
        return document;
    }

    void due(long got, long want) {
        asked++;
        if (got != want) {
            wrong++;
            System.out.println(name + ", " + promise + ", line " + line() + ": answered " + got + ", due is " + want);
        }
    }

    void due(boolean got, boolean want) {
        due(got ? 1 : 0, want ? 1 : 0);
    }

    private static int line() {
        for (StackTraceElement frame : new Throwable().getStackTrace()) {
            String in = frame.getClassName();
            if (!in.equals("Check") && !in.startsWith("Twin")) {
                return frame.getLineNumber();
            }
        }
        return 0;
    }

    void finish() {
        System.out.println(name + ": " + asked + " answers, " + wrong + " not as due");
        if (wrong != 0 || asked == 0) {
            System.exit(1);
        }
    }

    /** Feeds the text, filled up with blanks to full feeds: how many bytes of the tape are it. */
    static int feed(PetrolBoard board, String text) {
        for (int from = 0; from < text.length(); from += 20) {
            board.feed(word(text, from), word(text, from + 4), word(text, from + 8),
                    word(text, from + 12), word(text, from + 16));
        }
        return text.length();
    }

    private static int word(String text, int from) {
        int sum = 0;
        for (int k = from; k < from + 4; k++) {
            sum = sum << 8 | (k < text.length() ? text.charAt(k) & 255 : ' ');
        }
        return sum;
    }

    /** Tells ORDERS by an empty tape. */
    static int tell(PetrolBoard board, String text, int month) {
        return board.orders(feed(board, text), month);
    }

    /** A new board on which the text was told for MONTH 0 on. */
    static PetrolBoard ordered(String text) {
        PetrolBoard board = new PetrolBoard();
        tell(board, text, 0);
        return board;
    }
}
