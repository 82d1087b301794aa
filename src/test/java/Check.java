import java.io.IOException;
import java.io.UncheckedIOException;
import java.nio.charset.StandardCharsets;
import java.nio.file.Files;
import java.nio.file.Path;
import java.util.function.IntUnaryOperator;

/** Counts the answers that are not due, and ends a test with exit code 1 if there was one. */
final class Check {
    static final int INVALID = -100001;
    static final int ILLEGAL = -100002;
    static final int FULL = -100003;
    static final int NONE = -100009;

    private int made;
    private int wrong;
    private String document;
    private String sentence = "";
    private int madeBeforeSentence = -1;

    void due(String call, long want, long got) {
        made++;
        if (got != want) {
            complain(call + " answered " + got + ", due is " + want);
        }
    }

    void holds(String what, boolean holds) {
        made++;
        if (!holds) {
            complain(what + " does not hold");
        }
    }

    private void complain(String text) {
        wrong++;
        if (wrong <= 40) {
            System.out.println((sentence.isEmpty() ? "" : "\"" + sentence + "\": ") + text);
        }
    }

    /** Begins the test of a sentence of the document, or of a part of one, which must stand there in these words. */
    void sentence(String words) {
        endSentence();
        sentence = words;
        holds("that the document says so", document().contains(words));
        madeBeforeSentence = made;
    }

    /** A sentence that is told without a check counts as wrong. */
    private void endSentence() {
        if (made == madeBeforeSentence) {
            complain("no check was made");
        }
        madeBeforeSentence = -1;
    }

    private String document() {
        if (document == null) {
            try {
                document = Files.readString(Path.of("../shared/DOC.md"), StandardCharsets.UTF_8).replaceAll("\\s+", " ");
            } catch (IOException e) {
                throw new UncheckedIOException(e);
            }
        }
        return document;
    }

    void end() {
        endSentence();
        System.out.println(made + " checks, " + wrong + " wrong");
        if (wrong != 0 || made == 0) {
            System.exit(1);
        }
    }

    /**
     * An argument that may be from the least to the greatest: both ends are let, and what is one beyond or far off is
     * not, nor what would be let if its upper bits were lost. The call makes a new object for each argument.
     */
    void range(String what, int least, int greatest, IntUnaryOperator call) {
        for (int let : new int[] {least, greatest}) {
            int answer = call.applyAsInt(let);
            holds(what + " " + let + " is let (" + answer + ")", !isError(answer));
        }
        due(what + " " + (least - 1), INVALID, call.applyAsInt(least - 1));
        due(what + " " + (greatest + 1), INVALID, call.applyAsInt(greatest + 1));
        for (int far : new int[] {Integer.MIN_VALUE, Integer.MIN_VALUE + 1, Integer.MAX_VALUE - 1, Integer.MAX_VALUE}) {
            due(what + " " + far, INVALID, call.applyAsInt(far));
        }
        for (int bit = 3; bit < 32; bit++) {
            for (int cut : new int[] {least + (1 << bit), greatest - (1 << bit)}) {
                if (cut < least || cut > greatest) {
                    due(what + " " + cut, INVALID, call.applyAsInt(cut));
                }
            }
        }
    }

    static boolean isError(int answer) {
        return answer == INVALID || answer == ILLEGAL || answer == FULL;
    }

    /** Appends a text. */
    static void type(SundialWorks works, String text) {
        for (int i = 0; i < text.length(); i++) {
            works.append(text.charAt(i));
        }
    }

    /** Runs a text as a program, in place of the text that was there. */
    static int run(SundialWorks works, String text) {
        works.clearText();
        type(works, text);
        return works.run();
    }

    /** Adds a wall of this declination, and answers its number. */
    static int knownWall(SundialWorks works, int declination) {
        int wall = works.addWall();
        works.measure(wall, declination);
        works.measure(wall, declination);
        return wall;
    }

    /** A workshop with one commission for a dial (a declination of 100 for a horizontal one). */
    static SundialWorks withDial(int latitude, int declination) {
        SundialWorks works = new SundialWorks();
        works.ask(latitude, declination == 100 ? -1 : knownWall(works, declination), 20, 0);
        return works;
    }

    /** A workshop with one commission that has no dial, for its wall is not known. */
    static SundialWorks withoutDial() {
        SundialWorks works = new SundialWorks();
        works.ask(50, works.addWall(), 20, 0);
        return works;
    }

    /** A workshop in which every dial is good, with horizontal dials of these sizes that are accepted. */
    static SundialWorks withAccepted(int... sizes) {
        SundialWorks works = new SundialWorks();
        works.set(2, 60);
        for (int size : sizes) {
            works.decide(works.ask(50, -1, size, 0));
        }
        return works;
    }
}
