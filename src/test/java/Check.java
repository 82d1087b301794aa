/** Counts the answers that are not due, and ends a test with exit code 1 if there was one. */
final class Check {
    static final int INVALID = -100001;
    static final int ILLEGAL = -100002;
    static final int FULL = -100003;
    static final int NONE = -100009;

    private int made;
    private int wrong;

    void due(String call, long want, long got) {
        made++;
        if (got == want) {
            return;
        }
        wrong++;
        if (wrong <= 40) {
            System.out.println(call + " answered " + got + ", due is " + want);
        }
    }

    void holds(String what, boolean holds) {
        due(what, 1, holds ? 1 : 0);
    }

    void end() {
        System.out.println(made + " checks, " + wrong + " wrong");
        if (wrong != 0 || made == 0) {
            System.exit(1);
        }
    }

    /** Appends a text. */
    static void type(SundialWorks works, String text) {
        for (int i = 0; i < text.length(); i++) {
            works.append(text.charAt(i));
        }
    }

    /** Runs a text as a program, in place of the text that was there. */
    static int run(SundialWorks works, String text) {
        works.clearText();
        type(works, text);
        return works.run();
    }

    /** Adds a wall of this declination, and answers its number. */
    static int knownWall(SundialWorks works, int declination) {
        int wall = works.addWall();
        works.measure(wall, declination);
        works.measure(wall, declination);
        return wall;
    }

    /** A workshop with one commission for a dial (a declination of 100 for a horizontal one). */
    static SundialWorks withDial(int latitude, int declination) {
        SundialWorks works = new SundialWorks();
        works.ask(latitude, declination == 100 ? -1 : knownWall(works, declination), 20, 0);
        return works;
    }

    /** A workshop in which every dial is good, with horizontal dials of these sizes that are accepted. */
    static SundialWorks withAccepted(int... sizes) {
        SundialWorks works = new SundialWorks();
        works.set(2, 60);
        for (int size : sizes) {
            works.decide(works.ask(50, -1, size, 0));
        }
        return works;
    }
}
