/** Workshops that are built in the same way each time, in at most 250 calls, to be held against one another. */
final class Scenes {
    /** A way to build a workshop. */
    interface Scene {
        void build(SundialWorks works);
    }

    private Scenes() {
    }

    static SundialWorks made(Scene scene) {
        SundialWorks works = new SundialWorks();
        scene.build(works);
        return works;
    }

    static void fresh(SundialWorks works) {
    }

    /**
     * Wall 2 is not known. Commission 0 is asked, 1 accepted but heavier than a melt, 2 cast, 3 delivered, 4 refused
     * (it has no dial). Both snapshots and the history are full, of states that differ.
     */
    static void busy(SundialWorks works) {
        begin(works);
        works.take(1);
        works.decide(1);
        works.set(3, 3);
        works.setCorrection(5, 5);
        works.measure(2, 60);
        works.take(0);
        Check.type(works, "wall;measure 2 59;flat 60 20;decide 0;");
    }

    private static void begin(SundialWorks works) {
        works.set(0, 3);
        works.set(1, 4);
        works.set(2, 60);
        works.set(3, 25);
        works.setCorrection(0, -20);
        works.setCorrection(11, 20);
        Check.knownWall(works, 10);
        Check.knownWall(works, -20);
        works.addWall();
        works.measure(2, 7);
        works.take(0);
        works.ask(50, 0, 20, 1);
        works.ask(51, 1, 21, -2);
        works.ask(52, -1, 22, 3);
        works.ask(53, 1, 10, -4);
        works.ask(54, 2, 30, 5);
        works.decide(2);
        works.decide(3);
        works.decide(4);
        works.cast();
        works.deliver(3);
    }

    /** As busy, but the history has room for one more state, and a melt is heavy enough for the accepted commission. */
    static void roomy(SundialWorks works) {
        busy(works);
        works.set(3, 5);
        works.undo();
        works.undo();
        works.set(3, 5);
        works.clearText();
    }

    /** Six walls, ten commissions that are asked, and a text of 140 characters, which would run. */
    static void full(SundialWorks works) {
        works.take(0);
        for (int i = 0; i < 10; i++) {
            if (i < 6) {
                works.addWall();
            }
            works.ask(40 + i, i % 5 - 1, 20 + i, i);
        }
        Check.type(works, "measure 5 -60;" + " ".repeat(126));
    }

    /** A workshop in which something was done, but nothing is left to undo, and the second slot is empty. */
    static void undone(SundialWorks works) {
        begin(works);
        works.decide(0);
        works.decide(1);
        works.set(0, 5);
        works.addWall();
        works.take(1);
        for (int i = 0; i < 5; i++) {
            works.undo();
        }
        Check.type(works, "cast;");
    }
}
