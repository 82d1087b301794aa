/** Promises 6 to 10. */
public final class CommissionsTest {
    private static final Check CHECK = new Check();

    public static void main(String[] args) {
        promise6();
        promise7();
        promise8();
        promise9();
        promise10();
        CHECK.end();
    }

    private static void promise6() {
        SundialWorks works = new SundialWorks();
        CHECK.due("no such wall", Check.INVALID, works.ask(50, 0, 30, 0));
        works.addWall();
        CHECK.due("horizontal", 0, works.ask(10, -1, 10, -60));
        CHECK.due("vertical, the wall not known yet", 1, works.ask(70, 0, 60, 60));
        int[][] wrong = {{9, -1, 30, 0}, {71, -1, 30, 0}, {50, -2, 30, 0}, {50, 1, 30, 0}, {50, 0, 9, 0},
            {50, 0, 61, 0}, {50, 0, 30, -61}, {50, 0, 30, 61}, {Integer.MIN_VALUE, -1, 30, 0},
            {50, Integer.MIN_VALUE, 30, 0}, {50, Integer.MAX_VALUE, 30, 0}, {50, 0, Integer.MAX_VALUE, 0},
            {50, 0, 30, Integer.MIN_VALUE}};
        for (int[] n : wrong) {
            CHECK.due("a wrong argument", Check.INVALID, works.ask(n[0], n[1], n[2], n[3]));
        }
        CHECK.due("errors add nothing", 2, works.count(2));
        CHECK.due("errors are no actions", 3, works.count(11));
        int[] asked = {70, 0, 60, 60, 0, Check.NONE, 36, Check.NONE, 0};
        for (int what = 0; what < asked.length; what++) {
            CHECK.due("property " + what, asked[what], works.commission(1, what));
        }
        for (int number = 2; number < 10; number++) {
            CHECK.due("number", number, works.ask(50, -1, 20, 0));
        }
        CHECK.due("an eleventh", Check.FULL, works.ask(50, -1, 20, 0));
        CHECK.due("an eleventh with a wrong argument", Check.INVALID, works.ask(50, -1, 61, 0));
        CHECK.due("still ten", 10, works.count(2));
        works.undo();
        CHECK.due("undone", 9, works.count(2));
        numberThatIsUsedAgain();
    }

    private static void numberThatIsUsedAgain() {
        SundialWorks works = new SundialWorks();
        works.ask(50, -1, 60, 0);
        works.decide(0);
        works.undo();
        works.undo();
        CHECK.due("asked in its place", 0, works.ask(40, -1, 20, 3));
        CHECK.due("asked", 0, works.commission(0, 4));
        CHECK.due("never refused", 0, works.commission(0, 8));
        CHECK.due("never cast", Check.NONE, works.commission(0, 7));
    }

    private static void promise7() {
        SundialWorks works = new SundialWorks();
        CHECK.due("no such commission", Check.INVALID, works.decide(0));
        works.addWall();
        works.ask(50, 0, 60, 0);
        works.set(1, 13);
        works.set(2, 0);
        CHECK.due("no dial comes first", 1, works.decide(0));
        CHECK.due("refused", 4, works.commission(0, 4));
        CHECK.due("the reason is kept", 1, works.commission(0, 8));
        CHECK.due("not asked any more", Check.ILLEGAL, works.decide(0));
        works.measure(0, 0);
        works.measure(0, 0);
        works.askAgain(0);
        CHECK.due("too few lines come before the bound", 2, works.decide(0));
        works.set(1, 1);
        works.askAgain(0);
        CHECK.due("the bound comes before the weight", 3, works.decide(0));
        works.set(2, 60);
        works.askAgain(0);
        CHECK.due("the weight comes last", 4, works.decide(0));
        works.set(3, 36);
        works.askAgain(0);
        CHECK.due("accepted", 0, works.decide(0));
        CHECK.due("its state", 1, works.commission(0, 4));
        CHECK.due("the last reason stays", 4, works.commission(0, 8));
        CHECK.due("accepted is not asked", Check.ILLEGAL, works.decide(0));
        for (int wrong : new int[] {-1, 1, 10, Integer.MIN_VALUE, Integer.MAX_VALUE}) {
            CHECK.due("decide " + wrong, Check.INVALID, works.decide(wrong));
        }
        works.undo();
        CHECK.due("undone to asked", 0, works.commission(0, 4));
        edgesOfTheReasons();
        declinationIsKept();
    }

    private static void edgesOfTheReasons() {
        SundialWorks works = new SundialWorks();
        works.ask(50, -1, 30, 0);
        works.ask(50, -1, 30, 0);
        int lines = works.lines(0, 0);
        int apart = works.apart(0, 0);
        works.set(1, lines + 1);
        CHECK.due("a line too few", 2, works.decide(0));
        works.set(1, lines);
        works.set(2, apart - 1);
        CHECK.due("a minute too far", 3, works.decide(1));
        works.set(2, apart);
        works.set(3, 8);
        CHECK.due("asked again, too heavy", 4, works.askAgain(0));
        CHECK.due("a kilogram too heavy", 4, works.decide(0));
        works.set(3, 9);
        CHECK.due("asked again", 0, works.askAgain(1));
        CHECK.due("just good enough", 0, works.decide(1));
    }

    private static void declinationIsKept() {
        SundialWorks works = new SundialWorks();
        int wall = Check.knownWall(works, 20);
        works.set(2, 60);
        works.ask(45, wall, 20, 0);
        works.ask(45, wall, 20, 0);
        CHECK.due("accepted", 0, works.decide(0));
        works.measure(wall, -30);
        CHECK.due("the wall is not known", 0, works.count(1));
        CHECK.due("the accepted one keeps its declination", 20, works.commission(0, 5));
        CHECK.due("the asked one has no dial", Check.NONE, works.commission(1, 5));
        CHECK.due("nor is it accepted", 1, works.decide(1));
        works.measure(wall, -30);
        CHECK.due("the refused one has its dial by the wall as it is", -30, works.commission(1, 5));
        works.cast();
        CHECK.due("the cast one keeps it", 20, works.commission(0, 5));
        works.deliver(0);
        CHECK.due("the delivered one keeps it", 20, works.commission(0, 5));
        CHECK.due("its offsets, too", (int) Geometry.of(45, 20).offsets[360 + 75], works.offset(0, 75));
        CHECK.due("the other's offsets", (int) Geometry.of(45, -30).offsets[360 + 75], works.offset(1, 75));
        CHECK.due("its reason is by the kept dial", 0, works.reason(0));
    }

    private static void promise8() {
        SundialWorks works = new SundialWorks();
        CHECK.due("no such commission", Check.INVALID, works.askAgain(0));
        works.addWall();
        works.ask(50, 0, 60, 0);
        CHECK.due("asked is not refused", Check.ILLEGAL, works.askAgain(0));
        works.decide(0);
        CHECK.due("refused", 4, works.commission(0, 4));
        CHECK.due("the reason stays without a dial", 1, works.askAgain(0));
        CHECK.due("asked again", 0, works.commission(0, 4));
        CHECK.due("twice is not let", Check.ILLEGAL, works.askAgain(0));
        works.decide(0);
        works.measure(0, 0);
        works.measure(0, 0);
        CHECK.due("now it is too heavy", 4, works.askAgain(0));
        CHECK.due("the reason of the last refusal stays", 1, works.commission(0, 8));
        works.set(3, 100);
        works.decide(0);
        CHECK.due("accepted is not refused", Check.ILLEGAL, works.askAgain(0));
        works.cast();
        CHECK.due("cast is not refused", Check.ILLEGAL, works.askAgain(0));
        works.deliver(0);
        CHECK.due("delivered is not refused", Check.ILLEGAL, works.askAgain(0));
        for (int wrong : new int[] {-1, 1, 10, Integer.MIN_VALUE, Integer.MAX_VALUE}) {
            CHECK.due("askAgain " + wrong, Check.INVALID, works.askAgain(wrong));
        }
        works.set(1, 12);
        works.ask(50, -1, 20, 0);
        CHECK.due("eleven lines only", 2, works.decide(1));
        works.set(1, 11);
        int history = works.count(11);
        CHECK.due("none applies any more", 0, works.askAgain(1));
        CHECK.due("it is an action", 5, history);
        CHECK.due("undo", 4, works.undo());
        CHECK.due("refused as before", 4, works.commission(1, 4));
    }

    private static void promise9() {
        SundialWorks works = new SundialWorks();
        CHECK.due("nothing to cast", Check.ILLEGAL, works.cast());
        works = Check.withAccepted(30, 35, 20, 30, 26);
        CHECK.due("9 + 4 + 7 fit a melt of 20, not 12 nor the second 9", 3, castWith(works, 20));
        int[] states = {2, 1, 2, 1, 2};
        for (int c = 0; c < 5; c++) {
            CHECK.due("state of " + c, states[c], works.commission(c, 4));
            CHECK.due("casting of " + c, states[c] == 2 ? 0 : Check.NONE, works.commission(c, 7));
        }
        CHECK.due("castings", 1, works.count(8));
        CHECK.due("kilograms", 20, works.count(9));
        CHECK.due("none fits", Check.ILLEGAL, castWith(works, 8));
        CHECK.due("and nothing is cast", 1, works.count(8));
        CHECK.due("the later one fits", 1, castWith(works, 11));
        CHECK.due("in the second casting", 1, works.commission(3, 7));
        CHECK.due("one of just a melt", 1, castWith(works, 12));
        CHECK.due("in the third", 2, works.commission(1, 7));
        CHECK.due("castings", 3, works.count(8));
        CHECK.due("kilograms", 41, works.count(9));
        CHECK.due("no more", Check.ILLEGAL, castWith(works, 100));
        works.undo();
        works.undo();
        CHECK.due("undone", 1, works.commission(1, 4));
        CHECK.due("its casting, too", Check.NONE, works.commission(1, 7));
        CHECK.due("the kilograms, too", 29, works.count(9));
        CHECK.due("the castings, too", 2, works.count(8));
        works.ask(50, -1, 10, 0);
        works.set(3, 100);
        CHECK.due("an asked one is not cast", 1, works.cast());
        CHECK.due("still asked", 0, works.commission(5, 4));
        works = Check.withAccepted(10, 10, 10, 10, 10, 10, 10, 10, 10, 10);
        CHECK.due("all ten at once", 10, works.cast());
        CHECK.due("their kilograms", 10, works.count(9));
    }

    private static int castWith(SundialWorks works, int melt) {
        works.set(3, melt);
        return works.cast();
    }

    private static void promise10() {
        SundialWorks works = Check.withAccepted(20, 20, 20);
        works.ask(50, -1, 60, 0);
        CHECK.due("accepted is not cast", Check.ILLEGAL, works.deliver(0));
        CHECK.due("asked is not cast", Check.ILLEGAL, works.deliver(3));
        works.decide(3);
        CHECK.due("refused is not cast", Check.ILLEGAL, works.deliver(3));
        works.cast();
        CHECK.due("the first that is delivered", 1, works.deliver(1));
        CHECK.due("its state", 3, works.commission(1, 4));
        CHECK.due("delivered is not cast", Check.ILLEGAL, works.deliver(1));
        CHECK.due("the second", 2, works.deliver(0));
        for (int wrong : new int[] {-1, 4, 10, Integer.MIN_VALUE, Integer.MAX_VALUE}) {
            CHECK.due("deliver " + wrong, Check.INVALID, works.deliver(wrong));
        }
        works.undo();
        CHECK.due("undone", 2, works.commission(0, 4));
        CHECK.due("delivered again", 2, works.deliver(0));
        CHECK.due("the third", 3, works.deliver(2));
        CHECK.due("the casting stays", 0, works.commission(2, 7));
    }
}
