/** Promises 17 to 20. */
public final class LookingTest {
    private static final Check CHECK = new Check();
    private static final int[] FAR_OFF = {Integer.MIN_VALUE, -100009, -2, -1, 100, Integer.MAX_VALUE};

    public static void main(String[] args) {
        promise17();
        promise18();
        promise19();
        promise20();
        CHECK.end();
    }

    /** Two walls of three are known; one commission is asked, two accepted, three cast, one delivered, three refused. */
    private static SundialWorks busyWorkshop() {
        SundialWorks works = new SundialWorks();
        works.set(2, 60);
        Check.knownWall(works, 10);
        works.addWall();
        Check.knownWall(works, -20);
        works.ask(50, 0, 20, 1);
        works.ask(51, 2, 21, -2);
        works.ask(52, -1, 22, 3);
        works.ask(53, 2, 10, -4);
        for (int i = 4; i < 7; i++) {
            works.ask(50 + i, 1, 30, 0);
        }
        for (int c = 0; c < 7; c++) {
            works.decide(c);
        }
        works.cast();
        works.deliver(1);
        works.ask(60, 0, 40, 0);
        works.ask(61, 2, 30, 0);
        works.ask(62, -1, 25, 60);
        works.decide(7);
        works.decide(8);
        return works;
    }

    private static void promise17() {
        SundialWorks works = busyWorkshop();
        works.take(1);
        works.set(0, 3);
        works.set(1, 4);
        works.set(3, 25);
        Check.type(works, "wall");
        int[] due = {3, 2, 10, 1, 2, 3, 1, 3, 1, 14, 1, 5, 4, 3, 4, 60, 25};
        for (int what = 0; what < due.length; what++) {
            CHECK.due("count " + what, due[what], works.count(what));
        }
        CHECK.due("no number -1", Check.INVALID, works.count(-1));
        CHECK.due("no number 17", Check.INVALID, works.count(17));
        for (int wrong : FAR_OFF) {
            CHECK.due("count " + wrong, Check.INVALID, works.count(wrong));
        }
        works.undo();
        CHECK.due("states in the history", 4, works.count(11));
        CHECK.due("the settings go back", 20, works.count(16));
        works.measure(1, 3);
        works.measure(1, 9);
        CHECK.due("six degrees are too many", 2, works.count(1));
        works.set(0, 6);
        CHECK.due("not for a tolerance of 6", 3, works.count(1));
        for (int wall = 3; wall < 6; wall++) {
            CHECK.due("the next wall", wall, Check.knownWall(works, wall));
        }
        CHECK.due("six known walls", 6, works.count(1));
    }

    private static void promise18() {
        SundialWorks works = busyWorkshop();
        CHECK.due("commissions for a wall", 2, works.wall(0, 3));
        CHECK.due("of any state", 3, works.wall(1, 3));
        CHECK.due("delivered ones, too", 3, works.wall(2, 3));
        CHECK.due("latest", Check.NONE, works.wall(1, 0));
        works.measure(1, 7);
        CHECK.due("latest", 7, works.wall(1, 0));
        CHECK.due("the one before", Check.NONE, works.wall(1, 1));
        CHECK.due("not known", Check.NONE, works.wall(1, 2));
        works.measure(1, 8);
        CHECK.due("latest", 8, works.wall(1, 0));
        CHECK.due("the one before", 7, works.wall(1, 1));
        CHECK.due("7.5 is rounded to 8", 8, works.wall(1, 2));
        works.set(0, 0);
        CHECK.due("the tolerance counts now", Check.NONE, works.wall(1, 2));
        works.set(0, 10);
        works.measure(1, -1);
        works.measure(1, -2);
        CHECK.due("-1.5 is rounded to -1", -1, works.wall(1, 2));
        works.measure(1, 1);
        CHECK.due("-0.5 is rounded to 0", 0, works.wall(1, 2));
        works.measure(1, -7);
        CHECK.due("-3 is whole", -3, works.wall(1, 2));
        CHECK.due("no such property", Check.INVALID, works.wall(0, 4));
        CHECK.due("no such property", Check.INVALID, works.wall(0, -1));
        CHECK.due("no such wall", Check.INVALID, works.wall(3, 0));
        for (int wrong : FAR_OFF) {
            CHECK.due("wall " + wrong, Check.INVALID, works.wall(wrong, 0));
            CHECK.due("wall 0 " + wrong, Check.INVALID, works.wall(0, wrong));
        }
    }

    private static void promise19() {
        SundialWorks works = busyWorkshop();
        int[][] due = {
            {50, 0, 20, 1, 2, 10, 4, 0, 0},
            {51, 2, 21, -2, 3, -20, 4, 0, 0},
            {52, -1, 22, 3, 2, 0, 5, 0, 0},
            {53, 2, 10, -4, 2, -20, 1, 0, 0},
            {54, 1, 30, 0, 4, Check.NONE, 9, Check.NONE, 1},
            {55, 1, 30, 0, 4, Check.NONE, 9, Check.NONE, 1},
            {56, 1, 30, 0, 4, Check.NONE, 9, Check.NONE, 1},
            {60, 0, 40, 0, 1, 10, 16, Check.NONE, 0},
            {61, 2, 30, 0, 1, -20, 9, Check.NONE, 0},
            {62, -1, 25, 60, 0, 0, 6, Check.NONE, 0}};
        for (int c = 0; c < 10; c++) {
            for (int what = 0; what < 9; what++) {
                CHECK.due("commission " + c + " " + what, due[c][what], works.commission(c, what));
            }
            CHECK.due("no such property", Check.INVALID, works.commission(c, 9));
            CHECK.due("no such property", Check.INVALID, works.commission(c, -1));
        }
        CHECK.due("no such commission", Check.INVALID, works.commission(10, 0));
        works.undo();
        works.undo();
        works.undo();
        CHECK.due("nine are left", Check.INVALID, works.commission(9, 0));
        for (int wrong : FAR_OFF) {
            CHECK.due("commission " + wrong, Check.INVALID, works.commission(wrong, 0));
            CHECK.due("commission 0 " + wrong, Check.INVALID, works.commission(0, wrong));
        }
        weights();
    }

    private static void weights() {
        int[] sizes = {10, 12, 13, 15, 18, 25, 35, 42, 58, 60};
        int[] weights = {1, 1, 2, 2, 3, 6, 12, 18, 34, 36};
        SundialWorks works = new SundialWorks();
        for (int i = 0; i < sizes.length; i++) {
            works.ask(40, -1, sizes[i], 0);
            CHECK.due("weight for the size " + sizes[i], weights[i], works.commission(i, 6));
        }
    }

    private static void promise20() {
        SundialWorks works = new SundialWorks();
        for (int month = 0; month < 12; month++) {
            works.setCorrection(month, 2 * month - 11);
        }
        for (int month = 0; month < 12; month++) {
            CHECK.due("correction " + month, 2 * month - 11, works.correction(month));
        }
        CHECK.due("month -1", Check.INVALID, works.correction(-1));
        CHECK.due("month 12", Check.INVALID, works.correction(12));
        for (int wrong : FAR_OFF) {
            CHECK.due("correction " + wrong, Check.INVALID, works.correction(wrong));
        }
    }
}
