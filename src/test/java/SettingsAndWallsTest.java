/** Promises 1 to 5. */
public final class SettingsAndWallsTest {
    private static final Check CHECK = new Check();

    public static void main(String[] args) {
        promise1();
        promise2();
        promise3();
        promise4();
        promise5();
        CHECK.end();
    }

    private static void promise1() {
        SundialWorks works = new SundialWorks();
        int[] first = {0, 0, 0, 0, 0, 0, 0, 0, 0, 0, 0, 0, 0, 2, 5, 10, 20};
        for (int what = 0; what < first.length; what++) {
            CHECK.due("count " + what + " of a new object", first[what], works.count(what));
        }
        for (int month = 0; month < 12; month++) {
            CHECK.due("correction at first", 0, works.correction(month));
        }
        CHECK.due("no history", Check.ILLEGAL, works.undo());
        CHECK.due("no first snapshot", Check.ILLEGAL, works.restore(0));
        CHECK.due("no second snapshot", Check.ILLEGAL, works.restore(1));
        CHECK.due("no wall", Check.INVALID, works.wall(0, 0));
        CHECK.due("no commission", Check.INVALID, works.commission(0, 0));
        CHECK.due("no text", 0, works.clearText());
        SundialWorks other = new SundialWorks();
        works.addWall();
        works.set(0, 7);
        CHECK.due("objects share no walls", 0, other.count(0));
        CHECK.due("objects share no settings", 2, other.count(13));
    }

    private static void promise2() {
        SundialWorks works = new SundialWorks();
        CHECK.due("first correction", 0, works.setCorrection(0, -20));
        CHECK.due("again", -20, works.setCorrection(0, 20));
        CHECK.due("last month", 0, works.setCorrection(11, 5));
        CHECK.due("it is kept", 20, works.correction(0));
        CHECK.due("for its month", 5, works.correction(11));
        CHECK.due("and no other", 0, works.correction(10));
        int[][] wrong = {{-1, 0}, {12, 0}, {0, -21}, {0, 21}, {Integer.MIN_VALUE, 0}, {Integer.MAX_VALUE, 0},
            {0, Integer.MIN_VALUE}, {0, Integer.MAX_VALUE}};
        for (int[] pair : wrong) {
            CHECK.due("setCorrection " + pair[0] + " " + pair[1], Check.INVALID,
                    works.setCorrection(pair[0], pair[1]));
        }
        CHECK.due("an error changes nothing", 20, works.correction(0));
        CHECK.due("each success is an action", 3, works.count(11));
        CHECK.due("undo takes the last back", 2, works.undo());
        CHECK.due("undone", 0, works.correction(11));
        CHECK.due("the earlier ones stay", 20, works.correction(0));
    }

    private static void promise3() {
        SundialWorks works = new SundialWorks();
        int[] first = {2, 5, 10, 20};
        int[] least = {0, 1, 0, 1};
        int[] greatest = {10, 13, 60, 100};
        for (int what = 0; what < 4; what++) {
            CHECK.due("first value", first[what], works.set(what, least[what]));
            CHECK.due("least value", least[what], works.set(what, greatest[what]));
            CHECK.due("greatest value", greatest[what], works.set(what, greatest[what]));
            CHECK.due("too small", Check.INVALID, works.set(what, least[what] - 1));
            CHECK.due("too great", Check.INVALID, works.set(what, greatest[what] + 1));
            CHECK.due("far too small", Check.INVALID, works.set(what, Integer.MIN_VALUE));
            CHECK.due("far too great", Check.INVALID, works.set(what, Integer.MAX_VALUE));
            CHECK.due("it is kept", greatest[what], works.count(13 + what));
        }
        CHECK.due("no setting -1", Check.INVALID, works.set(-1, 5));
        CHECK.due("no setting 4", Check.INVALID, works.set(4, 5));
        CHECK.due("no setting at all", Check.INVALID, works.set(Integer.MIN_VALUE, 5));
        CHECK.due("an action also if nothing changes", 5, works.count(11));
        works.undo();
        CHECK.due("the same value undone", 100, works.count(16));
        works.undo();
        CHECK.due("undone", 1, works.count(16));
        works.undo();
        CHECK.due("undone to the first", 20, works.count(16));
    }

    private static void promise4() {
        SundialWorks works = new SundialWorks();
        for (int number = 0; number < 6; number++) {
            CHECK.due("number of the wall", number, works.addWall());
            CHECK.due("no latest measurement", Check.NONE, works.wall(number, 0));
            CHECK.due("none before", Check.NONE, works.wall(number, 1));
            CHECK.due("not known", Check.NONE, works.wall(number, 2));
        }
        CHECK.due("history", 5, works.count(11));
        CHECK.due("a seventh wall", Check.FULL, works.addWall());
        CHECK.due("is not added", 6, works.count(0));
        CHECK.due("undo", 4, works.undo());
        CHECK.due("undo takes a wall away", 5, works.count(0));
        CHECK.due("its number is free again", 5, works.addWall());
        works = new SundialWorks();
        Check.knownWall(works, 30);
        works.undo();
        works.undo();
        works.undo();
        CHECK.due("added again", 0, works.addWall());
        CHECK.due("without a measurement", Check.NONE, works.wall(0, 0));
    }

    private static void promise5() {
        SundialWorks works = new SundialWorks();
        CHECK.due("no wall to measure", Check.INVALID, works.measure(0, 0));
        works.addWall();
        CHECK.due("one measurement", 0, works.measure(0, 10));
        CHECK.due("two that are near", 1, works.measure(0, 12));
        CHECK.due("the third is too far from the second", 0, works.measure(0, 9));
        CHECK.due("latest", 9, works.wall(0, 0));
        CHECK.due("the one before", 12, works.wall(0, 1));
        CHECK.due("only the two latest count", 1, works.measure(0, 7));
        CHECK.due("greatest", 0, works.measure(0, 60));
        CHECK.due("least", 0, works.measure(0, -60));
        CHECK.due("the difference has no sign", 0, works.measure(0, 60));
        int[][] wrong = {{0, 61}, {0, -61}, {1, 0}, {-1, 0}, {6, 0}, {0, Integer.MIN_VALUE}, {0, Integer.MAX_VALUE},
            {Integer.MIN_VALUE, 0}, {Integer.MAX_VALUE, 0}};
        for (int[] pair : wrong) {
            CHECK.due("measure " + pair[0] + " " + pair[1], Check.INVALID, works.measure(pair[0], pair[1]));
        }
        CHECK.due("an error measures nothing", 60, works.wall(0, 0));
        CHECK.due("nor shifts", -60, works.wall(0, 1));
        works.undo();
        CHECK.due("undone", -60, works.wall(0, 0));
        CHECK.due("and the one before", 60, works.wall(0, 1));
        tolerance();
    }

    private static void tolerance() {
        SundialWorks works = new SundialWorks();
        works.addWall();
        works.set(0, 0);
        works.measure(0, 5);
        CHECK.due("no tolerance", 0, works.measure(0, 4));
        CHECK.due("the same twice", 1, works.measure(0, 4));
        works.set(0, 10);
        CHECK.due("ten degrees are let", 1, works.measure(0, 14));
        CHECK.due("eleven are not", 0, works.measure(0, 3));
        CHECK.due("zero counts as a measurement", 1, works.measure(0, 0));
    }
}
