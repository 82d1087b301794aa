/** The boundaries that promises 1 to 5 name, with the sentences of the terms that they rest on. */
public final class EdgesOfSettingsAndWallsTest {
    private static final Check CHECK = new Check();

    public static void main(String[] args) {
        constants();
        lastCall();
        promise1();
        promise2();
        promise3();
        promise4();
        promise5();
        CHECK.end();
    }

    private static void constants() {
        CHECK.sentence("`INVALID_ARGUMENT = -100001`: An argument is out of range, or names something that does not exist.");
        CHECK.due("INVALID_ARGUMENT", -100001, SundialWorks.INVALID_ARGUMENT);
        CHECK.due("out of range", -100001, new SundialWorks().set(0, 11));
        CHECK.due("does not exist", -100001, new SundialWorks().measure(0, 0));
        CHECK.sentence("`ILLEGAL_STATE = -100002`: The call is not possible in the present state.");
        CHECK.due("ILLEGAL_STATE", -100002, SundialWorks.ILLEGAL_STATE);
        CHECK.due("nothing to undo", -100002, new SundialWorks().undo());
        CHECK.sentence("`CAPACITY_EXCEEDED = -100003`: There is no room.");
        CHECK.due("CAPACITY_EXCEEDED", -100003, SundialWorks.CAPACITY_EXCEEDED);
        CHECK.due("a seventh wall", -100003, withWalls(6).addWall());
        CHECK.sentence("`NONE = -100009`: There is no such value.");
        CHECK.due("NONE", -100009, SundialWorks.NONE);
        CHECK.due("no measurement", -100009, withWalls(1).wall(0, 0));
    }

    private static void lastCall() {
        CHECK.sentence("An object is used for at most 512 calls after it has been made;");
        SundialWorks works = new SundialWorks();
        for (int call = 1; call <= 506; call++) {
            works.set(0, call % 11);
        }
        for (int call = 507; call <= 511; call++) {
            CHECK.due("call " + call, 511 - call, works.undo());
        }
        CHECK.due("call 512: the tolerance that call 501 set", 501 % 11, works.count(13));
        works = new SundialWorks();
        for (int call = 1; call <= 511; call++) {
            works.setCorrection(call % 12, call % 41 - 20);
        }
        CHECK.due("call 512", 511 % 41 - 20, works.correction(511 % 12));
    }

    private static SundialWorks withWalls(int number) {
        SundialWorks works = new SundialWorks();
        for (int i = 0; i < number; i++) {
            works.addWall();
        }
        return works;
    }

    private static void promise1() {
        CHECK.sentence("Creates a workshop without walls and commissions, with an empty text.");
        CHECK.due("walls", 0, new SundialWorks().count(0));
        CHECK.due("known walls", 0, new SundialWorks().count(1));
        CHECK.due("commissions", 0, new SundialWorks().count(2));
        CHECK.due("castings", 0, new SundialWorks().count(8));
        CHECK.due("kilograms", 0, new SundialWorks().count(9));
        CHECK.due("states in the history", 0, new SundialWorks().count(11));
        CHECK.due("the text", 0, new SundialWorks().count(12));
        CHECK.due("no wall 0", Check.INVALID, new SundialWorks().wall(0, 0));
        CHECK.due("no commission 0", Check.INVALID, new SundialWorks().commission(0, 0));
        CHECK.due("an empty program", 0, new SundialWorks().run());
        CHECK.sentence("Each month, 0 to 11, has a correction of -20 to 20 minutes (at first 0).");
        for (int month = 0; month <= 11; month++) {
            CHECK.due("month " + month, 0, new SundialWorks().correction(month));
        }
        CHECK.sentence("There are two slots for snapshots, empty at first.");
        CHECK.due("slot 0", Check.ILLEGAL, new SundialWorks().restore(0));
        CHECK.due("slot 1", Check.ILLEGAL, new SundialWorks().restore(1));
        CHECK.due("no slot 2", Check.INVALID, new SundialWorks().restore(2));
        CHECK.due("snapshots", 0, new SundialWorks().count(10));
        firstSettings();
    }

    private static void firstSettings() {
        CHECK.sentence("the tolerance (0 to 10, at first 2)");
        CHECK.due("setting 0", 2, new SundialWorks().count(13));
        CHECK.due("two degrees", 1, measured(new SundialWorks(), 10, 12));
        CHECK.due("three degrees", 0, measured(new SundialWorks(), 10, 13));
        CHECK.sentence("its dial has fewer hour lines than the least number (1 to 13, at first 5)");
        CHECK.due("setting 1", 5, new SundialWorks().count(14));
        CHECK.sentence("its dial is farther apart than the bound (0 to 60 minutes, at first 10)");
        CHECK.due("setting 2", 10, new SundialWorks().count(15));
        CHECK.due("ten minutes apart", 10, Check.withDial(36, 0).apart(0, 0));
        CHECK.due("are let", 0, Check.withDial(36, 0).reason(0));
        CHECK.due("eleven minutes apart", 11, Check.withDial(36, 46).apart(0, 0));
        CHECK.due("are not", 3, Check.withDial(36, 46).reason(0));
        CHECK.sentence("a melt gives at most so many kilograms (1 to 100, at first 20)");
        CHECK.due("setting 3", 20, new SundialWorks().count(16));
        SundialWorks works = new SundialWorks();
        works.ask(50, -1, 45, 0);
        works.ask(50, -1, 46, 0);
        CHECK.due("20 kilograms", 20, works.commission(0, 6));
        CHECK.due("are let", 0, works.reason(0));
        CHECK.due("21 kilograms", 21, works.commission(1, 6));
        CHECK.due("are not", 4, works.reason(1));
    }

    private static void promise2() {
        CHECK.sentence("Sets the correction of a month. This is an action. - `month`: 0 to 11");
        CHECK.range("month", 0, 11, month -> new SundialWorks().setCorrection(month, 7));
        CHECK.sentence("`minutes`: -20 to 20");
        CHECK.range("minutes", -20, 20, minutes -> new SundialWorks().setCorrection(0, minutes));
        CHECK.range("minutes of the last month", -20, 20, minutes -> new SundialWorks().setCorrection(11, minutes));
        CHECK.sentence("Sets the correction of a month.");
        for (int month = 0; month <= 11; month++) {
            SundialWorks works = new SundialWorks();
            works.setCorrection(month, month % 2 == 0 ? 20 : -20);
            for (int other = 0; other <= 11; other++) {
                int want = other != month ? 0 : month % 2 == 0 ? 20 : -20;
                CHECK.due("month " + other + " after month " + month, want, works.correction(other));
            }
        }
        CHECK.sentence("Returns the previous correction; INVALID_ARGUMENT if an argument is out of range.");
        SundialWorks works = new SundialWorks();
        CHECK.due("first", 0, works.setCorrection(11, -20));
        CHECK.due("then the least", -20, works.setCorrection(11, 20));
        CHECK.due("then the greatest", 20, works.setCorrection(11, 0));
        CHECK.due("then nothing", 0, works.setCorrection(11, 0));
        CHECK.due("both are wrong", Check.INVALID, works.setCorrection(12, 21));
        CHECK.due("after an error", 0, works.setCorrection(11, 1));
    }

    private static void promise3() {
        CHECK.sentence("`what`: 0 the tolerance, 1 the least number of hour lines, 2 the bound, 3 the kilograms of a melt");
        CHECK.range("what", 0, 3, what -> new SundialWorks().set(what, 5));
        int[] least = {0, 1, 0, 1};
        int[] greatest = {10, 13, 60, 100};
        CHECK.sentence("`value`: as told for each");
        for (int what = 0; what <= 3; what++) {
            int setting = what;
            CHECK.range("setting " + what, least[what], greatest[what], value -> new SundialWorks().set(setting, value));
        }
        CHECK.sentence("Returns the previous value; INVALID_ARGUMENT if an argument is out of range.");
        int[] first = {2, 5, 10, 20};
        for (int what = 0; what <= 3; what++) {
            SundialWorks works = new SundialWorks();
            CHECK.due("first of " + what, first[what], works.set(what, greatest[what]));
            CHECK.due("then the greatest", greatest[what], works.set(what, least[what]));
            CHECK.due("then the least", least[what], works.set(what, least[what]));
            CHECK.due("too small", Check.INVALID, works.set(what, least[what] - 1));
            CHECK.due("after an error", least[what], works.set(what, first[what]));
            for (int other = 0; other <= 3; other++) {
                CHECK.due("setting " + other + " then", first[other], works.count(13 + other));
            }
        }
    }

    private static void promise4() {
        CHECK.sentence("There are at most 6 walls, numbered from 0.");
        SundialWorks works = new SundialWorks();
        for (int number = 0; number <= 5; number++) {
            CHECK.due("number", number, works.addWall());
            CHECK.due("walls", number + 1, works.count(0));
            CHECK.due("the next is no wall yet", Check.INVALID, works.measure(number + 1, 0));
        }
        CHECK.sentence("Returns its number; CAPACITY_EXCEEDED if there are 6.");
        CHECK.due("a sixth", 5, withWalls(5).addWall());
        CHECK.due("a seventh", Check.FULL, withWalls(6).addWall());
        works.addWall();
        CHECK.due("a seventh is not counted", 6, works.count(0));
        CHECK.due("nor is it a wall", Check.INVALID, works.wall(6, 0));
        works.undo();
        CHECK.due("room again", 5, works.addWall());
        works.take(0);
        CHECK.due("no room after a snapshot of six", Check.FULL, works.addWall());
        works = withWalls(5);
        works.take(0);
        works.addWall();
        works.restore(0);
        CHECK.due("room after a snapshot of five", 5, works.addWall());
        CHECK.sentence("Adds a wall without measurements.");
        for (int number = 0; number <= 5; number++) {
            CHECK.due("latest", Check.NONE, withWalls(6).wall(number, 0));
            CHECK.due("the one before", Check.NONE, withWalls(6).wall(number, 1));
            CHECK.due("declination", Check.NONE, withWalls(6).wall(number, 2));
            CHECK.due("commissions", 0, withWalls(6).wall(number, 3));
        }
    }

    /** Adds a wall and measures it; the answer to the last measurement. */
    private static int measured(SundialWorks works, int... degrees) {
        int wall = works.addWall();
        int answer = Check.NONE;
        for (int each : degrees) {
            answer = works.measure(wall, each);
        }
        return answer;
    }

    private static SundialWorks withTolerance(int tolerance) {
        SundialWorks works = new SundialWorks();
        works.set(0, tolerance);
        return works;
    }

    private static void promise5() {
        CHECK.sentence("`wall`: a wall - `degrees`: -60 to 60");
        CHECK.range("wall", 0, 0, wall -> withWalls(1).measure(wall, 0));
        CHECK.range("wall of three", 0, 2, wall -> withWalls(3).measure(wall, 0));
        CHECK.range("wall of six", 0, 5, wall -> withWalls(6).measure(wall, 0));
        CHECK.due("without a wall", Check.INVALID, new SundialWorks().measure(0, 0));
        CHECK.range("degrees", -60, 60, degrees -> withWalls(1).measure(0, degrees));
        CHECK.sentence("Measures a wall; of its measurements the two latest are kept.");
        SundialWorks works = withWalls(2);
        int[] degrees = {-60, 60, 0, 0, 7};
        for (int i = 0; i < degrees.length; i++) {
            works.measure(0, degrees[i]);
            CHECK.due("latest after " + i, degrees[i], works.wall(0, 0));
            CHECK.due("the one before after " + i, i == 0 ? Check.NONE : degrees[i - 1], works.wall(0, 1));
        }
        CHECK.due("the other wall is not measured", Check.NONE, works.wall(1, 0));
        CHECK.sentence("Returns 1 if the wall is known then, otherwise 0;");
        CHECK.due("one measurement", 0, measured(withTolerance(10), 0));
        CHECK.due("two", 1, measured(withTolerance(0), 0, 0));
        CHECK.due("two that are far apart", 0, measured(withTolerance(10), -60, 60));
        CHECK.due("the third is near the first alone", 0, measured(withTolerance(10), 5, 50, 5));
        CHECK.due("the third is near the second alone", 1, measured(withTolerance(10), 50, 5, 5));
        known();
        declination();
        CHECK.sentence("otherwise 0; INVALID_ARGUMENT if an argument is out of range.");
        works = withWalls(1);
        works.measure(0, 8);
        for (int wrong : new int[] {-61, 61}) {
            CHECK.due("degrees " + wrong, Check.INVALID, works.measure(0, wrong));
        }
        CHECK.due("neither is kept", 1, works.measure(0, 8));
        CHECK.due("the one before", 8, works.wall(0, 1));
    }

    private static void known() {
        CHECK.sentence("It is known if it has two measurements whose difference is not more than the tolerance");
        for (int tolerance = 0; tolerance <= 10; tolerance++) {
            for (int first : new int[] {-60 + 11, 0, 60 - 11}) {
                for (int sign = -1; sign <= 1; sign += 2) {
                    String call = first + " and a difference of " + sign * tolerance;
                    CHECK.due(call, 1, measured(withTolerance(tolerance), first, first + sign * tolerance));
                    CHECK.due(call + " and one more", 0,
                            measured(withTolerance(tolerance), first, first + sign * (tolerance + 1)));
                }
            }
        }
        CHECK.due("60 and -60", 0, measured(withTolerance(10), 60, -60));
        CHECK.due("zero twice", 1, measured(withTolerance(0), 0, 0));
        SundialWorks works = new SundialWorks();
        measured(works, 4, 9);
        works.set(0, 4);
        CHECK.due("five degrees, of which four are let", 0, works.count(1));
        works.set(0, 5);
        CHECK.due("of which five are let", 1, works.count(1));
    }

    private static int declinationOf(int... degrees) {
        SundialWorks works = withTolerance(10);
        measured(works, degrees);
        return works.wall(0, 2);
    }

    private static void declination() {
        CHECK.sentence("its declination is the sum of both divided by 2, rounded, then.");
        CHECK.due("59.5", 60, declinationOf(59, 60));
        CHECK.due("60", 60, declinationOf(60, 60));
        CHECK.due("-59.5", -59, declinationOf(-60, -59));
        CHECK.due("-60", -60, declinationOf(-60, -60));
        CHECK.due("0.5", 1, declinationOf(0, 1));
        CHECK.due("-0.5", 0, declinationOf(0, -1));
        CHECK.due("-0.5 the other way round", 0, declinationOf(-1, 0));
        CHECK.due("-1.5", -1, declinationOf(-2, -1));
        CHECK.due("-1", -1, declinationOf(-2, 0));
        CHECK.due("0 of -5 and 5", 0, declinationOf(-5, 5));
        CHECK.due("0.5 of -4 and 5", 1, declinationOf(-4, 5));
        CHECK.due("-0.5 of -5 and 4", 0, declinationOf(-5, 4));
        CHECK.due("5 of 0 and 10", 5, declinationOf(0, 10));
        CHECK.due("of the latest two", 7, declinationOf(60, 6, 8));
        CHECK.due("not known", Check.NONE, declinationOf(0, 11));
        CHECK.due("one measurement", Check.NONE, declinationOf(0));
    }
}
