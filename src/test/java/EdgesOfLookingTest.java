/** The boundaries that promises 17 to 20 name: looking. */
public final class EdgesOfLookingTest {
    private static final Check CHECK = new Check();

    public static void main(String[] args) {
        promise17();
        fullCounts();
        promise18();
        promise19();
        castings();
        refusedLast();
        weights();
        promise20();
        CHECK.end();
    }

    private static void promise17() {
        CHECK.sentence("Returns the number; INVALID_ARGUMENT if what is out of range.");
        CHECK.range("what", 0, 16, what -> new SundialWorks().count(what));
        CHECK.range("what of a busy workshop", 0, 16, what -> Scenes.made(Scenes::busy).count(what));
        CHECK.sentence("`what`: 0 the number of walls, 1 of walls that are known, 2 of commissions, 3 to 7 of commissions in"
                + " the states 0 to 4, 8 of castings so far, 9 the kilograms cast so far, 10 the number of snapshots, 11 of"
                + " states in the history, 12 the length of the text, 13 to 16 the settings 0 to 3");
        for (int state = 0; state <= 4; state++) {
            SundialWorks works = inState(state);
            for (int other = 0; other <= 4; other++) {
                CHECK.due("state " + other + " of one in " + state, other == state ? 3 : 0, works.count(3 + other));
            }
            CHECK.due("commissions", 3, works.count(2));
            CHECK.due("castings", state == 2 || state == 3 ? 1 : 0, works.count(8));
            CHECK.due("kilograms", state == 2 || state == 3 ? 12 : 0, works.count(9));
        }
        int[] values = {10, 13, 60, 100};
        for (int setting = 0; setting <= 3; setting++) {
            SundialWorks works = new SundialWorks();
            works.set(setting, values[setting]);
            int[] first = {2, 5, 10, 20};
            first[setting] = values[setting];
            for (int other = 0; other <= 3; other++) {
                CHECK.due("setting " + other, first[other], works.count(13 + other));
            }
        }
    }

    /** Three commissions of 4 kilograms that are all in one state. */
    private static SundialWorks inState(int state) {
        SundialWorks works = new SundialWorks();
        works.set(2, state == 4 ? 0 : 60);
        for (int i = 0; i < 3; i++) {
            works.ask(50, -1, 20, 0);
            if (state != 0) {
                works.decide(i);
            }
        }
        if (state == 2 || state == 3) {
            works.cast();
        }
        for (int i = 0; i < 3 && state == 3; i++) {
            works.deliver(i);
        }
        return works;
    }

    /** Each number at its greatest, and one call more. */
    private static void fullCounts() {
        CHECK.sentence("There are at most 6 walls, numbered from 0.");
        SundialWorks works = new SundialWorks();
        for (int i = 0; i <= 6; i++) {
            CHECK.due("walls", Math.min(i, 6), works.count(0));
            CHECK.due("known walls", Math.min(i, 6), works.count(1));
            Check.knownWall(works, i);
        }
        CHECK.sentence("There are at most 10 commissions, numbered from 0; their numbers never change.");
        for (int i = 0; i <= 10; i++) {
            CHECK.due("commissions", Math.min(i, 10), works.count(2));
            CHECK.due("asked ones", Math.min(i, 10), works.count(3));
            works.ask(50, 5, 60, 0);
        }
        CHECK.due("commissions for the last wall", 10, works.wall(5, 3));
        CHECK.sentence("There are two slots for snapshots, empty at first.");
        for (int i = 0; i <= 3; i++) {
            CHECK.due("snapshots", Math.min(i, 2), works.count(10));
            works.take(i % 2);
        }
        CHECK.sentence("A history of at most 5 states is kept;");
        works = new SundialWorks();
        for (int i = 0; i <= 7; i++) {
            CHECK.due("states", Math.min(i, 5), works.count(11));
            works.set(0, i);
        }
        CHECK.sentence("CAPACITY_EXCEEDED if the text already has 140 characters.");
        works = new SundialWorks();
        for (int i = 0; i <= 141; i++) {
            CHECK.due("the length of the text", Math.min(i, 140), works.count(12));
            works.append(255);
        }
    }

    private static void promise18() {
        CHECK.sentence("Returns the property; INVALID_ARGUMENT if there is no such wall or what is out of range.");
        CHECK.due("there is none", Check.INVALID, new SundialWorks().wall(0, 0));
        CHECK.range("wall", 0, 2, wall -> Scenes.made(Scenes::busy).wall(wall, 3));
        CHECK.range("wall of six", 0, 5, wall -> Scenes.made(Scenes::full).wall(wall, 3));
        CHECK.range("what", 0, 3, what -> Scenes.made(Scenes::busy).wall(2, what));
        CHECK.range("what of a new wall", 0, 3, what -> Scenes.made(Scenes::full).wall(5, what));
        CHECK.sentence("`what`: 0 its latest measurement, 1 the one before (NONE for each that there is not), 2 its"
                + " declination (NONE if it is not known), 3 the number of commissions for it");
        SundialWorks works = new SundialWorks();
        works.addWall();
        int[][] due = {{Check.NONE, Check.NONE, Check.NONE}, {0, Check.NONE, Check.NONE}, {2, 0, 1}, {-60, 2, Check.NONE},
            {-60, -60, -60}, {60, -60, Check.NONE}, {59, 60, 60}};
        int[] degrees = {0, 2, -60, -60, 60, 59};
        for (int i = 0; i <= degrees.length; i++) {
            for (int what = 0; what <= 2; what++) {
                CHECK.due("what " + what + " after " + i, due[i][what], works.wall(0, what));
            }
            if (i < degrees.length) {
                works.measure(0, degrees[i]);
            }
        }
        commissionsOfWalls();
    }

    private static void commissionsOfWalls() {
        CHECK.sentence("3 the number of commissions for it");
        SundialWorks works = new SundialWorks();
        works.addWall();
        works.addWall();
        for (int i = 0; i < 10; i++) {
            CHECK.due("for wall 0", (i + 2) / 3, works.wall(0, 3));
            CHECK.due("for wall 1", (i + 1) / 3, works.wall(1, 3));
            works.ask(50, i % 3 == 2 ? -1 : i % 3, 20, 0);
        }
        CHECK.due("four of ten", 4, works.wall(0, 3));
        CHECK.due("three of ten", 3, works.wall(1, 3));
        int[] due = {1, 2, 1};
        for (int wall = 0; wall <= 2; wall++) {
            CHECK.due("of any state, wall " + wall, due[wall], Scenes.made(Scenes::busy).wall(wall, 3));
        }
    }

    private static void promise19() {
        CHECK.sentence("Returns the property; INVALID_ARGUMENT if there is no such commission or what is out of range.");
        CHECK.due("there is none", Check.INVALID, new SundialWorks().commission(0, 0));
        CHECK.range("commission", 0, 4, commission -> Scenes.made(Scenes::busy).commission(commission, 0));
        CHECK.range("commission of ten", 0, 9, commission -> Scenes.made(Scenes::full).commission(commission, 0));
        for (int commission = 0; commission <= 4; commission++) {
            int one = commission;
            CHECK.range("what of " + one, 0, 8, what -> Scenes.made(Scenes::busy).commission(one, what));
        }
        CHECK.sentence("`what`: 0 its latitude, 1 its wall (-1 for a horizontal dial), 2 its size, 3 its longitude"
                + " correction, 4 its state, 5 the declination of its dial (0 for a horizontal one, NONE if there is no"
                + " dial), 6 its weight,");
        int[][] due = {{50, 0, 20, 1, 0, 10, 4}, {51, 1, 21, -2, 1, -20, 4}, {52, -1, 22, 3, 2, 0, 5},
            {53, 1, 10, -4, 3, -20, 1}, {54, 2, 30, 5, 4, Check.NONE, 9}};
        for (int commission = 0; commission <= 4; commission++) {
            for (int what = 0; what <= 6; what++) {
                CHECK.due("commission " + commission + " " + what, due[commission][what],
                        Scenes.made(Scenes::busy).commission(commission, what));
            }
        }
        CHECK.due("south is 0, too", 0, Check.withDial(50, 0).commission(0, 5));
        CHECK.due("the least declination", -60, Check.withDial(50, -60).commission(0, 5));
        CHECK.due("the greatest", 60, Check.withDial(50, 60).commission(0, 5));
    }

    private static void castings() {
        CHECK.sentence("7 the casting in which it was cast, from 0 (NONE if it was not)");
        int[] due = {Check.NONE, Check.NONE, 0, 0, Check.NONE};
        for (int commission = 0; commission <= 4; commission++) {
            CHECK.due("commission " + commission, due[commission], Scenes.made(Scenes::busy).commission(commission, 7));
        }
        SundialWorks works = Check.withAccepted(10, 10, 10, 10, 10, 10, 10, 10, 10, 10);
        works.set(3, 1);
        for (int casting = 0; casting <= 9; casting++) {
            CHECK.due("not yet", Check.NONE, works.commission(casting, 7));
            CHECK.due("one by one", 1, works.cast());
            CHECK.due("castings", casting + 1, works.count(8));
            CHECK.due("kilograms", casting + 1, works.count(9));
            CHECK.due("cast in", casting, works.commission(casting, 7));
        }
        CHECK.due("the first stays", 0, works.commission(0, 7));
        works.undo();
        CHECK.due("undone", Check.NONE, works.commission(9, 7));
        CHECK.due("castings then", 9, works.count(8));
        works = new SundialWorks();
        works.set(2, 60);
        works.set(3, 36);
        for (int i = 0; i < 10; i++) {
            works.decide(works.ask(50, -1, 60, 0));
        }
        for (int casting = 1; casting <= 10; casting++) {
            works.cast();
            CHECK.due("kilograms of the heaviest", 36 * casting, works.count(9));
        }
    }

    private static void refusedLast() {
        CHECK.sentence("8 the reason for which it was refused last, whatever came then (0 if it never was)");
        for (int reason = 1; reason <= 4; reason++) {
            SundialWorks works = Check.withDial(50, 0);
            CHECK.due("never", 0, works.commission(0, 8));
            refuse(works, reason);
            CHECK.due("decide", reason, works.decide(0));
            CHECK.due("refused", reason, works.commission(0, 8));
            refuse(works, 0);
            CHECK.due("asked again", 0, works.askAgain(0));
            CHECK.due("it stays", reason, works.commission(0, 8));
            works.decide(0);
            CHECK.due("it stays when accepted", reason, works.commission(0, 8));
            works.cast();
            CHECK.due("it stays when cast", reason, works.commission(0, 8));
            works.deliver(0);
            CHECK.due("it stays when delivered", reason, works.commission(0, 8));
            for (int i = 0; i < 5; i++) {
                works.undo();
            }
            CHECK.due("undone so far, it is still refused", reason, works.commission(0, 8));
        }
        SundialWorks works = Check.withDial(50, 0);
        for (int reason = 4; reason >= 1; reason--) {
            refuse(works, reason);
            works.decide(0);
            CHECK.due("the last one counts", reason, works.commission(0, 8));
            works.askAgain(0);
        }
        works.undo();
        works.undo();
        CHECK.due("undone to the one before", 2, works.commission(0, 8));
    }

    /** Makes a reason the only one that applies to the commission 0 of 4 kilograms; 0 for none. */
    private static void refuse(SundialWorks works, int reason) {
        works.measure(0, 0);
        works.measure(0, reason == 1 ? 60 : 0);
        works.set(1, reason == 2 ? 13 : 1);
        works.set(2, reason == 3 ? 0 : 60);
        works.set(3, reason == 4 ? 3 : 4);
    }

    private static void weights() {
        CHECK.sentence("A dial of the size s weighs s * s divided by 100, rounded, in kilograms;");
        int[] sizes = {10, 12, 13, 15, 16, 18, 19, 21, 22, 34, 43, 45, 46, 50, 57, 59, 60};
        int[] weights = {1, 1, 2, 2, 3, 3, 4, 4, 5, 12, 18, 20, 21, 25, 32, 35, 36};
        for (int i = 0; i < sizes.length; i++) {
            SundialWorks works = new SundialWorks();
            works.ask(50, -1, sizes[i], 0);
            CHECK.due("size " + sizes[i], weights[i], works.commission(0, 6));
        }
        for (int size = 10; size <= 60; size++) {
            SundialWorks works = new SundialWorks();
            works.ask(50, -1, size, 0);
            CHECK.due("size " + size, Geometry.nearest((long) size * size, 100), works.commission(0, 6));
        }
    }

    private static void promise20() {
        CHECK.sentence("Returns the correction of a month. - `month`: 0 to 11");
        CHECK.range("month", 0, 11, month -> new SundialWorks().correction(month));
        CHECK.range("month of a busy workshop", 0, 11, month -> Scenes.made(Scenes::busy).correction(month));
        CHECK.sentence("Returns the correction; INVALID_ARGUMENT if month is out of range.");
        int[] due = {-20, 0, 0, 0, 0, 5, 0, 0, 0, 0, 0, 20};
        for (int month = 0; month <= 11; month++) {
            CHECK.due("month " + month, due[month], Scenes.made(Scenes::busy).correction(month));
        }
    }
}
