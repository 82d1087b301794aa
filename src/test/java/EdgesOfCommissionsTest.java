/** The boundaries that promises 6 to 10 name, with the sentences of the terms that they rest on. */
public final class EdgesOfCommissionsTest {
    private static final Check CHECK = new Check();
    /** The states of the commissions 0 to 4 of Scenes.busy are their numbers. */
    private static final int[] STATES = {0, 1, 2, 3, 4};

    public static void main(String[] args) {
        promise6();
        promise7();
        promise8();
        promise9();
        promise10();
        CHECK.end();
    }

    private static SundialWorks withWalls(int number) {
        SundialWorks works = new SundialWorks();
        for (int i = 0; i < number; i++) {
            works.addWall();
        }
        return works;
    }

    private static SundialWorks withCommissions(int number) {
        SundialWorks works = new SundialWorks();
        for (int i = 0; i < number; i++) {
            works.ask(10 + i, -1, 20 + i, i - 5);
        }
        return works;
    }

    private static void promise6() {
        CHECK.sentence("`latitude`: 10 to 70 - `wall`: a wall for a vertical dial, or -1 for a horizontal one"
                + " - `size`: 10 to 60 - `longitude`: -60 to 60");
        CHECK.range("latitude", 10, 70, latitude -> new SundialWorks().ask(latitude, -1, 20, 0));
        CHECK.range("wall of none", -1, -1, wall -> new SundialWorks().ask(50, wall, 20, 0));
        CHECK.range("wall of one", -1, 0, wall -> withWalls(1).ask(50, wall, 20, 0));
        CHECK.range("wall of six", -1, 5, wall -> withWalls(6).ask(50, wall, 20, 0));
        CHECK.range("size", 10, 60, size -> new SundialWorks().ask(50, -1, size, 0));
        CHECK.range("longitude", -60, 60, longitude -> new SundialWorks().ask(50, -1, 20, longitude));
        CHECK.sentence("A commission is for a dial: horizontal, or vertical for a wall; it has a latitude, a size of 10 to 60"
                + " centimetres and a longitude correction.");
        CHECK.range("latitude of a vertical dial", 10, 70, latitude -> withWalls(1).ask(latitude, 0, 20, 0));
        CHECK.range("size of a vertical dial", 10, 60, size -> withWalls(1).ask(50, 0, size, 0));
        CHECK.sentence("A commission has a longitude correction of -60 to 60 minutes.");
        CHECK.range("longitude of a vertical dial", -60, 60, longitude -> withWalls(1).ask(50, 0, 20, longitude));
        CHECK.sentence("Takes a commission down, which is asked then.");
        int[][] ends = {{10, -1, 10, -60}, {70, 5, 60, 60}, {10, 0, 60, 0}};
        for (int[] n : ends) {
            SundialWorks works = withWalls(6);
            works.ask(n[0], n[1], n[2], n[3]);
            for (int what = 0; what < 4; what++) {
                CHECK.due("property " + what, n[what], works.commission(0, what));
            }
            CHECK.due("asked", 0, works.commission(0, 4));
            CHECK.due("not cast", Check.NONE, works.commission(0, 7));
            CHECK.due("never refused", 0, works.commission(0, 8));
        }
        tenCommissions();
        errorsInTheirOrder();
        alwaysInOneState();
    }

    private static void tenCommissions() {
        CHECK.sentence("There are at most 10 commissions, numbered from 0; their numbers never change.");
        SundialWorks works = new SundialWorks();
        for (int number = 0; number <= 9; number++) {
            CHECK.due("number", number, works.ask(10 + number, -1, 20, 0));
            CHECK.due("commissions", number + 1, works.count(2));
            CHECK.due("the next is none yet", Check.INVALID, works.decide(number + 1));
        }
        works.decide(3);
        works.cast();
        works.deliver(3);
        for (int number = 0; number <= 9; number++) {
            CHECK.due("latitude of " + number, 10 + number, works.commission(number, 0));
        }
        CHECK.due("a delivered one still takes its room", Check.FULL, works.ask(50, -1, 20, 0));
        CHECK.sentence("CAPACITY_EXCEEDED if there are 10.");
        CHECK.due("a tenth", 9, withCommissions(9).ask(50, -1, 20, 0));
        CHECK.due("an eleventh", Check.FULL, withCommissions(10).ask(50, -1, 20, 0));
        works = withCommissions(10);
        works.ask(50, -1, 20, 0);
        CHECK.due("it is not counted", 10, works.count(2));
        CHECK.due("nor is there one", Check.INVALID, works.commission(10, 0));
        works.undo();
        CHECK.due("room again", 9, works.ask(50, -1, 20, 0));
        works = withCommissions(9);
        works.take(0);
        works.ask(50, -1, 20, 0);
        works.restore(0);
        CHECK.due("room after a snapshot of nine", 9, works.ask(50, -1, 20, 0));
    }

    private static void errorsInTheirOrder() {
        CHECK.sentence("If several error conditions apply, the method returns the one that its description lists first;");
        int[][] wrong = {{9, -1, 20, 0}, {71, -1, 20, 0}, {50, -2, 20, 0}, {50, 0, 20, 0}, {50, -1, 9, 0},
            {50, -1, 61, 0}, {50, -1, 20, -61}, {50, -1, 20, 61}};
        for (int[] n : wrong) {
            CHECK.due("an eleventh that is wrong", Check.INVALID, withCommissions(10).ask(n[0], n[1], n[2], n[3]));
        }
    }

    private static void alwaysInOneState() {
        CHECK.sentence("It is always in one of five states: 0 asked (at first), 1 accepted, 2 cast, 3 delivered, 4 refused.");
        SundialWorks works = Check.withoutDial();
        inState(works, 0);
        works.decide(0);
        inState(works, 4);
        works.askAgain(0);
        inState(works, 0);
        works.measure(0, 0);
        works.measure(0, 0);
        inState(works, 0);
        works.decide(0);
        inState(works, 1);
        works.measure(0, 60);
        inState(works, 1);
        works.cast();
        inState(works, 2);
        works.deliver(0);
        inState(works, 3);
        works.undo();
        inState(works, 2);
        works.undo();
        inState(works, 1);
    }

    private static void inState(SundialWorks works, int state) {
        CHECK.due("state", state, works.commission(0, 4));
        for (int other = 0; other <= 4; other++) {
            CHECK.due("commissions in state " + other, other == state ? 1 : 0, works.count(3 + other));
        }
    }

    /** What a dial needs so that none of these reasons applies: 2 lines, 3 apart, 4 weight. */
    private static SundialWorks withReasons(boolean dial, boolean few, boolean apart, boolean heavy) {
        SundialWorks works = dial ? Check.withDial(50, 0) : Check.withoutDial();
        works.set(1, few ? 13 : 1);
        works.set(2, apart ? 0 : 60);
        works.set(3, heavy ? 3 : 4);
        return works;
    }

    private static void promise7() {
        CHECK.sentence("INVALID_ARGUMENT if there is no such commission; ILLEGAL_STATE if it is not asked.");
        CHECK.due("there is none", Check.INVALID, new SundialWorks().decide(0));
        CHECK.range("commission", 0, 0, commission -> withCommissions(1).decide(commission));
        CHECK.range("commission of ten", 0, 9, commission -> withCommissions(10).decide(commission));
        for (int state : STATES) {
            int answer = Scenes.made(Scenes::busy).decide(state);
            CHECK.due("decide in state " + state, state == 0 ? 4 : Check.ILLEGAL, answer);
        }
        CHECK.sentence("Returns 0 if it is accepted, otherwise the reason why it is refused;");
        int[] heaviest = {19, 4, 20, 0};
        for (int i = 0; i < heaviest.length; i += 2) {
            SundialWorks works = new SundialWorks();
            works.ask(50, -1, 45, 0);
            works.set(3, heaviest[i]);
            CHECK.due("20 kilograms for a melt of " + heaviest[i], heaviest[i + 1], works.decide(0));
        }
        CHECK.sentence("There are four reasons to refuse a commission, of which the first that applies counts:");
        for (int set = 0; set < 16; set++) {
            boolean dial = (set & 8) == 0;
            boolean few = (set & 4) != 0;
            boolean apart = (set & 2) != 0;
            boolean heavy = (set & 1) != 0;
            int want = !dial ? 1 : few ? 2 : apart ? 3 : heavy ? 4 : 0;
            String call = "decide when lines, bound and weight are " + few + " " + apart + " " + heavy;
            CHECK.due(call, want, withReasons(dial, few, apart, heavy).decide(0));
            CHECK.due(call + ", reason", want, withReasons(dial, few, apart, heavy).reason(0));
            SundialWorks works = withReasons(dial, few, apart, heavy);
            works.decide(0);
            CHECK.due(call + ", state", want == 0 ? 1 : 4, works.commission(0, 4));
            CHECK.due(call + ", refused for", want, works.commission(0, 8));
        }
        ends();
        declinationIsKept();
    }

    private static int decided(int latitude, int declination, int setting, int value) {
        SundialWorks works = Check.withDial(latitude, declination);
        works.set(2, 60);
        works.set(setting, value);
        return works.decide(0);
    }

    private static void ends() {
        CHECK.sentence("1 there is no dial, as its wall is not known;");
        SundialWorks works = Check.withoutDial();
        works.measure(0, 9);
        CHECK.due("one measurement", 1, works.reason(0));
        works.measure(0, 12);
        CHECK.due("a degree beyond the tolerance", 1, works.reason(0));
        works.set(0, 3);
        CHECK.due("just within it", 0, works.reason(0));
        CHECK.sentence("2 its dial has fewer hour lines than the least number (1 to 13, at first 5);");
        int[][] lines = {{12, 60, 7}, {10, -60, 8}, {45, 60, 9}, {50, 100, 11}, {70, 9, 12}};
        for (int[] n : lines) {
            CHECK.due("lines", n[2], Check.withDial(n[0], n[1]).lines(0, 0));
            CHECK.due("just as many as needed", 0, decided(n[0], n[1], 1, n[2]));
            CHECK.due("one fewer", 2, decided(n[0], n[1], 1, n[2] + 1));
        }
        CHECK.sentence("3 its dial is farther apart than the bound (0 to 60 minutes, at first 10);");
        int[][] apart = {{12, 60, 4}, {10, 0, 5}, {50, 100, 10}, {36, 46, 11}, {70, -58, 23}};
        for (int[] n : apart) {
            CHECK.due("apart", n[2], Check.withDial(n[0], n[1]).apart(0, 0));
            CHECK.due("just the bound", 0, decided(n[0], n[1], 2, n[2]));
            CHECK.due("a minute farther", 3, decided(n[0], n[1], 2, n[2] - 1));
        }
        CHECK.sentence("4 it weighs more than a melt.");
        int[][] weights = {{13, 2}, {15, 2}, {20, 4}, {45, 20}, {60, 36}};
        for (int[] n : weights) {
            for (int less = 0; less <= 1; less++) {
                works = new SundialWorks();
                works.ask(50, -1, n[0], 0);
                works.set(3, n[1] - less);
                CHECK.due("size " + n[0] + " for a melt of " + (n[1] - less), less == 0 ? 0 : 4, works.decide(0));
            }
        }
    }

    private static void declinationIsKept() {
        CHECK.sentence("when it is accepted, its declination is kept for good.");
        SundialWorks works = Check.withDial(50, -60);
        works.decide(0);
        works.measure(0, 60);
        CHECK.due("the wall is not known any more", -60, works.commission(0, 5));
        CHECK.due("the wall itself", Check.NONE, works.wall(0, 2));
        works.measure(0, 60);
        CHECK.due("the wall is another one", -60, works.commission(0, 5));
        works.cast();
        CHECK.due("cast", -60, works.commission(0, 5));
        works.deliver(0);
        CHECK.due("delivered", -60, works.commission(0, 5));
        CHECK.due("its lines", Check.withDial(50, -60).lines(0, 1), works.lines(0, 1));
        CHECK.sentence("While it is asked, its dial is by the wall as it is known now, and there is no dial if the wall"
                + " is not known;");
        works = Check.withDial(50, -60);
        works.measure(0, -58);
        CHECK.due("by two other measurements", -59, works.commission(0, 5));
        works.set(0, 1);
        CHECK.due("the tolerance is too small", Check.NONE, works.commission(0, 5));
        CHECK.due("no dial", Check.ILLEGAL, works.lines(0, 0));
        works.set(0, 2);
        CHECK.due("as large as it must be", -59, works.commission(0, 5));
        CHECK.sentence("A refused one has its dial by the wall as it is known now, too.");
        works = Check.withDial(50, 30);
        works.set(1, 13);
        works.decide(0);
        CHECK.due("refused", 30, works.commission(0, 5));
        works.measure(0, 31);
        CHECK.due("30.5", 31, works.commission(0, 5));
        works.measure(0, 0);
        CHECK.due("not known", Check.NONE, works.commission(0, 5));
        works.measure(0, 0);
        CHECK.due("south", 0, works.commission(0, 5));
    }

    private static void promise8() {
        CHECK.sentence("INVALID_ARGUMENT if there is no such commission; ILLEGAL_STATE if it is not refused.");
        CHECK.due("there is none", Check.INVALID, new SundialWorks().askAgain(0));
        CHECK.range("commission", 0, 0, commission -> refused(1).askAgain(commission));
        CHECK.range("commission of ten", 0, 9, commission -> refused(10).askAgain(commission));
        for (int state : STATES) {
            int answer = Scenes.made(Scenes::busy).askAgain(state);
            CHECK.due("askAgain in state " + state, state == 4 ? 1 : Check.ILLEGAL, answer);
        }
        CHECK.sentence("Returns the reason that it would be refused for now, 0 if none applies;");
        for (int reason = 0; reason <= 4; reason++) {
            SundialWorks works = Check.withDial(50, 0);
            works.set(1, 13);
            works.decide(0);
            works.set(1, reason == 2 ? 12 : 11);
            works.set(2, reason == 3 ? 9 : 10);
            works.set(3, reason == 4 ? 3 : 4);
            if (reason == 1) {
                works.measure(0, 3);
            }
            CHECK.due("asked again for " + reason, reason, works.askAgain(0));
            CHECK.due("asked", 0, works.commission(0, 4));
            CHECK.due("the last reason stays", 2, works.commission(0, 8));
            CHECK.due("decided again", reason, works.decide(0));
            CHECK.due("the last reason then", reason == 0 ? 2 : reason, works.commission(0, 8));
        }
    }

    private static SundialWorks refused(int number) {
        SundialWorks works = withCommissions(number);
        works.set(1, 13);
        for (int i = 0; i < number; i++) {
            works.decide(i);
        }
        return works;
    }

    private static void promise9() {
        CHECK.sentence("each that does not make the sum of the weights of this melt greater than a melt is cast in it.");
        // 25, 30 and 35 centimetres weigh 6, 9 and 12 kilograms.
        due("just a melt of two", 15, 2, 25, 30);
        due("a kilogram less", 14, 1, 25, 30);
        due("a heavy one is passed over", 15, 2, 25, 35, 30);
        due("the first is too heavy", 9, 1, 35, 30);
        due("the first is just a melt", 12, 1, 35, 30);
        due("all three", 27, 3, 25, 30, 35);
        due("not all three", 26, 2, 25, 30, 35);
        due("of a melt of one", 1, 1, 12, 12);
        due("ten of one", 10, 10, 10, 10, 10, 10, 10, 10, 10, 10, 10, 10);
        due("nine of ten", 9, 9, 10, 10, 10, 10, 10, 10, 10, 10, 10, 10);
        due("of the greatest melt", 100, 2, 60, 60, 60);
        CHECK.sentence("One casting is one melt: the accepted commissions are gone through by their numbers,");
        SundialWorks works = Check.withAccepted(35, 30, 25, 30);
        works.set(3, 18);
        CHECK.due("12 and 6", 2, works.cast());
        int[] castings = {0, Check.NONE, 0, Check.NONE};
        for (int i = 0; i < 4; i++) {
            CHECK.due("casting of " + i, castings[i], works.commission(i, 7));
            CHECK.due("state of " + i, castings[i] == 0 ? 2 : 1, works.commission(i, 4));
        }
        CHECK.due("9 and 9", 2, works.cast());
        CHECK.due("in the next casting", 1, works.commission(1, 7));
        CHECK.due("in the next casting, too", 1, works.commission(3, 7));
        CHECK.due("the first ones stay in theirs", 0, works.commission(2, 7));
        CHECK.due("castings", 2, works.count(8));
        CHECK.due("kilograms", 36, works.count(9));
        noneWouldBe();
    }

    /** What is cast of these sizes by one melt. */
    private static void due(String call, int melt, int want, int... sizes) {
        SundialWorks works = Check.withAccepted();
        works.set(3, 100);
        for (int size : sizes) {
            works.decide(works.ask(50, -1, size, 0));
        }
        works.set(3, melt);
        CHECK.due(call, want, works.cast());
        CHECK.due(call + ": cast ones", want, works.count(5));
        CHECK.due(call + ": accepted ones", sizes.length - want, works.count(4));
    }

    private static void noneWouldBe() {
        CHECK.sentence("Returns the number of commissions that are cast; ILLEGAL_STATE if none would be.");
        CHECK.due("no commission", Check.ILLEGAL, new SundialWorks().cast());
        CHECK.due("none but asked ones", Check.ILLEGAL, withCommissions(10).cast());
        CHECK.due("none but refused ones", Check.ILLEGAL, refused(10).cast());
        CHECK.due("an accepted one", 1, Check.withAccepted(20).cast());
        SundialWorks works = Check.withAccepted(20);
        works.cast();
        CHECK.due("none but a cast one", Check.ILLEGAL, works.cast());
        works.deliver(0);
        CHECK.due("none but a delivered one", Check.ILLEGAL, works.cast());
        works = Check.withAccepted(20, 30);
        works.set(3, 3);
        CHECK.due("each is too heavy", Check.ILLEGAL, works.cast());
        CHECK.due("no casting is counted", 0, works.count(8));
        works.set(3, 4);
        CHECK.due("one is not", 1, works.cast());
    }

    private static void promise10() {
        CHECK.sentence("INVALID_ARGUMENT if there is no such commission; ILLEGAL_STATE if it is not cast.");
        CHECK.due("there is none", Check.INVALID, new SundialWorks().deliver(0));
        CHECK.range("commission", 0, 0, commission -> cast(1).deliver(commission));
        CHECK.range("commission of ten", 0, 9, commission -> cast(10).deliver(commission));
        for (int state : STATES) {
            int answer = Scenes.made(Scenes::busy).deliver(state);
            CHECK.due("deliver in state " + state, state == 2 ? 2 : Check.ILLEGAL, answer);
        }
        CHECK.sentence("Returns the number of commissions that are delivered;");
        SundialWorks works = cast(10);
        for (int i = 0; i <= 9; i++) {
            CHECK.due("delivered", i + 1, works.deliver(9 - i));
            CHECK.due("its state", 3, works.commission(9 - i, 4));
            CHECK.due("twice", Check.ILLEGAL, works.deliver(9 - i));
            CHECK.due("cast ones that are left", 9 - i, works.count(5));
        }
    }

    private static SundialWorks cast(int number) {
        int[] sizes = new int[number];
        for (int i = 0; i < number; i++) {
            sizes[i] = 10;
        }
        SundialWorks works = Check.withAccepted(sizes);
        works.cast();
        return works;
    }
}
