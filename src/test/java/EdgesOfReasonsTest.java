/** The boundaries that promises 26 to 28 name: reasons, the best latitude and melts. */
public final class EdgesOfReasonsTest {
    private static final Check CHECK = new Check();
    private static final int HORIZONTAL = 100;

    public static void main(String[] args) {
        promise26();
        promise27();
        promise28();
        CHECK.end();
    }

    private static SundialWorks withCommissions(int number) {
        SundialWorks works = new SundialWorks();
        for (int i = 0; i < number; i++) {
            works.ask(50, -1, 20, 0);
        }
        return works;
    }

    private static void promise26() {
        CHECK.sentence("Returns the reason, 0 if none applies; INVALID_ARGUMENT if there is no such commission.");
        CHECK.due("there is none", Check.INVALID, new SundialWorks().reason(0));
        CHECK.range("commission", 0, 0, commission -> withCommissions(1).reason(commission));
        CHECK.range("commission of nine", 0, 8, commission -> withCommissions(9).reason(commission));
        CHECK.range("commission of ten", 0, 9, commission -> withCommissions(10).reason(commission));
        CHECK.due("none applies", 0, withCommissions(1).reason(0));
        int[][] edges = {{1, 11, 0}, {1, 12, 2}, {2, 10, 0}, {2, 9, 3}, {3, 4, 0}, {3, 3, 4}};
        for (int[] n : edges) {
            SundialWorks works = withCommissions(1);
            works.set(n[0], n[1]);
            CHECK.due("setting " + n[0] + " of " + n[1], n[2], works.reason(0));
        }
        CHECK.due("no dial", 1, Check.withoutDial().reason(0));
        CHECK.sentence("Tells for which reason a commission would be refused now, whatever its state is (its dial being as"
                + " it is).");
        int[] due = {4, 4, 4, 0, 1};
        for (int commission = 0; commission <= 4; commission++) {
            CHECK.due("in state " + commission, due[commission], Scenes.made(Scenes::busy).reason(commission));
            CHECK.due("its state stays", commission, stateAfterReason(commission));
        }
        for (int commission = 0; commission <= 4; commission++) {
            SundialWorks works = Scenes.made(Scenes::busy);
            works.set(1, 13);
            CHECK.due("too few lines in state " + commission, commission == 4 ? 1 : 2, works.reason(commission));
            works.set(1, 1);
            works.set(2, 0);
            CHECK.due("too far apart in state " + commission, commission == 4 ? 1 : 3, works.reason(commission));
        }
        SundialWorks works = Check.withDial(50, 0);
        works.decide(0);
        works.measure(0, 60);
        CHECK.due("an accepted one keeps its dial", 0, works.reason(0));
        works.undo();
        works.undo();
        works.measure(0, 60);
        CHECK.due("an asked one has none", 1, works.reason(0));
    }

    private static int stateAfterReason(int commission) {
        SundialWorks works = Scenes.made(Scenes::busy);
        works.reason(commission);
        return works.commission(commission, 4);
    }

    private static void promise27() {
        CHECK.sentence("`declination`: -60 to 60 for a vertical dial, or 100 for a horizontal one");
        CHECK.range("declination", -60, 60, declination -> new SundialWorks().bestLatitude(declination));
        CHECK.due("100", 55, new SundialWorks().bestLatitude(100));
        CHECK.sentence("Returns the latitude; INVALID_ARGUMENT if declination is out of range.");
        CHECK.due("-61", Check.INVALID, new SundialWorks().bestLatitude(-61));
        CHECK.due("61", Check.INVALID, new SundialWorks().bestLatitude(61));
        CHECK.due("99", Check.INVALID, new SundialWorks().bestLatitude(99));
        CHECK.due("101", Check.INVALID, new SundialWorks().bestLatitude(101));
        CHECK.due("-100", Check.INVALID, new SundialWorks().bestLatitude(-100));
        CHECK.sentence("Finds the latitude of 10 to 70 for which a dial would be least apart (also 0 for a dial without any"
                + " time that counts), of several the smallest.");
        // 55 to 70 are 5 apart.
        best(HORIZONTAL, 55);
        // 12 to 16 are 4 apart.
        best(-60, 12);
        best(60, 12);
        // The first latitude is the best one alone, or with others up to 35.
        best(47, 10);
        best(0, 10);
        best(48, 10);
        // One latitude alone, neither the first nor the last.
        best(54, 20);
        best(-55, 19);
        best(26, 34);
        best(-27, 30);
    }

    private static void best(int declination, int want) {
        CHECK.due("best for " + declination, want, new SundialWorks().bestLatitude(declination));
        int least = Check.withDial(want, declination).apart(0, 0);
        for (int latitude = 10; latitude <= 70; latitude++) {
            int apart = Check.withDial(latitude, declination).apart(0, 0);
            CHECK.holds("that " + latitude + " is no better for " + declination, latitude < want ? apart > least
                    : apart >= least);
        }
    }

    private static int melts(int melt, int... sizes) {
        SundialWorks works = Check.withAccepted();
        works.set(3, 100);
        for (int size : sizes) {
            works.decide(works.ask(50, -1, size, 0));
        }
        works.set(3, melt);
        int melts = works.melts();
        // As cast() does it, as long as it does.
        int casts = 0;
        while (casts < 10 && works.cast() != Check.ILLEGAL) {
            casts++;
        }
        int want = works.count(4) == 0 ? casts : Check.NONE;
        CHECK.due("melts of " + melt + ", held against cast()", want, melts);
        return melts;
    }

    private static void promise28() {
        CHECK.sentence("Tells how many melts would be needed to cast all accepted commissions, one after the other as cast()"
                + " does it, if nothing else happens.");
        // 10, 20, 25, 30, 35 and 60 centimetres weigh 1, 4, 6, 9, 12 and 36 kilograms.
        CHECK.due("none", 0, melts(20));
        CHECK.due("one of just a melt", 1, melts(36, 60));
        CHECK.due("two of just a melt", 1, melts(15, 25, 30));
        CHECK.due("a kilogram less", 2, melts(14, 25, 30));
        CHECK.due("6 and 9, 12, 9", 3, melts(18, 25, 30, 35, 30));
        CHECK.due("12 and 6, 9 and 9", 2, melts(18, 35, 30, 25, 30));
        CHECK.due("12 and 4, 9 and 6", 2, melts(16, 35, 30, 20, 25));
        CHECK.due("9 and 4, 12, 6", 3, melts(13, 30, 35, 20, 25));
        CHECK.due("ten at once", 1, melts(10, 10, 10, 10, 10, 10, 10, 10, 10, 10, 10, 10));
        CHECK.due("nine and one", 2, melts(9, 10, 10, 10, 10, 10, 10, 10, 10, 10, 10));
        CHECK.due("one by one", 10, melts(1, 10, 10, 10, 10, 10, 10, 10, 10, 10, 10));
        CHECK.due("ten of the heaviest", 5, melts(100, 60, 60, 60, 60, 60, 60, 60, 60, 60, 60));
        CHECK.due("ten of the heaviest one by one", 10, melts(36, 60, 60, 60, 60, 60, 60, 60, 60, 60, 60));
        int[] due = {0, 1, 0, 0, 0};
        for (int state = 0; state <= 4; state++) {
            SundialWorks works = withCommissions(1);
            works.set(2, state == 4 ? 9 : 10);
            if (state != 0) {
                works.decide(0);
            }
            if (state == 2 || state == 3) {
                works.cast();
            }
            if (state == 3) {
                works.deliver(0);
            }
            CHECK.due("one in state " + state, due[state], works.melts());
        }
        CHECK.sentence("Returns the number; NONE if some of them weigh more than a melt.");
        CHECK.due("the only one", Check.NONE, melts(35, 60));
        CHECK.due("the first", Check.NONE, melts(35, 60, 10));
        CHECK.due("the last", Check.NONE, melts(35, 10, 10, 60));
        CHECK.due("the tenth", Check.NONE, melts(35, 10, 10, 10, 10, 10, 10, 10, 10, 10, 60));
        CHECK.due("all", Check.NONE, melts(35, 60, 60));
        CHECK.due("just a melt", 2, melts(36, 60, 60));
        SundialWorks works = Check.withAccepted(20);
        works.ask(50, -1, 60, 0);
        CHECK.due("an asked one that is too heavy does not count", 1, works.melts());
        works.decide(1);
        CHECK.due("nor a refused one", 1, works.melts());
    }
}
