/** Promises 21 to 28. A declination of 100 stands for a horizontal dial. */
public final class DialsTest {
    private static final Check CHECK = new Check();
    private static final int HORIZONTAL = 100;
    private static final int[] FAR_OFF = {Integer.MIN_VALUE, -100009, -10000, 10000, Integer.MAX_VALUE};
    /** Latitude and declination; the rounding of offsets is between two that are as near on some of them. */
    private static final int[][] DIALS = {{10, HORIZONTAL}, {11, HORIZONTAL}, {15, HORIZONTAL}, {50, HORIZONTAL},
        {70, HORIZONTAL}, {10, 0}, {12, 0}, {12, -38}, {13, 37}, {10, -60}, {10, 60}, {45, -34}, {48, 13}, {46, 3},
        {58, 51}, {70, -60}, {70, 60}, {70, 0}};

    public static void main(String[] args) {
        promise21();
        promise22();
        promise23();
        promise24();
        promise25();
        promise26();
        promise27();
        promise28();
        CHECK.end();
    }

    private static void promise21() {
        SundialWorks works = new SundialWorks();
        int[][] known = {{0, 0}, {1, 44}, {-1, -44}, {120, 5000}, {-120, -5000}, {360, 10000}, {-360, -10000},
            {600, 5000}, {719, 44}, {720, 0}, {-720, 0}, {-719, -44}, {721, Check.INVALID}, {-721, Check.INVALID}};
        for (int[] pair : known) {
            CHECK.due("sine " + pair[0], pair[1], works.sine(pair[0]));
        }
        for (int wrong : FAR_OFF) {
            CHECK.due("sine " + wrong, Check.INVALID, works.sine(wrong));
        }
        for (int from = -720; from <= 720; from += 400) {
            SundialWorks fresh = new SundialWorks();
            for (int angle = from; angle < from + 400 && angle <= 720; angle++) {
                CHECK.due("sine " + angle, Geometry.sine(angle), fresh.sine(angle));
            }
        }
    }

    private static void promise22() {
        SundialWorks works = Check.withDial(11, HORIZONTAL);
        CHECK.due("-1202.5 is rounded to the greater", -1202, works.offset(0, -324));
        CHECK.due("1202.5, too", 1203, works.offset(0, 324));
        CHECK.due("no front at six", Check.NONE, works.offset(0, 360));
        CHECK.due("3000 is on the dial", 3000, Check.withDial(12, -38).offset(0, 240));
        CHECK.due("-3000 is on the dial", -3000, Check.withDial(13, 37).offset(0, -240));
        CHECK.due("six in the evening on a wall that declines", 423, Check.withDial(70, 60).offset(0, 360));
        CHECK.due("six in the morning", -423, Check.withDial(70, -60).offset(0, -360));
        CHECK.due("time 361", Check.INVALID, works.offset(0, 361));
        CHECK.due("time -361", Check.INVALID, works.offset(0, -361));
        for (int wrong : FAR_OFF) {
            CHECK.due("time " + wrong, Check.INVALID, works.offset(0, wrong));
            CHECK.due("commission " + wrong, Check.INVALID, works.offset(wrong, 0));
        }
        CHECK.due("commission 1", Check.INVALID, works.offset(1, 0));
        CHECK.due("commission -1", Check.INVALID, works.offset(-1, 0));
        works.ask(50, works.addWall(), 20, 0);
        CHECK.due("no dial", Check.ILLEGAL, works.offset(1, 0));
        CHECK.due("no dial, and a wrong time", Check.INVALID, works.offset(1, 361));
        for (int[] dial : DIALS) {
            Geometry due = Geometry.of(dial[0], dial[1]);
            for (int first = -360; first <= 360; first += 361) {
                SundialWorks fresh = Check.withDial(dial[0], dial[1]);
                for (int time = first; time < first + 361 && time <= 360; time++) {
                    Integer offset = due.offsets[time + 360];
                    CHECK.due("offset at " + time, offset == null ? Check.NONE : offset, fresh.offset(0, time));
                }
            }
        }
    }

    private static void promise23() {
        SundialWorks works = Check.withDial(50, HORIZONTAL);
        CHECK.due("number", 11, works.lines(0, 0));
        CHECK.due("first", -300, works.lines(0, 1));
        CHECK.due("last", 300, works.lines(0, 2));
        works = Check.withDial(70, -60);
        CHECK.due("six in the morning is a line", -360, works.lines(0, 1));
        works = Check.withDial(70, 60);
        CHECK.due("eight lines", 8, works.lines(0, 0));
        CHECK.due("to six in the evening", 360, works.lines(0, 2));
        CHECK.due("property 3", Check.INVALID, works.lines(0, 3));
        CHECK.due("property -1", Check.INVALID, works.lines(0, -1));
        CHECK.due("commission 1", Check.INVALID, works.lines(1, 0));
        CHECK.due("commission -1", Check.INVALID, works.lines(-1, 0));
        works.ask(50, works.addWall(), 20, 0);
        CHECK.due("no dial", Check.ILLEGAL, works.lines(1, 0));
        CHECK.due("no dial, and a wrong property", Check.INVALID, works.lines(1, 3));
        everyDial();
    }

    /** Lines and apart of each dial that there is. */
    private static void everyDial() {
        for (int latitude = 10; latitude <= 70; latitude++) {
            for (int declination = -60; declination <= 61; declination++) {
                int way = declination == 61 ? HORIZONTAL : declination;
                Geometry due = Geometry.of(latitude, way);
                SundialWorks works = Check.withDial(latitude, way);
                String dial = " of the dial " + latitude + " " + way;
                CHECK.due("lines" + dial, due.lines.size(), works.lines(0, 0));
                CHECK.due("first line" + dial, due.lines.get(0), works.lines(0, 1));
                CHECK.due("last line" + dial, due.lines.get(due.lines.size() - 1), works.lines(0, 2));
                CHECK.due("apart" + dial, due.apart, works.apart(0, 0));
                CHECK.due("time apart" + dial, due.apartTime, works.apart(0, 1));
            }
        }
    }

    private static void promise24() {
        SundialWorks works = Check.withDial(50, HORIZONTAL);
        CHECK.due("on a line", 60, works.read(0, 206, 0, -1));
        CHECK.due("by lines", 29, works.read(0, 100, 0, -1));
        CHECK.due("by the shadow, 98 and 102 are as near", 29, works.read(0, 100, 1, -1));
        CHECK.due("by the shadow", 30, works.read(0, 101, 1, -1));
        CHECK.due("beyond the lines", Check.NONE, works.read(0, 3000, 0, -1));
        CHECK.due("nor for a month", Check.NONE, works.read(0, 3000, 0, 5));
        CHECK.due("the shadow has the nearest", 303, works.read(0, 3000, 1, -1));
        CHECK.due("at the other end", -303, works.read(0, -3000, 1, -1));
        CHECK.due("a tie goes to the greater", 8, Check.withDial(12, 18).read(0, 34, 0, -1));
        CHECK.due("also below 0", -199, Check.withDial(23, 27).read(0, -1760, 0, -1));
        readCorrected();
        readWrong();
        for (int[] dial : DIALS) {
            for (int by = 0; by <= 1; by++) {
                readAll(dial[0], dial[1], by);
            }
        }
    }

    private static void readAll(int latitude, int declination, int by) {
        Geometry due = Geometry.of(latitude, declination);
        SundialWorks works = Check.withDial(latitude, declination);
        for (int offset = -3000; offset <= 3000; offset += 1 + Math.abs(offset) / 20) {
            Integer reading = by == 0 ? due.byLines(offset) : due.byShadow(offset);
            CHECK.due("dial " + latitude + " " + declination + ", read " + offset + " by " + by,
                    reading == null ? Check.NONE : reading, works.read(0, offset, by, -1));
        }
    }

    private static void readCorrected() {
        SundialWorks works = new SundialWorks();
        works.ask(50, -1, 20, -60);
        works.setCorrection(0, -20);
        works.setCorrection(11, 13);
        CHECK.due("not corrected at all", 60, works.read(0, 206, 0, -1));
        CHECK.due("for the first month", -20, works.read(0, 206, 0, 0));
        CHECK.due("for the last", 13, works.read(0, 206, 0, 11));
        CHECK.due("for a month without a correction", 0, works.read(0, 206, 1, 5));
        works.ask(70, Check.knownWall(works, 60), 20, 60);
        works.setCorrection(11, 20);
        CHECK.due("beyond six", 440, works.read(1, 423, 0, 11));
    }

    private static void readWrong() {
        SundialWorks works = Check.withDial(50, HORIZONTAL);
        int[][] wrong = {{-1, 0, 0, -1}, {1, 0, 0, -1}, {0, -3001, 0, -1}, {0, 3001, 0, -1}, {0, 0, -1, -1},
            {0, 0, 2, -1}, {0, 0, 0, -2}, {0, 0, 0, 12}, {0, 3001, 0, 12}};
        for (int[] n : wrong) {
            CHECK.due("a wrong argument", Check.INVALID, works.read(n[0], n[1], n[2], n[3]));
        }
        for (int far : FAR_OFF) {
            CHECK.due("commission " + far, Check.INVALID, works.read(far, 0, 0, -1));
            CHECK.due("offset " + far, Check.INVALID, works.read(0, far, 0, -1));
            CHECK.due("by " + far, Check.INVALID, works.read(0, 0, far, -1));
            CHECK.due("month " + far, Check.INVALID, works.read(0, 0, 0, far));
        }
        works.ask(50, works.addWall(), 20, 0);
        CHECK.due("no dial", Check.ILLEGAL, works.read(1, 0, 0, -1));
        CHECK.due("no dial for the shadow", Check.ILLEGAL, works.read(1, 0, 1, 3));
        CHECK.due("no dial, and a wrong month", Check.INVALID, works.read(1, 0, 0, 12));
    }

    private static void promise25() {
        SundialWorks works = Check.withDial(50, HORIZONTAL);
        CHECK.due("apart", 10, works.apart(0, 0));
        CHECK.due("first time", -279, works.apart(0, 1));
        CHECK.due("property 2", Check.INVALID, works.apart(0, 2));
        CHECK.due("property -1", Check.INVALID, works.apart(0, -1));
        CHECK.due("commission 1", Check.INVALID, works.apart(1, 0));
        CHECK.due("commission -1", Check.INVALID, works.apart(-1, 0));
        works.ask(50, works.addWall(), 20, 0);
        CHECK.due("no dial", Check.ILLEGAL, works.apart(1, 0));
        CHECK.due("no dial, and a wrong property", Check.INVALID, works.apart(1, 2));
        for (int far : FAR_OFF) {
            CHECK.due("commission " + far, Check.INVALID, works.apart(far, 0));
            CHECK.due("property " + far, Check.INVALID, works.apart(0, far));
        }
    }

    private static void promise26() {
        SundialWorks works = new SundialWorks();
        works.addWall();
        works.ask(50, 0, 60, 0);
        works.set(1, 13);
        works.set(2, 0);
        CHECK.due("no dial", 1, works.reason(0));
        works.measure(0, 0);
        works.measure(0, 0);
        CHECK.due("too few lines", 2, works.reason(0));
        works.set(1, 1);
        CHECK.due("too far apart", 3, works.reason(0));
        works.set(2, 60);
        CHECK.due("too heavy", 4, works.reason(0));
        works.set(3, 35);
        CHECK.due("a kilogram too heavy", 4, works.reason(0));
        works.set(3, 36);
        CHECK.due("none", 0, works.reason(0));
        CHECK.due("asking for it is no action", 5, works.count(11));
        CHECK.due("nor decides", 0, works.commission(0, 4));
        works.decide(0);
        works.measure(0, 60);
        CHECK.due("accepted, its dial is kept", 0, works.reason(0));
        works.set(3, 1);
        CHECK.due("accepted, but too heavy now", 4, works.reason(0));
        works.set(3, 36);
        works.cast();
        works.set(1, 13);
        CHECK.due("cast, but with too few lines now", 2, works.reason(0));
        works.deliver(0);
        CHECK.due("delivered", 2, works.reason(0));
        works.ask(50, 0, 10, 0);
        works.decide(1);
        works.set(1, 1);
        works.measure(0, 60);
        CHECK.due("refused, its wall is known again", 0, works.reason(1));
        for (int wrong : new int[] {-1, 2, 10, Integer.MIN_VALUE, Integer.MAX_VALUE}) {
            CHECK.due("reason " + wrong, Check.INVALID, works.reason(wrong));
        }
    }

    private static void promise27() {
        SundialWorks works = new SundialWorks();
        CHECK.due("horizontal", 55, works.bestLatitude(HORIZONTAL));
        CHECK.due("south", 10, works.bestLatitude(0));
        for (int declination = -60; declination <= 60; declination++) {
            CHECK.due("best latitude for " + declination, Geometry.bestLatitude(declination),
                    works.bestLatitude(declination));
        }
        for (int wrong : new int[] {-61, 61, 99, 101, -100, Integer.MIN_VALUE, Integer.MAX_VALUE}) {
            CHECK.due("bestLatitude " + wrong, Check.INVALID, works.bestLatitude(wrong));
        }
        CHECK.due("no action", 0, works.count(11));
    }

    private static void promise28() {
        SundialWorks works = new SundialWorks();
        CHECK.due("nothing to cast", 0, works.melts());
        works.ask(50, -1, 60, 0);
        CHECK.due("asked ones do not count", 0, works.melts());
        works = Check.withAccepted(30, 35, 20, 30, 26);
        CHECK.due("9 + 4 + 7, 12, 9: three castings", 3, meltsWith(works, 20));
        CHECK.due("9 + 12 + 4 and 9 + 7", 2, meltsWith(works, 25));
        CHECK.due("all at once", 1, meltsWith(works, 41));
        CHECK.due("a kilogram less", 2, meltsWith(works, 40));
        CHECK.due("as heavy as a melt", 4, meltsWith(works, 12));
        CHECK.due("one weighs more", Check.NONE, meltsWith(works, 11));
        CHECK.due("all weigh more", Check.NONE, meltsWith(works, 1));
        CHECK.due("nothing is cast by it", 5, works.count(4));
        works.set(3, 20);
        works.cast();
        CHECK.due("two are left", 2, works.melts());
        works.cast();
        works.cast();
        CHECK.due("none is left", 0, works.melts());
        works = Check.withAccepted(30, 30, 30, 30, 30, 30, 30, 30, 30, 30);
        CHECK.due("ten of 9", 10, meltsWith(works, 9));
        CHECK.due("two by two", 5, meltsWith(works, 18));
        CHECK.due("three by three", 4, meltsWith(works, 27));
    }

    private static int meltsWith(SundialWorks works, int melt) {
        works.set(3, melt);
        return works.melts();
    }
}
