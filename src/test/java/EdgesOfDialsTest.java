/** The boundaries that promises 21 to 25 name, with the sentences about sines, dials and corrections. */
public final class EdgesOfDialsTest {
    private static final Check CHECK = new Check();
    private static final int HORIZONTAL = 100;

    public static void main(String[] args) {
        promise21();
        promise22();
        front();
        farthestOffsets();
        rounding();
        promise23();
        promise24();
        readingByLines();
        readingByShadow();
        corrections();
        promise25();
        CHECK.end();
    }

    private static int sine(int angle) {
        return new SundialWorks().sine(angle);
    }

    private static int offset(int latitude, int declination, int time) {
        return Check.withDial(latitude, declination).offset(0, time);
    }

    private static int byLines(int latitude, int declination, int offset) {
        return Check.withDial(latitude, declination).read(0, offset, 0, -1);
    }

    private static int byShadow(int latitude, int declination, int offset) {
        return Check.withDial(latitude, declination).read(0, offset, 1, -1);
    }

    private static void promise21() {
        CHECK.sentence("`angle`: -720 to 720, in quarters of a degree");
        CHECK.range("angle", -720, 720, angle -> sine(angle));
        CHECK.sentence("For an angle q of 0 to 720, SINE(q) is 40000 * q * (720 - q) divided by (648000 - q * (720 - q)),"
                + " rounded;");
        int[][] known = {{0, 0}, {1, 44}, {2, 89}, {5, 222}, {72, 3103}, {120, 5000}, {359, 10000}, {360, 10000},
            {361, 10000}, {600, 5000}, {718, 89}, {719, 44}, {720, 0}};
        for (int[] pair : known) {
            CHECK.due("sine " + pair[0], pair[1], sine(pair[0]));
        }
        for (int angle = 0; angle <= 720; angle++) {
            CHECK.due("sine " + angle, Geometry.sine(angle), sine(angle));
        }
        CHECK.sentence("Returns SINE of the angle; INVALID_ARGUMENT if angle is out of range.");
        CHECK.due("-721", Check.INVALID, sine(-721));
        CHECK.due("721", Check.INVALID, sine(721));
        CHECK.due("a whole turn more than 0", Check.INVALID, sine(1440));
        CHECK.sentence("for an angle of -720 to -1 it is minus SINE of minus the angle.");
        for (int[] pair : known) {
            CHECK.due("sine " + -pair[0], -pair[1], sine(-pair[0]));
        }
        for (int angle = -720; angle <= -1; angle++) {
            CHECK.due("sine " + angle, -Geometry.sine(-angle), sine(angle));
        }
    }

    private static void promise22() {
        CHECK.sentence("`time`: -360 to 360");
        CHECK.range("time", -360, 360, time -> offset(50, HORIZONTAL, time));
        CHECK.range("time of a vertical dial", -360, 360, time -> offset(70, 60, time));
        CHECK.sentence("Returns the offset; INVALID_ARGUMENT if an argument is out of range; ILLEGAL_STATE if there is no"
                + " dial; NONE if this time is not on the dial.");
        CHECK.range("commission", 0, 0, commission -> Check.withDial(50, HORIZONTAL).offset(commission, 0));
        CHECK.range("commission of ten", 0, 9, commission -> tenDials().offset(commission, 0));
        CHECK.due("there is none", Check.INVALID, new SundialWorks().offset(0, 0));
        CHECK.due("no dial", Check.ILLEGAL, Check.withoutDial().offset(0, 0));
        CHECK.due("no dial at a time that would not be on it", Check.ILLEGAL, Check.withoutDial().offset(0, 360));
        CHECK.due("no dial, and out of range", Check.INVALID, Check.withoutDial().offset(0, 361));
        CHECK.due("no dial, and out of range", Check.INVALID, Check.withoutDial().offset(0, -361));
        CHECK.due("not on the dial", Check.NONE, offset(50, HORIZONTAL, 304));
        CHECK.due("the last time on it", 2991, offset(50, HORIZONTAL, 303));
        CHECK.due("the first time on it", -2991, offset(50, HORIZONTAL, -303));
        CHECK.due("not on the dial", Check.NONE, offset(50, HORIZONTAL, -304));
        CHECK.sentence("A dial has a latitude of 10 to 70 degrees, north, and is horizontal or vertical; a vertical one has"
                + " a declination of -60 to 60 degrees.");
        int[][] ends = {{10, HORIZONTAL}, {70, HORIZONTAL}, {10, -60}, {10, 60}, {70, -60}, {70, 60}, {10, 0}, {70, 0}};
        for (int[] dial : ends) {
            Geometry due = Geometry.of(dial[0], dial[1]);
            for (int time = -360; time <= 360; time += 15) {
                Integer want = due.offsets[time + 360];
                CHECK.due("dial " + dial[0] + " " + dial[1] + " at " + time, want == null ? Check.NONE : want,
                        offset(dial[0], dial[1], time));
            }
        }
    }

    private static SundialWorks tenDials() {
        return Check.withAccepted(10, 10, 10, 10, 10, 10, 10, 10, 10, 10);
    }

    private static void front() {
        CHECK.sentence("COSINE(q) is SINE(360 + q); it is needed for angles of -360 to 360 alone.");
        // 1000 * SINE(40) * SINE(m) / (10000 * COSINE(m)): next to six, the cosine is 44.
        CHECK.due("a cosine of 44 makes the offset too great", Check.NONE, offset(10, HORIZONTAL, 359));
        CHECK.due("and at the other end", Check.NONE, offset(10, HORIZONTAL, -359));
        CHECK.due("a cosine of 0", Check.NONE, offset(10, HORIZONTAL, 360));
        CHECK.due("a cosine of 0 at the other end", Check.NONE, offset(10, HORIZONTAL, -360));
        CHECK.due("cosines of 0 and 5000", 423, offset(70, 60, 360));
        CHECK.due("a cosine of 10000 for the declination", Check.NONE, offset(70, 0, 360));
        CHECK.sentence("If the front is above 0, the offset at this time is 1000 times the side, divided by the front,"
                + " rounded.");
        CHECK.due("a horizontal dial, front 0 at six", Check.NONE, offset(50, HORIZONTAL, 360));
        CHECK.due("front 0 at six in the morning", Check.NONE, offset(50, HORIZONTAL, -360));
        CHECK.due("a wall to the south, front 0 at six", Check.NONE, offset(50, 0, 360));
        CHECK.due("front 0 at six in the morning", Check.NONE, offset(50, 0, -360));
        CHECK.due("a wall to one side, front above 0 at six", 423, offset(70, 60, 360));
        CHECK.due("front below 0 at six in the morning", Check.NONE, offset(70, 60, -360));
        CHECK.due("a wall to the other side", -423, offset(70, -60, -360));
        CHECK.due("front below 0 at six", Check.NONE, offset(70, -60, 360));
        CHECK.due("at noon the side is 0", 0, offset(10, -60, 0));
        CHECK.due("at noon the side is 0", 0, offset(70, HORIZONTAL, 0));
    }

    private static void farthestOffsets() {
        CHECK.sentence("A time is on the dial if the front is above 0 and the offset is at least -3000 and at most 3000.");
        CHECK.due("2999.96", 3000, offset(12, -38, 240));
        CHECK.due("3000.09", 3000, offset(10, -50, 217));
        CHECK.due("3000.41", 3000, offset(12, 12, 296));
        CHECK.due("3000.56", Check.NONE, offset(10, 59, 284));
        CHECK.due("3000.96", Check.NONE, offset(10, -56, 199));
        CHECK.due("3001.24", Check.NONE, offset(10, 12, 294));
        CHECK.due("-2999.96", -3000, offset(12, 38, -240));
        CHECK.due("-3000.09", -3000, offset(10, 50, -217));
        CHECK.due("-3000.41", -3000, offset(12, -12, -296));
        CHECK.due("-3000.56", Check.NONE, offset(10, -59, -284));
        CHECK.due("-3000.96", Check.NONE, offset(10, 56, -199));
        CHECK.due("-3001.24", Check.NONE, offset(10, -12, -294));
    }

    private static void rounding() {
        CHECK.sentence("Where a quotient is said to be rounded, it is the nearest whole number, and the greater one of two"
                + " that are as near.");
        CHECK.due("offset 209.5", 210, offset(12, HORIZONTAL, 180));
        CHECK.due("offset -209.5", -209, offset(12, HORIZONTAL, -180));
        CHECK.due("offset 243.5", 244, offset(14, 0, 56));
        CHECK.due("offset -243.5", -243, offset(14, 0, -56));
        CHECK.due("offset 2042.5", 2043, offset(19, HORIZONTAL, 324));
        CHECK.due("offset -2042.5", -2042, offset(19, HORIZONTAL, -324));
        CHECK.due("reading 7.5", 8, byLines(12, 18, 34));
        CHECK.due("reading -2.5", -2, byLines(12, 0, -11));
        CHECK.due("reading 2.5", 3, byLines(12, 0, 11));
        CHECK.due("reading 297.5", 298, byLines(50, HORIZONTAL, 2772));
        CHECK.due("reading -297.5", -297, byLines(50, HORIZONTAL, -2772));
        CHECK.due("reading -67.5", -67, byLines(12, HORIZONTAL, -65));
        CHECK.due("reading 29.1", 29, byLines(50, HORIZONTAL, 100));
        CHECK.due("reading -29.1", -29, byLines(50, HORIZONTAL, -100));
    }

    private static int lines(int latitude, int declination, int what) {
        return Check.withDial(latitude, declination).lines(0, what);
    }

    private static void lines(int latitude, int declination, int number, int first, int last) {
        CHECK.due("number for " + latitude + " " + declination, number, lines(latitude, declination, 0));
        CHECK.due("first for " + latitude + " " + declination, first, lines(latitude, declination, 1));
        CHECK.due("last for " + latitude + " " + declination, last, lines(latitude, declination, 2));
    }

    private static void promise23() {
        CHECK.sentence("`what`: 0 their number, 1 the time of the first one and 2 of the last one (NONE without lines)");
        CHECK.range("what", 0, 2, what -> lines(50, HORIZONTAL, what));
        CHECK.sentence("Returns it; INVALID_ARGUMENT if there is no such commission or what is out of range; ILLEGAL_STATE"
                + " if there is no dial.");
        CHECK.range("commission", 0, 0, commission -> Check.withDial(50, 0).lines(commission, 0));
        CHECK.range("commission of ten", 0, 9, commission -> tenDials().lines(commission, 0));
        CHECK.due("there is none", Check.INVALID, new SundialWorks().lines(0, 0));
        for (int what = 0; what <= 2; what++) {
            CHECK.due("no dial", Check.ILLEGAL, Check.withoutDial().lines(0, what));
        }
        CHECK.due("no dial, and out of range", Check.INVALID, Check.withoutDial().lines(0, 3));
        CHECK.due("no dial, and out of range", Check.INVALID, Check.withoutDial().lines(0, -1));
        CHECK.sentence("The hour lines of a dial are its offsets at the full hours (times that 60 divides) that are on the"
                + " dial.");
        lines(50, HORIZONTAL, 11, -300, 300);
        lines(70, HORIZONTAL, 9, -240, 240);
        lines(36, 0, 11, -300, 300);
        lines(12, 60, 7, -120, 240);
        lines(12, -60, 7, -240, 120);
        // Six in the evening, and six in the morning.
        lines(70, 60, 8, -60, 360);
        lines(70, -60, 8, -360, 60);
        lines(70, 9, 12, -300, 360);
        lines(70, -9, 12, -360, 300);
        // A full hour at 3000 is a line, one at 3001 is none.
        lines(12, -38, 10, -300, 240);
        lines(12, 38, 10, -240, 300);
        lines(11, 44, 9, -180, 300);
        lines(12, 55, 8, -180, 240);
        lines(12, -55, 8, -240, 180);
        lines(15, 13, 9, -240, 240);
    }

    private static void promise24() {
        CHECK.sentence("`offset`: -3000 to 3000 - `by`: 0 by lines, 1 by the shadow - `month`: 0 to 11 for a reading that is"
                + " corrected for this month, or -1 for one that is not corrected at all");
        CHECK.range("offset by lines", -3000, 3000, offset -> byLines(50, HORIZONTAL, offset));
        CHECK.range("offset by the shadow", -3000, 3000, offset -> byShadow(50, HORIZONTAL, offset));
        CHECK.range("by", 0, 1, by -> Check.withDial(50, HORIZONTAL).read(0, 0, by, -1));
        CHECK.range("month", -1, 11, month -> Check.withDial(50, HORIZONTAL).read(0, 0, 0, month));
        CHECK.range("month by the shadow", -1, 11, month -> Check.withDial(50, HORIZONTAL).read(0, 0, 1, month));
        CHECK.range("commission", 0, 0, commission -> Check.withDial(50, 0).read(commission, 0, 0, -1));
        CHECK.range("commission of ten", 0, 9, commission -> tenDials().read(commission, 0, 0, -1));
        CHECK.sentence("Returns the reading; INVALID_ARGUMENT if an argument is out of range; ILLEGAL_STATE if there is no"
                + " dial; NONE if there is no reading.");
        CHECK.due("there is none", Check.INVALID, new SundialWorks().read(0, 0, 0, -1));
        for (int by = 0; by <= 1; by++) {
            CHECK.due("no dial", Check.ILLEGAL, Check.withoutDial().read(0, 0, by, -1));
            CHECK.due("no dial in a month", Check.ILLEGAL, Check.withoutDial().read(0, 3000, by, 11));
        }
        int[][] wrong = {{0, 3001, 0, -1}, {0, -3001, 0, -1}, {0, 0, 2, -1}, {0, 0, -1, -1}, {0, 0, 0, 12}, {0, 0, 0, -2},
            {1, 0, 0, -1}};
        for (int[] n : wrong) {
            CHECK.due("no dial, and out of range", Check.INVALID, Check.withoutDial().read(n[0], n[1], n[2], n[3]));
        }
        CHECK.due("no reading by lines", Check.NONE, byLines(50, HORIZONTAL, 3000));
        CHECK.due("no reading in a month", Check.NONE, Check.withDial(50, HORIZONTAL).read(0, -3000, 0, 0));
    }

    private static void readingByLines() {
        CHECK.sentence("of all pairs of full hours h and h + 60 that are both on the dial, the first one (the smallest h)"
                + " with offsets a and b where a is at most s and b at least s;");
        CHECK.due("the first line", -300, byLines(50, HORIZONTAL, -2835));
        CHECK.due("the last line", 300, byLines(50, HORIZONTAL, 2835));
        CHECK.due("a line between", -60, byLines(50, HORIZONTAL, -206));
        CHECK.due("just ahead of it", -60, byLines(50, HORIZONTAL, -207));
        CHECK.due("three ahead of it", -61, byLines(50, HORIZONTAL, -209));
        CHECK.due("noon", 0, byLines(50, HORIZONTAL, 0));
        CHECK.due("six in the evening is a line", 360, byLines(70, 60, 423));
        CHECK.due("six in the morning is a line", -360, byLines(70, -60, -423));
        CHECK.due("a line at 3000", 240, byLines(12, -38, 3000));
        CHECK.due("a line at -3000", -240, byLines(12, 38, -3000));
        CHECK.sentence("the reading is h plus 60 * (s - a) divided by (b - a), rounded, or h if a and b are the same.");
        // From 0 at noon to 206 at 60, and from -206.
        for (int offset = 0; offset <= 206; offset++) {
            CHECK.due("offset " + offset, (120 * offset + 206) / 412, byLines(50, HORIZONTAL, offset));
            CHECK.due("offset " + (offset - 206), (120 * offset + 206) / 412 - 60, byLines(50, HORIZONTAL, offset - 206));
        }
        CHECK.sentence("If there is no such pair, there is none.");
        CHECK.due("beyond the last line", Check.NONE, byLines(50, HORIZONTAL, 2836));
        CHECK.due("beyond the first line", Check.NONE, byLines(50, HORIZONTAL, -2836));
        CHECK.due("beyond six in the evening", Check.NONE, byLines(70, 60, 424));
        CHECK.due("beyond six in the morning", Check.NONE, byLines(70, -60, -424));
        CHECK.due("another first line", -120, byLines(12, 60, -1430));
        CHECK.due("beyond it", Check.NONE, byLines(12, 60, -1431));
    }

    private static void readingByShadow() {
        CHECK.sentence("of all times that are on the dial the one whose offset differs least from s, of several the"
                + " smallest;");
        CHECK.due("98 at 29 and 102 at 30 are as near", 29, byShadow(50, HORIZONTAL, 100));
        CHECK.due("102 is nearer", 30, byShadow(50, HORIZONTAL, 101));
        CHECK.due("98 is nearer", 29, byShadow(50, HORIZONTAL, 99));
        CHECK.due("-102 at -30 and -98 at -29 are as near", -30, byShadow(50, HORIZONTAL, -100));
        CHECK.due("-98 is nearer", -29, byShadow(50, HORIZONTAL, -99));
        CHECK.due("-102 is nearer", -30, byShadow(50, HORIZONTAL, -101));
        CHECK.due("the very offset", 30, byShadow(50, HORIZONTAL, 102));
        CHECK.due("beyond the last time", 303, byShadow(50, HORIZONTAL, 3000));
        CHECK.due("beyond the first", -303, byShadow(50, HORIZONTAL, -3000));
        CHECK.due("beyond six in the evening", 360, byShadow(70, 60, 3000));
        CHECK.due("beyond six in the morning", -360, byShadow(70, -60, -3000));
        // Where lines are close, several times have the same offset: the smallest of them counts.
        sameOffsets(10, HORIZONTAL);
        sameOffsets(70, 0);
        sameOffsets(70, 60);
        CHECK.sentence("if no time is on the dial, there is none.");
        // Noon is on each dial that there is, so there is always a reading.
        for (int latitude = 10; latitude <= 70; latitude += 30) {
            for (int declination : new int[] {-60, 0, 60, HORIZONTAL}) {
                CHECK.due("noon of " + latitude + " " + declination, 0, offset(latitude, declination, 0));
                CHECK.holds("that -3000 is read", byShadow(latitude, declination, -3000) != Check.NONE);
                CHECK.holds("that 3000 is read", byShadow(latitude, declination, 3000) != Check.NONE);
            }
        }
    }

    private static void sameOffsets(int latitude, int declination) {
        Geometry due = Geometry.of(latitude, declination);
        for (int time = -100; time <= 100; time++) {
            int offset = due.offsets[time + 360];
            int first = time;
            while (due.offsets[first - 1 + 360] == offset) {
                first--;
            }
            CHECK.due("dial " + latitude + " " + declination + ", the first of offset " + offset, first,
                    byShadow(latitude, declination, offset));
        }
    }

    private static void corrections() {
        CHECK.sentence("A reading that is corrected for a month is the reading plus the correction of the month plus the"
                + " longitude correction.");
        for (int longitude : new int[] {-60, 0, 60}) {
            for (int month = 0; month <= 11; month += 11) {
                for (int minutes : new int[] {-20, 0, 20}) {
                    SundialWorks works = new SundialWorks();
                    works.ask(50, -1, 20, longitude);
                    works.setCorrection(month, minutes);
                    String call = longitude + " and " + minutes + " in month " + month;
                    for (int by = 0; by <= 1; by++) {
                        CHECK.due(call, 300 + longitude + minutes, works.read(0, 2835, by, month));
                        CHECK.due(call + ", of another month", -300 + longitude, works.read(0, -2835, by, 11 - month));
                        CHECK.due(call + ", not corrected", 300, works.read(0, 2835, by, -1));
                    }
                    CHECK.due(call + ", no reading", Check.NONE, works.read(0, 2836, 0, month));
                }
            }
        }
        SundialWorks works = Check.withDial(70, 60);
        works.ask(70, 0, 20, 60);
        works.setCorrection(0, 20);
        CHECK.due("80 minutes past six", 440, works.read(1, 423, 1, 0));
        works = Check.withDial(70, -60);
        works.ask(70, 0, 20, -60);
        works.setCorrection(0, -20);
        CHECK.due("80 minutes ahead of six", -440, works.read(1, -423, 1, 0));
    }

    private static int apart(int latitude, int declination, int what) {
        return Check.withDial(latitude, declination).apart(0, what);
    }

    private static void apart(int latitude, int declination, int apart, int first) {
        CHECK.due("apart of " + latitude + " " + declination, apart, apart(latitude, declination, 0));
        CHECK.due("first time of " + latitude + " " + declination, first, apart(latitude, declination, 1));
    }

    private static void promise25() {
        CHECK.sentence("`what`: 0 for this number, 1 for the first time at which the difference is as great (NONE if there is"
                + " no time for which there is a reading by lines)");
        CHECK.range("what", 0, 1, what -> apart(50, HORIZONTAL, what));
        // From -279 to -271 and from 271 to 279 the difference is 10.
        apart(50, HORIZONTAL, 10, -279);
        apart(36, 0, 10, -279);
        apart(35, 0, 5, -224);
        apart(12, 60, 4, -97);
        apart(70, 60, 9, -41);
        apart(45, -34, 8, 148);
        apart(70, -58, 23, 98);
        apart(70, 58, 23, -105);
        CHECK.sentence("Returns it; INVALID_ARGUMENT if there is no such commission or what is out of range; ILLEGAL_STATE"
                + " if there is no dial.");
        CHECK.range("commission", 0, 0, commission -> Check.withDial(50, 0).apart(commission, 0));
        CHECK.range("commission of ten", 0, 9, commission -> tenDials().apart(commission, 1));
        CHECK.due("there is none", Check.INVALID, new SundialWorks().apart(0, 0));
        CHECK.due("no dial", Check.ILLEGAL, Check.withoutDial().apart(0, 0));
        CHECK.due("no dial for the time", Check.ILLEGAL, Check.withoutDial().apart(0, 1));
        CHECK.due("no dial, and out of range", Check.INVALID, Check.withoutDial().apart(0, 2));
        CHECK.due("no dial, and out of range", Check.INVALID, Check.withoutDial().apart(0, -1));
        CHECK.sentence("over all times m that are on the dial and for whose offset there is a reading by lines;");
        // The times beyond the outer lines do not count.
        CHECK.due("a time beyond the first line is on the dial", -2985, offset(12, 60, -178));
        CHECK.due("but is not read by lines", Check.NONE, byLines(12, 60, -2985));
    }
}
