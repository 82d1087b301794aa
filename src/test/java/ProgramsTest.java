/** Promises 14 to 16. */
public final class ProgramsTest {
    private static final Check CHECK = new Check();

    public static void main(String[] args) {
        promise14();
        promise15();
        promise16();
        CHECK.end();
    }

    private static void promise14() {
        SundialWorks works = new SundialWorks();
        for (int wrong : new int[] {0, -1, 256, Integer.MIN_VALUE, Integer.MAX_VALUE}) {
            CHECK.due("append " + wrong, Check.INVALID, works.append(wrong));
        }
        for (int length = 1; length <= 140; length++) {
            CHECK.due("length", length, works.append(length == 1 ? 1 : 255));
        }
        CHECK.due("full", Check.FULL, works.append(65));
        CHECK.due("full, and a wrong character", Check.INVALID, works.append(256));
        CHECK.due("still 140", 140, works.count(12));
        CHECK.due("no action", 0, works.count(11));
    }

    private static void promise15() {
        SundialWorks works = new SundialWorks();
        CHECK.due("empty", 0, works.clearText());
        Check.type(works, "abc");
        CHECK.due("three", 3, works.clearText());
        CHECK.due("empty then", 0, works.count(12));
        CHECK.due("begins anew", 1, works.append(97));
        CHECK.due("no action", 0, works.count(11));
    }

    private static void promise16() {
        commands();
        spaces();
        places();
        errorsOfCommands();
        nothingStays();
        oneAction();
    }

    private static void commands() {
        SundialWorks works = new SundialWorks();
        works.set(2, 60);
        CHECK.due("a full program", 9, Check.run(works, "wall;measure 0 12;measure 0 13;flat 50 30;upright 40 0 20;"
                + "decide 0;decide 1;cast;deliver 1;"));
        CHECK.due("the text is empty then", 0, works.count(12));
        int[] flat = {50, -1, 30, 0, 2, 0, 9, 0, 0};
        int[] upright = {40, 0, 20, 0, 3, 13, 4, 0, 0};
        for (int what = 0; what < 9; what++) {
            CHECK.due("flat " + what, flat[what], works.commission(0, what));
            CHECK.due("upright " + what, upright[what], works.commission(1, what));
        }
        CHECK.due("below 0", 1, Check.run(works, "measure 0 -60;"));
        CHECK.due("measured", -60, works.wall(0, 0));
        CHECK.due("minus nothing", 1, Check.run(works, "measure 0 - 0;"));
        CHECK.due("measured", 0, works.wall(0, 0));
        CHECK.due("a refusal is no failure", 2, Check.run(works, "flat 50 60;decide 2;"));
        CHECK.due("refused", 4, works.commission(2, 8));
        CHECK.due("no commands", 0, Check.run(works, ""));
        CHECK.due("spaces alone", 0, Check.run(works, "   "));
        CHECK.due("and they are gone", 0, works.count(12));
    }

    private static void spaces() {
        SundialWorks works = new SundialWorks();
        CHECK.due("everywhere", 2, Check.run(works, "  wall  ;  measure  0  -  7  ;  "));
        CHECK.due("measured", -7, works.wall(0, 0));
        CHECK.due("hardly any", 3, Check.run(works, "wall;measure1 5;measure1-6;"));
        CHECK.due("measured", -6, works.wall(1, 0));
        CHECK.due("the one before", 5, works.wall(1, 1));
        CHECK.due("no minus needs a space", 1, Check.run(works, "measure1-6 ;"));
        failsAt("two numbers in one", 11, "measure 152;");
        failsAt("two words in one", 0, "wallwall;");
        failsAt("a tab is no space", 4, "wall\t;");
        failsAt("a line's end is none", 5, "wall;\nwall;");
        failsAt("nor is 160", 4, "cast\u00a0;");
    }

    /** Runs a program on a workshop with one wall and one commission that is cast. */
    private static void failsAt(String why, int place, String text) {
        SundialWorks works = new SundialWorks();
        Check.run(works, "wall;flat 50 30;decide 0;cast;");
        CHECK.due(why + ": " + text, -1000 - place, Check.run(works, text));
        CHECK.due("the text is kept", text.length(), works.count(12));
        CHECK.due("it is no action", 1, works.count(11));
        CHECK.due("nothing stays: walls", 1, works.count(0));
        CHECK.due("nothing stays: measurements", Check.NONE, works.wall(0, 0));
        CHECK.due("nothing stays: commissions", 1, works.count(2));
        CHECK.due("nothing stays: states", 2, works.commission(0, 4));
        CHECK.due("it fails again", -1000 - place, works.run());
    }

    private static void places() {
        failsAt("no such word", 0, "walls;");
        failsAt("a word cut short", 0, "wal;");
        failsAt("a letter more", 0, "walla;");
        failsAt("z is a letter, too", 0, "wallz;");
        failsAt("what comes behind z is none", 4, "wall{;");
        failsAt("what comes before a is none", 4, "wall`;");
        failsAt("what comes behind 9 is no digit", 8, "decide 0:");
        failsAt("what comes before 0 is no digit", 8, "decide 0/");
        failsAt("a capital letter", 0, "Wall;");
        failsAt("a capital inside", 0, "waLl;");
        failsAt("no word", 2, "  ;");
        failsAt("a number for a word", 0, "7;");
        failsAt("an empty command", 5, "wall;;");
        failsAt("the second command", 6, "wall; wool;");
        failsAt("no semicolon", 4, "wall");
        failsAt("no semicolon, but spaces", 7, "wall   ");
        failsAt("the next word for it", 5, "wall cast;");
        failsAt("a number too many", 5, "wall 0;");
        failsAt("a number too few", 9, "measure 0;");
        failsAt("all numbers are missing", 7, "measure;");
        failsAt("the text ends before a number", 7, "measure");
        failsAt("the text ends after a number", 9, "measure 0");
        failsAt("the text ends after the minus", 11, "measure 0 -");
        failsAt("the text ends before the semicolon", 12, "measure 0 -5");
        failsAt("nothing behind the minus", 11, "measure 0 -;");
        failsAt("two of them", 11, "measure 0 --5;");
        failsAt("a wall below 0", 8, "measure -0 5;");
        failsAt("a latitude below 0", 5, "flat -50 20;");
        failsAt("a size below 0", 8, "flat 50 -20;");
        failsAt("a declination where none is", 11, "upright 50 -0 20;");
        failsAt("a commission below 0", 7, "decide -0;");
        failsAt("deliver below 0", 8, "deliver -0;");
        failsAt("no plus", 10, "measure 0 +5;");
        failsAt("a word for a number", 7, "decide wall;");
        failsAt("a 0 in front", 7, "decide 00;");
        failsAt("a 0 in front", 10, "measure 0 05;");
        failsAt("a 0 in front behind the minus", 11, "measure 0 -05;");
        failsAt("five digits", 5, "flat 50000 20;");
        failsAt("letters stuck to digits", 8, "decide 0x;");
        failsAt("a third number", 13, "measure 0 10 5;");
        failsAt("a strange sign", 8, "decide 0\u00e9;");
        failsAt("sign 1", 0, "\u0001");
    }

    private static void errorsOfCommands() {
        failsAt("out of range: its word", 5, "wall;measure 1 61;");
        failsAt("four digits are a number", 2, "  flat 9999 20;");
        failsAt("no such wall", 0, "upright 50 1 20;");
        failsAt("no such wall, far off", 0, "upright 50 9999 20;");
        failsAt("no such commission", 0, "decide 1;");
        failsAt("not asked", 0, "decide 0;");
        failsAt("nothing to cast", 0, "cast;");
        failsAt("not cast", 21, "flat 40 20;deliver 0;deliver 1;");
        failsAt("too many walls", 25, "wall;wall;wall;wall;wall;wall;");
        failsAt("degrees out of range", 0, "measure 0 -61;");
        failsAt("a command runs before the next is read", 0, "cast;wool");
        failsAt("what is read first fails first", 5, "cast cast;");
        failsAt("the later command is not allowed", 13, "measure 0 10;wool;");
        SundialWorks works = new SundialWorks();
        CHECK.due("ten commissions", 10, Check.run(works, "flat 50 20;".repeat(10)));
        CHECK.due("an eleventh", -1001, Check.run(works, " flat 50 20;"));
    }

    private static void nothingStays() {
        SundialWorks works = new SundialWorks();
        works.set(2, 60);
        Check.knownWall(works, 5);
        works.ask(50, 0, 20, 7);
        works.take(0);
        works.setCorrection(4, 4);
        CHECK.due("fails late", -1042, Check.run(works, "measure 0 40;flat 50 60;decide 1;decide 0;upright 9 0 9;"));
        CHECK.due("the measurement", 5, works.wall(0, 0));
        CHECK.due("the commissions", 1, works.count(2));
        CHECK.due("the states", 0, works.commission(0, 4));
        CHECK.due("the refusals", 0, works.commission(0, 8));
        CHECK.due("the corrections", 4, works.correction(4));
        CHECK.due("the snapshots", 1, works.count(10));
        CHECK.due("the history", 5, works.count(11));
        CHECK.due("fails after a cast", -1014, Check.run(works, "decide 0;cast;cast;"));
        CHECK.due("no casting", 0, works.count(8));
        CHECK.due("no kilograms", 0, works.count(9));
        CHECK.due("its casting", Check.NONE, works.commission(0, 7));
        CHECK.due("undo goes back before the last action", 4, works.undo());
        CHECK.due("the correction", 0, works.correction(4));
    }

    private static void oneAction() {
        SundialWorks works = new SundialWorks();
        CHECK.due("six walls", 6, Check.run(works, "wall;wall;wall;wall;wall;wall;"));
        CHECK.due("one action", 1, works.count(11));
        CHECK.due("also without commands", 0, works.run());
        CHECK.due("a second action", 2, works.count(11));
        CHECK.due("undo", 1, works.undo());
        CHECK.due("nothing changed by it", 6, works.count(0));
        CHECK.due("undo", 0, works.undo());
        CHECK.due("all six are gone", 0, works.count(0));
        CHECK.due("a long one", 13, Check.run(works, "wall;" + "measure0 1;".repeat(12)));
        StringBuilder full = new StringBuilder("flat 10 10;");
        while (full.length() < 140) {
            full.append(' ');
        }
        CHECK.due("140 characters", 1, Check.run(works, full.toString()));
        full.setLength(0);
        full.append(" ".repeat(136)).append("cast");
        CHECK.due("the end at 140", -1140, Check.run(works, full.toString()));
    }
}
