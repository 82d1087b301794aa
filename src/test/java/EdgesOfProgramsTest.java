/** The boundaries that promises 14 to 16 name, with the sentences about programs. */
public final class EdgesOfProgramsTest {
    private static final Check CHECK = new Check();

    private interface Call {
        int on(SundialWorks works);
    }

    public static void main(String[] args) {
        promise14();
        promise15();
        length();
        tokens();
        numbers();
        degrees();
        spaces();
        asCalls();
        oneByOne();
        places();
        oneAction();
        CHECK.end();
    }

    private static SundialWorks withText(String text) {
        SundialWorks works = new SundialWorks();
        Check.type(works, text);
        return works;
    }

    /** Runs a text on a workshop with a wall that is not known and a horizontal commission that is asked. */
    private static int run(String text) {
        return withWork(text).run();
    }

    private static SundialWorks withWork(String text) {
        SundialWorks works = withText(text);
        works.addWall();
        works.ask(50, -1, 20, 0);
        return works;
    }

    private static void runs(int commands, String text) {
        CHECK.due("'" + text + "'", commands, run(text));
    }

    private static void fails(int place, String text) {
        CHECK.due("'" + text + "'", -1000 - place, run(text));
    }

    private static void promise14() {
        CHECK.sentence("`character`: character code, 1 to 255");
        CHECK.range("character", 1, 255, character -> new SundialWorks().append(character));
        for (int character = 1; character <= 255; character++) {
            CHECK.due("character " + character, 1, new SundialWorks().append(character));
        }
        CHECK.sentence("Returns the new length of the text; INVALID_ARGUMENT if character is out of range;"
                + " CAPACITY_EXCEEDED if the text already has 140 characters.");
        SundialWorks works = new SundialWorks();
        for (int length = 1; length <= 140; length++) {
            CHECK.due("length", length, works.append(' '));
        }
        CHECK.due("one more", Check.FULL, works.append(' '));
        CHECK.due("still 140", 140, works.count(12));
        CHECK.due("139 and one", 140, withText(" ".repeat(139)).append(';'));
        for (int wrong : new int[] {0, 256}) {
            CHECK.due("full, and out of range", Check.INVALID, withText(" ".repeat(140)).append(wrong));
            works = withText("x");
            works.append(wrong);
            CHECK.due("what is out of range is not appended", 1, works.count(12));
        }
        CHECK.due("the 141st is not appended", 0, withText(" ".repeat(140) + "x").run());
    }

    private static void promise15() {
        CHECK.sentence("Makes the text empty. Returns the previous length of the text.");
        CHECK.due("empty", 0, new SundialWorks().clearText());
        CHECK.due("one", 1, withText("x").clearText());
        CHECK.due("140", 140, withText("x".repeat(140)).clearText());
        SundialWorks works = withText("x".repeat(140));
        works.clearText();
        CHECK.due("empty then", 0, works.count(12));
        CHECK.due("twice", 0, works.clearText());
        CHECK.due("nothing is left of it", 0, works.run());
        Check.type(works, "wall;");
        CHECK.due("nor behind a new text", 1, works.run());
    }

    private static void length() {
        CHECK.sentence("A text of at most 140 characters can be run as a program: commands (possibly none),");
        runs(0, "");
        runs(0, " ");
        runs(0, " ".repeat(140));
        runs(1, " ".repeat(131) + "decide 0;");
        runs(1, "decide 0;" + " ".repeat(131));
        fails(139, " ".repeat(139) + "x");
        fails(140, " ".repeat(131) + " decide 0");
        runs(11, "measure 0 1;".repeat(11) + " ".repeat(8));
        runs(12, "measure 0 1;".repeat(10) + "measure0 1;" + "wall;    ");
        CHECK.sentence("each of which ends with \";\"");
        runs(1, "wall;");
        fails(4, "wall");
        fails(5, "wall wall;");
        fails(5, "wall;;");
        fails(0, ";");
        fails(9, "wall;wall");
    }

    /** 0 for a space, 1 for a letter, 2 for a digit, 3 for any other character. */
    private static int kind(int character) {
        if (character == 32) {
            return 0;
        }
        if (character >= 97 && character <= 122) {
            return 1;
        }
        return character >= 48 && character <= 57 ? 2 : 3;
    }

    private static void tokens() {
        CHECK.sentence("Tokens are maximal runs of letters a to z, maximal runs of digits, and any other character that is"
                + " no space.");
        for (int code = 1; code <= 255; code++) {
            around((char) code, kind(code));
        }
        fails(0, "walls;");
        fails(0, "wal;");
        fails(0, "awall;");
        fails(0, "zwall;");
        fails(0, "wallwall;");
        fails(1, " x y");
    }

    /** A character alone, ahead of a word, in it and behind it, and ahead of a number and behind it. */
    private static void around(char c, int kind) {
        due(c, kind == 0 ? 0 : -1000, "" + c);
        due(c, kind == 0 ? 1 : -1000, c + "wall;");
        due(c, -1000, "wal" + c + "l;");
        due(c, kind == 0 ? 1 : kind == 1 ? -1000 : c == ';' ? -1005 : -1004, "wall" + c + ";");
        // A digit ahead of the 0 makes "00", which is no number, or 10 to 90, for which there is no commission.
        due(c, kind == 0 ? 1 : kind == 1 || c >= '1' && c <= '9' ? -1000 : -1006, "decide" + c + "0;");
        due(c, kind == 0 ? 1 : kind == 2 ? -1007 : c == ';' ? -1009 : -1008, "decide 0" + c + ";");
        due(c, kind == 0 || c == '-' ? 1 : kind == 2 ? -1008 : -1009, "measure 0" + c + "5;");
    }

    private static void due(char c, int want, String text) {
        CHECK.due("'" + text + "' with the character " + (int) c, want, run(text));
    }

    private static void numbers() {
        CHECK.sentence("A number is a run of 1 to 4 digits, the first of several not 0;");
        runs(1, "decide 0;");
        fails(7, "decide 00;");
        fails(7, "decide 01;");
        fails(7, "decide 0000;");
        fails(7, "decide 0001;");
        fails(7, "decide 00000;");
        for (String number : new String[] {"1", "9", "10", "99", "100", "999", "1000", "9999"}) {
            fails(0, "decide " + number + ";");
        }
        for (String number : new String[] {"10000", "99999", "4294967296", "18446744073709551616", "00000000000"}) {
            fails(7, "decide " + number + ";");
        }
        runs(1, "flat 10 10;");
        runs(1, "flat 70 60;");
        fails(5, "flat 4294967346 20;");
        fails(8, "flat 50 4294967316;");
        fails(5, "flat 050 20;");
        fails(8, "flat 50 020;");
        fails(11, "upright 50 00 20;");
        fails(8, "upright 050 0 20;");
    }

    private static void degree(int want, String text) {
        SundialWorks works = withWork(text);
        CHECK.due("'" + text + "'", 1, works.run());
        CHECK.due("measured by '" + text + "'", want, works.wall(0, 0));
    }

    private static void degrees() {
        CHECK.sentence("DEGREES may have the token \"-\" in front, and is below 0 then (also \"- 0\" is let).");
        degree(0, "measure 0 0;");
        degree(0, "measure 0 - 0;");
        degree(0, "measure 0 -0;");
        degree(1, "measure 0 1;");
        degree(-1, "measure 0 -1;");
        degree(-1, "measure 0 -  1;");
        degree(-1, "measure0-1;");
        degree(60, "measure 0 60;");
        degree(-60, "measure 0 -60;");
        fails(0, "measure 0 61;");
        fails(0, "measure 0 -61;");
        fails(0, "measure 0 9999;");
        fails(0, "measure 0 -9999;");
        fails(11, "measure 0 -10000;");
        fails(11, "measure 0 -00;");
        fails(11, "measure 0 -01;");
        fails(11, "measure 0 --1;");
        fails(12, "measure 0 - - 1;");
        fails(11, "measure 0 -;");
        fails(11, "measure 0 -");
        fails(13, "measure 0 -  ");
        fails(11, "measure 0 1-;");
        fails(11, "measure 0 1-1;");
        CHECK.sentence("\"measure\" WALL DEGREES as measure()");
        fails(8, "measure -0 1;");
        fails(8, "measure - 0 1;");
        CHECK.sentence("\"flat\" LATITUDE SIZE as ask() with no wall and the longitude correction 0");
        fails(5, "flat -50 20;");
        fails(8, "flat 50 -20;");
        CHECK.sentence("\"upright\" LATITUDE WALL SIZE as ask() for this wall and the longitude correction 0");
        fails(8, "upright -50 0 20;");
        fails(11, "upright 50 -0 20;");
        fails(13, "upright 50 0 -20;");
        CHECK.sentence("\"decide\" COMMISSION as decide()");
        fails(7, "decide -0;");
        CHECK.sentence("\"deliver\" COMMISSION as deliver()");
        fails(8, "deliver -0;");
    }

    private static void spaces() {
        CHECK.sentence("Spaces (code 32) may stand before, between and after tokens; they are needed only between two runs"
                + " of letters and between two runs of digits.");
        runs(1, "   decide 0;");
        runs(1, "decide    0;");
        runs(1, "decide 0   ;");
        runs(1, "decide 0;   ");
        runs(3, "wall ; wall ; decide 0 ;");
        runs(3, "wall;wall;decide0;");
        runs(1, "flat10 10;");
        runs(1, "upright50 0 20;");
        runs(1, "measure0-5;");
        fails(8, "measure 05;");
        fails(7, "measure05;");
        fails(8, "flat5020;");
        fails(9, "flat 5020;");
        fails(10, "upright50 020;");
        fails(0, "decidedecide 0;");
        for (char c : new char[] {1, 9, 10, 11, 13, 31, 33, 160, 255}) {
            fails(4, "wall" + c + ";");
            fails(5, "wall;" + c);
            fails(0, c + "wall;");
        }
    }

    /** A program of one command does the same as the call, on a busy workshop. */
    private static void alike(String text, Call call) {
        for (Scenes.Scene scene : new Scenes.Scene[] {Scenes::roomy, Scenes::undone}) {
            for (int way = 0; way < Look.WAYS; way++) {
                SundialWorks byText = Scenes.made(scene);
                SundialWorks byCall = Scenes.made(scene);
                byText.clearText();
                byCall.clearText();
                int want = Check.isError(call.on(byCall)) ? -1000 : 1;
                CHECK.due("'" + text + "'", want, Check.run(byText, text));
                byText.clearText();
                CHECK.holds("that '" + text + "' does as the call (way " + way + ")",
                        Look.at(byCall, way).equals(Look.at(byText, way)));
            }
        }
    }

    private static void asCalls() {
        CHECK.sentence("\"wall\" as addWall()");
        alike("wall;", works -> works.addWall());
        CHECK.sentence("\"measure\" WALL DEGREES as measure()");
        alike("measure 0 60;", works -> works.measure(0, 60));
        alike("measure 2 -60;", works -> works.measure(2, -60));
        alike("measure 3 0;", works -> works.measure(3, 0));
        CHECK.sentence("\"flat\" LATITUDE SIZE as ask() with no wall and the longitude correction 0");
        alike("flat 10 60;", works -> works.ask(10, -1, 60, 0));
        alike("flat 70 10;", works -> works.ask(70, -1, 10, 0));
        alike("flat 9 10;", works -> works.ask(9, -1, 10, 0));
        alike("flat 71 10;", works -> works.ask(71, -1, 10, 0));
        alike("flat 10 9;", works -> works.ask(10, -1, 9, 0));
        alike("flat 10 61;", works -> works.ask(10, -1, 61, 0));
        CHECK.sentence("\"upright\" LATITUDE WALL SIZE as ask() for this wall and the longitude correction 0");
        alike("upright 70 0 10;", works -> works.ask(70, 0, 10, 0));
        alike("upright 10 2 60;", works -> works.ask(10, 2, 60, 0));
        alike("upright 10 3 60;", works -> works.ask(10, 3, 60, 0));
        CHECK.sentence("\"decide\" COMMISSION as decide()");
        for (int commission = 0; commission <= 5; commission++) {
            int one = commission;
            alike("decide " + one + ";", works -> works.decide(one));
        }
        CHECK.sentence("\"cast\" as cast()");
        alike("cast;", works -> works.cast());
        CHECK.sentence("\"deliver\" COMMISSION as deliver()");
        for (int commission = 0; commission <= 5; commission++) {
            int one = commission;
            alike("deliver " + one + ";", works -> works.deliver(one));
        }
    }

    private static void oneByOne() {
        CHECK.sentence("The commands are read and run one by one, each as its \";\" is read.");
        fails(0, "cast;x");
        fails(0, "cast;cast;");
        fails(5, "cast x");
        fails(5, "cast cast;");
        fails(8, "decide 9");
        fails(9, "decide 9 ");
        fails(0, "decide 9;");
        fails(0, "decide 9;;");
        fails(5, "wall;decide 9;x");
        CHECK.sentence("at the first command whose call returns an error code (the place is then that of its word).");
        fails(0, "decide 1;");
        fails(2, "  decide   1  ;");
        fails(9, "decide 0;decide 0;");
        fails(0, "deliver 0;");
        fails(0, "upright 50 1 20;");
        fails(26, " wall;wall;wall;wall;wall;wall;");
        fails(131, "wall;" + " ".repeat(126) + "decide 9;");
        runs(2, "flat 50 60;decide 1;");
        SundialWorks works = withWork("flat 50 60;decide 1;");
        works.run();
        CHECK.due("a refusal returns no error code", 4, works.commission(1, 4));
    }

    private static void places() {
        CHECK.sentence("The place of a failure is the offset (from 0) of the first character of the token, or the length of"
                + " the text if it ends where something is missing.");
        String[] starts = {"measure", "measure ", "measure 0", "measure 0 ", "measure 0 -", "measure 0 - ", "measure 0 -5",
            "measure 0 -5 ", "flat", "flat 50", "flat 50 20", "upright", "upright 50", "upright 50 0", "upright 50 0 20",
            "decide", "decide 0", "deliver", "deliver 0", "wall", "cast", "cast  "};
        for (String start : starts) {
            fails(start.length(), start);
            fails(start.length(), start + "#");
            fails(start.length() + 5, "wall;" + start);
            fails(start.length() + 4, start + "    ");
            fails(140, " ".repeat(140 - start.length()) + start);
        }
        CHECK.sentence("A program fails at the first token that is not allowed where it stands, and at the first command whose"
                + " call returns an error code");
        fails(0, "x y z");
        fails(7, "decide x y");
        fails(9, "decide 0 0 0");
        fails(12, "measure 0 0;;;");
        fails(12, "measure 0 0 -;");
        for (String word : new String[] {"walls", "Wall", "0", "-", "#", "ask", "undo", "run", "castt", "delive"}) {
            fails(0, word);
            fails(0, word + ";");
            fails(3, "   " + word + " 0 0;");
            fails(5, "wall;" + word);
        }
        CHECK.sentence("Returns the number of commands; -1000 minus the place of the failure if it fails.");
        fails(0, "x");
        fails(1, " x");
        fails(139, " ".repeat(139) + "x");
        fails(140, " ".repeat(136) + "wall");
        runs(0, "");
        runs(1, "wall;");
        runs(5, "wall;wall;wall;wall;wall;");
    }

    private static void oneAction() {
        CHECK.sentence("If it does not fail, this is one action, also without commands, and the text becomes empty; if it"
                + " fails, the text is kept.");
        for (String text : new String[] {"", "  ", "wall;", "wall;wall;wall;"}) {
            SundialWorks works = withText(text);
            works.run();
            CHECK.due("one action", 1, works.count(11));
            CHECK.due("an empty text", 0, works.count(12));
            CHECK.due("and an empty program", 0, works.run());
            CHECK.due("which is one more", 2, works.count(11));
            works.undo();
            works.undo();
            CHECK.due("no walls", 0, works.count(0));
        }
        for (String text : new String[] {"x", "wall;wall", "wall;cast;", " ".repeat(139) + "x"}) {
            SundialWorks works = withText(text);
            int answer = works.run();
            CHECK.due("the text is kept", text.length(), works.count(12));
            CHECK.due("no action", 0, works.count(11));
            CHECK.due("and fails again", answer, works.run());
        }
        SundialWorks works = withText("wall;wall");
        works.run();
        works.append(';');
        CHECK.due("the kept text goes on", 2, works.run());
        CHECK.due("its first run did nothing", 2, works.count(0));
        works = new SundialWorks();
        for (int i = 1; i <= 7; i++) {
            works.run();
            CHECK.due("states after " + i + " empty programs", Math.min(i, 5), works.count(11));
        }
    }
}
