import java.util.ArrayList;
import java.util.List;

/**
 * "A call that returns an error code changes nothing": each method is refused for each of its reasons, and the workshop
 * is held against another one that was built in the same way without that call. So are programs that fail, and calls
 * that look.
 */
public final class RefusedCallsTest {
    private static final Check CHECK = new Check();

    private interface Call {
        int on(SundialWorks works);
    }

    private static String name;
    private static Scenes.Scene scene;
    private static List<List<Integer>> untouched;

    public static void main(String[] args) {
        CHECK.sentence("A call that returns an error code changes nothing.");
        in("a new object", Scenes::fresh);
        refusedInNew();
        in("a busy workshop", Scenes::busy);
        refusedInBusy();
        illegal("cast of one that is too heavy", SundialWorks::cast);
        in("a workshop with room", Scenes::roomy);
        refusedInBusy();
        in("a full workshop", Scenes::full);
        refusedInFull();
        in("a workshop with nothing to undo", Scenes::undone);
        refusedInUndone();
        CHECK.sentence("If a program fails, nothing that it has done stays.");
        failingPrograms();
        CHECK.sentence("NONE is no error, and it is returned only if no error condition applies.");
        in("a busy workshop", Scenes::busy);
        looksChangeNothing();
        CHECK.end();
    }

    private static void in(String nameOfScene, Scenes.Scene built) {
        name = nameOfScene;
        scene = built;
        untouched = new ArrayList<>();
        for (int way = 0; way < Look.WAYS; way++) {
            untouched.add(Look.at(Scenes.made(scene), way));
        }
    }

    private static void due(String call, int want, Call made) {
        for (int way = 0; way < Look.WAYS; way++) {
            SundialWorks works = Scenes.made(scene);
            CHECK.due(call + " in " + name, want, made.on(works));
            CHECK.holds("that " + name + " is unchanged by " + call + " (way " + way + ")",
                    untouched.get(way).equals(Look.at(works, way)));
        }
    }

    private static void invalid(String call, Call made) {
        due(call, Check.INVALID, made);
    }

    private static void illegal(String call, Call made) {
        due(call, Check.ILLEGAL, made);
    }

    private static void refusedInNew() {
        invalid("measure", works -> works.measure(0, 0));
        invalid("ask for a wall", works -> works.ask(50, 0, 20, 0));
        invalid("decide", works -> works.decide(0));
        invalid("askAgain", works -> works.askAgain(0));
        illegal("cast", SundialWorks::cast);
        invalid("deliver", works -> works.deliver(0));
        illegal("restore 0", works -> works.restore(0));
        illegal("restore 1", works -> works.restore(1));
        illegal("undo", SundialWorks::undo);
    }

    private static void refusedInBusy() {
        refusedSettings();
        refusedWalls();
        refusedCommissions();
        refusedSnapshots();
        refusedText();
        refusedLooks();
    }

    private static void refusedSettings() {
        int[][] corrections = {{-1, 0}, {12, 0}, {0, -21}, {0, 21}, {12, 21}};
        for (int[] n : corrections) {
            invalid("setCorrection " + n[0] + " " + n[1], works -> works.setCorrection(n[0], n[1]));
        }
        int[][] settings = {{-1, 5}, {4, 5}, {0, -1}, {0, 11}, {1, 0}, {1, 14}, {2, -1}, {2, 61}, {3, 0}, {3, 101}};
        for (int[] n : settings) {
            invalid("set " + n[0] + " " + n[1], works -> works.set(n[0], n[1]));
        }
    }

    private static void refusedWalls() {
        int[][] measurements = {{-1, 0}, {3, 0}, {6, 0}, {0, -61}, {0, 61}, {1, -61}, {2, 61}};
        for (int[] n : measurements) {
            invalid("measure " + n[0] + " " + n[1], works -> works.measure(n[0], n[1]));
        }
    }

    private static void refusedCommissions() {
        int[][] asked = {{9, 0, 20, 0}, {71, 0, 20, 0}, {50, -2, 20, 0}, {50, 3, 20, 0}, {50, 0, 9, 0}, {50, 0, 61, 0},
            {50, 0, 20, -61}, {50, 0, 20, 61}};
        for (int[] n : asked) {
            invalid("ask", works -> works.ask(n[0], n[1], n[2], n[3]));
        }
        for (int wrong : new int[] {-1, 5, 10}) {
            invalid("decide " + wrong, works -> works.decide(wrong));
            invalid("askAgain " + wrong, works -> works.askAgain(wrong));
            invalid("deliver " + wrong, works -> works.deliver(wrong));
        }
        for (int state = 0; state <= 4; state++) {
            int commission = state;
            if (state != 0) {
                illegal("decide in state " + state, works -> works.decide(commission));
            }
            if (state != 4) {
                illegal("askAgain in state " + state, works -> works.askAgain(commission));
            }
            if (state != 2) {
                illegal("deliver in state " + state, works -> works.deliver(commission));
            }
        }
    }

    private static void refusedSnapshots() {
        for (int wrong : new int[] {-1, 2}) {
            invalid("take " + wrong, works -> works.take(wrong));
            invalid("restore " + wrong, works -> works.restore(wrong));
        }
    }

    private static void refusedText() {
        for (int wrong : new int[] {-1, 0, 256, 256 + ';'}) {
            invalid("append " + wrong, works -> works.append(wrong));
        }
    }

    private static void refusedLooks() {
        invalid("count -1", works -> works.count(-1));
        invalid("count 17", works -> works.count(17));
        for (int[] n : new int[][] {{-1, 0}, {3, 0}, {0, -1}, {0, 4}}) {
            invalid("wall " + n[0] + " " + n[1], works -> works.wall(n[0], n[1]));
        }
        for (int[] n : new int[][] {{-1, 0}, {5, 0}, {0, -1}, {0, 9}}) {
            invalid("commission " + n[0] + " " + n[1], works -> works.commission(n[0], n[1]));
        }
        for (int[] n : new int[][] {{-1, 0}, {5, 0}, {0, -361}, {0, 361}}) {
            invalid("offset " + n[0] + " " + n[1], works -> works.offset(n[0], n[1]));
        }
        for (int[] n : new int[][] {{-1, 0}, {5, 0}, {0, -1}, {0, 3}}) {
            invalid("lines " + n[0] + " " + n[1], works -> works.lines(n[0], n[1]));
            invalid("apart " + n[0] + " " + n[1], works -> works.apart(n[0], n[1]));
        }
        for (int[] n : new int[][] {{5, 0, 0, 0}, {0, 3001, 0, 0}, {0, 0, 2, 0}, {0, 0, 0, 12}}) {
            invalid("read", works -> works.read(n[0], n[1], n[2], n[3]));
        }
        invalid("correction 12", works -> works.correction(12));
        invalid("sine 721", works -> works.sine(721));
        invalid("reason 5", works -> works.reason(5));
        invalid("bestLatitude 61", works -> works.bestLatitude(61));
        illegal("offset without a dial", works -> works.offset(4, 0));
        illegal("lines without a dial", works -> works.lines(4, 0));
        illegal("read without a dial", works -> works.read(4, 0, 0, -1));
        illegal("apart without a dial", works -> works.apart(4, 0));
    }

    private static void refusedInFull() {
        due("addWall", Check.FULL, SundialWorks::addWall);
        due("ask", Check.FULL, works -> works.ask(50, -1, 20, 0));
        due("append", Check.FULL, works -> works.append(';'));
        invalid("ask for what is wrong", works -> works.ask(50, 6, 20, 0));
        invalid("append of what is wrong", works -> works.append(256));
        illegal("cast of asked ones", SundialWorks::cast);
        illegal("restore of the empty slot", works -> works.restore(1));
    }

    private static void refusedInUndone() {
        illegal("undo", SundialWorks::undo);
        illegal("restore of the empty slot", works -> works.restore(1));
        invalid("the wall that was undone", works -> works.measure(3, 0));
        illegal("askAgain", works -> works.askAgain(0));
    }

    /** A program that fails at a place behind all that it has done. */
    private static void fails(Scenes.Scene built, int place, String text) {
        in("the workshop for " + text, works -> {
            built.build(works);
            works.clearText();
            Check.type(works, text);
        });
        due("run", -1000 - place, SundialWorks::run);
    }

    private static void failingPrograms() {
        fails(Scenes::fresh, 0, "x");
        fails(Scenes::fresh, 9, "wall;wall");
        fails(Scenes::fresh, 10, "wall;wall;decide 0;");
        fails(Scenes::busy, 5, "wall;wool;");
        fails(Scenes::busy, 13, "measure 0 50;;");
        fails(Scenes::busy, 14, "measure 0 -50;measure 0 -61;");
        fails(Scenes::busy, 11, "flat 60 20;flat 71 20;");
        fails(Scenes::busy, 16, "upright 60 0 20;upright 60 3 20;");
        fails(Scenes::busy, 9, "decide 0;decide 0;");
        fails(Scenes::busy, 20, "flat 60 60;decide 5;cast;");
        fails(Scenes::busy, 25, "flat 60 10;decide 5;cast;cast;");
        fails(Scenes::busy, 10, "deliver 2;deliver 2;");
        fails(Scenes::roomy, 5, "cast;cast;");
        fails(Scenes::roomy, 15, "cast;deliver 1;deliver 0;");
        fails(Scenes::roomy, 21, "wall;flat 50 10;wall ");
        fails(Scenes::full, 0, "wall;");
        fails(Scenes::full, 12, "measure 0 5;flat 50 20;");
        fails(Scenes::full, 24, "decide 0;decide 5;cast ;cast;");
        fails(Scenes::undone, 12, "measure 2 9;undo;");
    }

    private static void unchangedBy(String call, Call made) {
        due(call, made.on(Scenes.made(scene)), made);
    }

    private static void looksChangeNothing() {
        due("commission 4 5", Check.NONE, works -> works.commission(4, 5));
        due("wall 2 2", Check.NONE, works -> works.wall(2, 2));
        due("offset at six", Check.NONE, works -> works.offset(2, 360));
        due("read beyond the lines", Check.NONE, works -> works.read(2, 3000, 0, 0));
        due("melts", Check.NONE, SundialWorks::melts);
        unchangedBy("sine", works -> works.sine(100));
        unchangedBy("offset", works -> works.offset(3, -60));
        unchangedBy("lines", works -> works.lines(0, 2));
        unchangedBy("read", works -> works.read(1, 77, 1, 11));
        unchangedBy("apart", works -> works.apart(2, 1));
        for (int commission = 0; commission < 5; commission++) {
            int looked = commission;
            unchangedBy("reason " + commission, works -> works.reason(looked));
        }
        unchangedBy("bestLatitude", works -> works.bestLatitude(-60));
        in("a workshop with room", Scenes::roomy);
        unchangedBy("melts", SundialWorks::melts);
    }
}
