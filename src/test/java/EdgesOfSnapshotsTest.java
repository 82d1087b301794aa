import java.util.List;

/** The boundaries that promises 11 to 13 name, and which calls are actions. */
public final class EdgesOfSnapshotsTest {
    private static final Check CHECK = new Check();

    private interface Call {
        int on(SundialWorks works);
    }

    public static void main(String[] args) {
        scenes();
        promise11();
        promise12();
        promise13();
        actions();
        noActions();
        CHECK.end();
    }

    /** What the other tests rest on. */
    private static void scenes() {
        int[][] counts = {{3, 2, 5, 1, 1, 1, 1, 1, 1, 6, 2, 5, 38}, {3, 2, 5, 1, 1, 1, 1, 1, 1, 6, 2, 4, 0},
            {6, 0, 10, 10, 0, 0, 0, 0, 0, 0, 1, 5, 140}, {3, 2, 5, 2, 0, 1, 1, 1, 1, 6, 1, 0, 5}};
        Scenes.Scene[] scenes = {Scenes::busy, Scenes::roomy, Scenes::full, Scenes::undone};
        for (int i = 0; i < scenes.length; i++) {
            for (int what = 0; what <= 12; what++) {
                CHECK.due("count " + what + " of scene " + i, counts[i][what], Scenes.made(scenes[i]).count(what));
            }
        }
    }

    private static SundialWorks withCommissions(int number) {
        SundialWorks works = new SundialWorks();
        for (int i = 0; i < number; i++) {
            works.ask(50, -1, 20, 0);
        }
        return works;
    }

    private static void promise11() {
        CHECK.sentence("Takes a snapshot, in place of one that is there. This is an action. - `slot`: 0 or 1");
        CHECK.range("slot", 0, 1, slot -> new SundialWorks().take(slot));
        CHECK.range("slot of a busy workshop", 0, 1, slot -> Scenes.made(Scenes::busy).take(slot));
        for (int slot = 0; slot <= 1; slot++) {
            SundialWorks works = withCommissions(1);
            works.take(slot);
            CHECK.due("one snapshot", 1, works.count(10));
            CHECK.due("the other slot stays empty", Check.ILLEGAL, works.restore(1 - slot));
            works.ask(50, -1, 20, 0);
            works.take(slot);
            CHECK.due("still one", 1, works.count(10));
            works.ask(50, -1, 20, 0);
            CHECK.due("the newer one", 2, works.restore(slot));
        }
        CHECK.sentence("Returns the number of commissions; INVALID_ARGUMENT if slot is out of range.");
        CHECK.due("of none", 0, new SundialWorks().take(0));
        CHECK.due("of one", 1, withCommissions(1).take(1));
        CHECK.due("of ten", 10, withCommissions(10).take(1));
    }

    private static void promise12() {
        CHECK.sentence("Restores a snapshot, which stays. This is an action. - `slot`: 0 or 1");
        CHECK.range("slot", 0, 1, slot -> Scenes.made(Scenes::busy).restore(slot));
        SundialWorks works = Scenes.made(Scenes::busy);
        CHECK.due("restored", 5, works.restore(1));
        works.addWall();
        CHECK.due("restored again", 5, works.restore(1));
        CHECK.due("without the wall", 3, works.count(0));
        CHECK.due("both are there", 2, works.count(10));
        CHECK.sentence("Returns the number of commissions then; INVALID_ARGUMENT if slot is out of range;"
                + " ILLEGAL_STATE if the slot is empty.");
        works = new SundialWorks();
        works.take(0);
        CHECK.due("slot 1 is empty", Check.ILLEGAL, works.restore(1));
        CHECK.due("slot 0 is not", 0, works.restore(0));
        CHECK.due("slot 2", Check.INVALID, works.restore(2));
        works = new SundialWorks();
        works.take(1);
        CHECK.due("slot 0 is empty", Check.ILLEGAL, works.restore(0));
        CHECK.due("slot 1 is not", 0, works.restore(1));
        works = withCommissions(10);
        works.take(0);
        works.undo();
        works.undo();
        CHECK.due("undo empties the slot", Check.ILLEGAL, works.restore(0));
        for (int number = 0; number <= 10; number += 5) {
            works = withCommissions(number);
            works.take(1);
            works.ask(50, -1, 20, 0);
            CHECK.due("commissions then", number, works.restore(1));
        }
        asItWas();
    }

    /** Each part of a workshop is changed behind a snapshot, and is as before when that is restored. */
    private static void asItWas() {
        CHECK.sentence("A snapshot keeps walls, corrections, settings, commissions and castings. To restore it makes all"
                + " this as it was; nothing else changes.");
        Call[] changes = {works -> works.addWall(), works -> works.measure(0, -60), works -> works.setCorrection(0, 20),
            works -> works.setCorrection(11, 0), works -> works.set(0, 10), works -> works.set(1, 13),
            works -> works.set(2, 0), works -> works.set(3, 100), works -> works.ask(70, 2, 60, 60),
            works -> works.decide(0), works -> works.askAgain(4), works -> works.cast(), works -> works.deliver(2),
            EdgesOfSnapshotsTest::replaceAll};
        for (int i = 0; i < changes.length; i++) {
            Call change = changes[i];
            CHECK.holds("that change " + i + " is no error", !Check.isError(change.on(Scenes.made(Scenes::roomy))));
            // Ways that undo nothing, for the states in the history differ.
            for (int way = 0; way < Look.AND_THEN; way++) {
                CHECK.holds("that all is as it was after change " + i + " (way " + way + ")",
                        Look.at(restored(works -> 0), way).equals(Look.at(restored(change), way)));
            }
        }
        SundialWorks works = Scenes.made(Scenes::busy);
        works.restore(0);
        CHECK.due("the text stays", 38, works.count(12));
        CHECK.due("the snapshots stay", 2, works.count(10));
        CHECK.due("and runs", 4, works.run());
    }

    /** Other commissions in the place of all five, of which the second is accepted for another declination. */
    private static int replaceAll(SundialWorks works) {
        works.restore(0);
        for (int i = 0; i < 5; i++) {
            works.ask(40 + i, 2 - i % 3, 30 + i, -10 - i);
        }
        works.measure(1, -40);
        works.measure(1, -40);
        works.set(3, 100);
        works.decide(1);
        return works.cast();
    }

    private static SundialWorks restored(Call change) {
        SundialWorks works = Scenes.made(Scenes::roomy);
        Check.type(works, "wall;measure 3 1");
        works.take(1);
        change.on(works);
        works.restore(1);
        return works;
    }

    private static void promise13() {
        CHECK.sentence("A history of at most 5 states is kept;");
        for (int done = 0; done <= 20; done++) {
            SundialWorks works = counting(done);
            CHECK.due("states after " + done, Math.min(done, 5), works.count(11));
            int undone = 0;
            while (undone < 10 && works.undo() != Check.ILLEGAL) {
                undone++;
                CHECK.due("minutes " + undone + " before " + done, done - undone, works.correction(0) + 20);
                CHECK.due("states left", Math.min(done, 5) - undone, works.count(11));
            }
            CHECK.due("undone of " + done, Math.min(done, 5), undone);
        }
        CHECK.sentence("when a sixth one is recorded, the oldest one is dropped.");
        SundialWorks works = counting(6);
        for (int i = 0; i < 5; i++) {
            works.undo();
        }
        CHECK.due("a sixth undo", Check.ILLEGAL, works.undo());
        CHECK.due("the first action stays", 1, works.correction(0) + 20);
        works = counting(5);
        for (int i = 0; i < 5; i++) {
            works.undo();
        }
        CHECK.due("of five, none stays", 0, works.correction(0) + 20);
        CHECK.sentence("Returns the number of states that are left in the history; ILLEGAL_STATE if it is empty.");
        works = counting(7);
        for (int left = 4; left >= 0; left--) {
            CHECK.due("left", left, works.undo());
        }
        CHECK.due("empty", Check.ILLEGAL, works.undo());
        CHECK.due("still empty", Check.ILLEGAL, works.undo());
        CHECK.due("new", Check.ILLEGAL, new SundialWorks().undo());
        backAndForth();
        replacedAndUndone();
        CHECK.sentence("a state is everything but the text and the history (the snapshots belong to it).");
        works = Scenes.made(Scenes::busy);
        works.clearText();
        works.append('x');
        works.undo();
        CHECK.due("the text stays", 1, works.count(12));
        CHECK.due("the snapshot before it is back", 0, works.restore(0));
    }

    /** A workshop after so many actions; each makes the correction of month 0 a minute greater, from -20. */
    private static SundialWorks counting(int actions) {
        SundialWorks works = new SundialWorks();
        works.setCorrection(0, -20);
        for (int i = 0; i < 6; i++) {
            works.setCorrection(0, -20);
        }
        for (int i = 0; i < 5; i++) {
            works.undo();
        }
        for (int i = 1; i <= actions; i++) {
            works.setCorrection(0, i - 20);
        }
        return works;
    }

    private static void backAndForth() {
        CHECK.sentence("undo() removes the latest state from the history and restores it.");
        for (int done = 1; done <= 13; done++) {
            for (int undone = 1; undone <= 5 && undone <= done; undone++) {
                SundialWorks works = counting(done);
                for (int i = 0; i < undone; i++) {
                    works.undo();
                }
                works.setCorrection(0, 20);
                int states = Math.min(done, 5) - undone + 1;
                CHECK.due("states after " + done + " and back " + undone, states, works.count(11));
                for (int i = 0; i < states; i++) {
                    works.undo();
                    CHECK.due("minutes then", done - undone - i, works.correction(0) + 20);
                }
                CHECK.due("no more", Check.ILLEGAL, works.undo());
            }
        }
    }

    private static void replacedAndUndone() {
        CHECK.sentence("undo() removes the latest state from the history and restores it.");
        Scenes.Scene one = works -> {
            works.addWall();
            works.measure(0, -60);
            works.ask(70, 0, 60, -60);
            works.decide(0);
            works.take(0);
        };
        Scenes.Scene another = works -> {
            one.build(works);
            works.undo();
            works.undo();
            works.undo();
            works.undo();
            works.measure(0, 60);
            works.ask(10, -1, 10, 60);
            works.decide(0);
            works.take(0);
        };
        int[] due = {10, -1, 10, 60, 1, 0, 1, Check.NONE, 0};
        for (int what = 0; what < due.length; what++) {
            CHECK.due("property " + what, due[what], Scenes.made(another).commission(0, what));
        }
        CHECK.due("measured", 60, Scenes.made(another).wall(0, 0));
        CHECK.due("never measured before", Check.NONE, Scenes.made(another).wall(0, 1));
        CHECK.due("states", 5, Scenes.made(another).count(11));
    }

    /** An action that succeeds leaves one state more, and undo makes all as it was. */
    private static void action(String call, Call made) {
        SundialWorks works = Scenes.made(Scenes::roomy);
        int answer = made.on(works);
        CHECK.holds(call + " succeeds (" + answer + ")", !Check.isError(answer) && answer > -1000);
        CHECK.due("states after " + call, 5, works.count(11));
        for (int way = 0; way < Look.WAYS; way++) {
            works = Scenes.made(Scenes::roomy);
            made.on(works);
            CHECK.due("undo of " + call, 4, works.undo());
            CHECK.holds("that undo of " + call + " makes all as it was (way " + way + ")",
                    Look.at(Scenes.made(Scenes::roomy), way).equals(Look.at(works, way)));
        }
    }

    private static void actions() {
        CHECK.sentence("Every successful call of a method that is called an action records the state before it (also if"
                + " nothing changes by it);");
        action("setCorrection", works -> works.setCorrection(0, 1));
        action("setCorrection to the same", works -> works.setCorrection(0, -20));
        action("set", works -> works.set(3, 6));
        action("set to the same", works -> works.set(3, 5));
        action("addWall", works -> works.addWall());
        action("measure", works -> works.measure(1, 60));
        action("measure the same", works -> works.measure(1, -20));
        action("ask", works -> works.ask(70, 2, 60, -60));
        action("decide", works -> works.decide(0));
        action("askAgain", works -> works.askAgain(4));
        action("cast", works -> works.cast());
        action("deliver", works -> works.deliver(2));
        action("take", works -> works.take(0));
        action("take in place of one", works -> works.take(1));
        action("restore", works -> works.restore(1));
        action("run without commands", works -> works.run());
        action("run", works -> Check.run(works, "wall;measure 0 9;flat 50 20;decide 5;cast;deliver 2;upright 50 0 60;"));
        Scenes.Scene refusing = works -> {
            Scenes.roomy(works);
            works.undo();
            works.set(1, 13);
        };
        SundialWorks works = Scenes.made(refusing);
        CHECK.due("decide refuses", 2, works.decide(0));
        CHECK.due("that is an action", 5, works.count(11));
        works.undo();
        CHECK.holds("that undo of a refusal makes all as it was",
                Look.at(Scenes.made(refusing), 0).equals(Look.at(works, 0)));
    }

    private static void noActions() {
        CHECK.sentence("Appends a character to the text. - `character`: character code, 1 to 255");
        noAction("append", works -> works.append('x'));
        CHECK.sentence("Makes the text empty. Returns the previous length of the text.");
        noAction("clearText", works -> works.clearText());
        CHECK.sentence("If it does not fail, this is one action, also without commands,");
        noAction("run that fails", works -> Check.run(works, "wall;wool;"));
        CHECK.sentence("Removes the latest state from the history and restores it.");
        SundialWorks works = Scenes.made(Scenes::busy);
        works.undo();
        CHECK.due("undo is no action", 4, works.count(11));
    }

    private static void noAction(String call, Call made) {
        SundialWorks works = Scenes.made(Scenes::roomy);
        made.on(works);
        CHECK.due("states after " + call, 4, works.count(11));
        CHECK.due("undo after " + call, 3, works.undo());
        works = Scenes.made(Scenes::undone);
        made.on(works);
        CHECK.due("nothing to undo after " + call, Check.ILLEGAL, works.undo());
    }
}
