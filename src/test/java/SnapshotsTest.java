/** Promises 11 to 13. */
public final class SnapshotsTest {
    private static final Check CHECK = new Check();

    public static void main(String[] args) {
        promise11();
        promise12();
        promise13();
        CHECK.end();
    }

    private static void promise11() {
        SundialWorks works = new SundialWorks();
        for (int wrong : new int[] {-1, 2, Integer.MIN_VALUE, Integer.MAX_VALUE}) {
            CHECK.due("take " + wrong, Check.INVALID, works.take(wrong));
        }
        CHECK.due("of an empty workshop", 0, works.take(0));
        CHECK.due("one snapshot", 1, works.count(10));
        works.ask(50, -1, 20, 0);
        CHECK.due("in place of it", 1, works.take(0));
        CHECK.due("still one", 1, works.count(10));
        works.ask(50, -1, 20, 0);
        CHECK.due("the other slot", 2, works.take(1));
        CHECK.due("two", 2, works.count(10));
        CHECK.due("the first slot has the newer one", 1, works.restore(0));
        CHECK.due("the second is another", 2, works.restore(1));
        works.undo();
        works.undo();
        CHECK.due("undo of take", 2, works.undo());
        CHECK.due("the slot is empty again", Check.ILLEGAL, works.restore(1));
        CHECK.due("the first one stays", 1, works.count(10));
        works.undo();
        works.undo();
        CHECK.due("undo gives the older snapshot back", 0, works.restore(0));
    }

    private static void promise12() {
        SundialWorks works = Check.withAccepted(20, 30);
        Check.knownWall(works, 10);
        works.setCorrection(3, 7);
        works.set(0, 4);
        works.cast();
        works.deliver(0);
        works.take(1);
        changeAll(works);
        for (int wrong : new int[] {-1, 2, Integer.MIN_VALUE, Integer.MAX_VALUE}) {
            CHECK.due("restore " + wrong, Check.INVALID, works.restore(wrong));
        }
        CHECK.due("an empty slot", Check.ILLEGAL, works.restore(0));
        Check.type(works, "cast;");
        CHECK.due("restore", 2, works.restore(1));
        CHECK.due("walls", 1, works.count(0));
        CHECK.due("measurements", 10, works.wall(0, 0));
        CHECK.due("settings", 4, works.count(13));
        CHECK.due("corrections", 7, works.correction(3));
        CHECK.due("states", 3, works.commission(0, 4));
        CHECK.due("states", 2, works.commission(1, 4));
        CHECK.due("castings", 1, works.count(8));
        CHECK.due("kilograms", 13, works.count(9));
        CHECK.due("the text is left alone", 5, works.count(12));
        CHECK.due("the snapshot stays", 1, works.count(10));
        CHECK.due("it is an action", 5, works.count(11));
        changeAll(works);
        CHECK.due("later changes do not touch the snapshot", 2, works.restore(1));
        CHECK.due("its walls", 1, works.count(0));
        CHECK.due("its measurements", 10, works.wall(0, 0));
        CHECK.due("undo of restore", 4, works.undo());
        CHECK.due("gives the state before it back", 3, works.count(2));
        CHECK.due("and its castings", 2, works.count(8));
        otherSlotStays();
        anotherOfTheSameNumber();
        keptDeclination();
    }

    private static void anotherOfTheSameNumber() {
        SundialWorks works = new SundialWorks();
        works.addWall();
        works.take(1);
        works.ask(41, 0, 21, -7);
        works.decide(0);
        works.take(0);
        works.restore(1);
        CHECK.due("its number is free", 0, works.ask(50, -1, 30, 8));
        CHECK.due("the first one comes back", 1, works.restore(0));
        int[] first = {41, 0, 21, -7, 4, Check.NONE, 4, Check.NONE, 1};
        for (int what = 0; what < first.length; what++) {
            CHECK.due("property " + what, first[what], works.commission(0, what));
        }
        works.undo();
        int[] second = {50, -1, 30, 8, 0, 0, 9, Check.NONE, 0};
        for (int what = 0; what < second.length; what++) {
            CHECK.due("undone, property " + what, second[what], works.commission(0, what));
        }
    }

    private static void keptDeclination() {
        SundialWorks works = new SundialWorks();
        works.set(2, 60);
        Check.knownWall(works, 25);
        works.ask(45, 0, 20, 0);
        works.take(0);
        works.decide(0);
        works.take(1);
        works.restore(0);
        works.measure(0, -40);
        works.measure(0, -40);
        works.decide(0);
        CHECK.due("accepted for the newer declination", -40, works.commission(0, 5));
        works.restore(1);
        CHECK.due("the snapshot has the older one", 25, works.commission(0, 5));
        works.measure(0, 0);
        CHECK.due("and it is kept", 25, works.commission(0, 5));
    }

    private static void changeAll(SundialWorks works) {
        works.measure(0, 50);
        works.addWall();
        works.setCorrection(3, -1);
        works.set(0, 0);
        works.decide(works.ask(50, -1, 40, 0));
        works.cast();
        works.deliver(1);
    }

    private static void otherSlotStays() {
        SundialWorks works = new SundialWorks();
        works.take(0);
        works.ask(50, -1, 20, 0);
        works.take(1);
        CHECK.due("restore of the older one", 0, works.restore(0));
        CHECK.due("the newer one is still there", 2, works.count(10));
        CHECK.due("and can be restored", 1, works.restore(1));
    }

    private static void promise13() {
        SundialWorks works = new SundialWorks();
        CHECK.due("nothing to undo", Check.ILLEGAL, works.undo());
        for (int value = 0; value < 7; value++) {
            works.set(0, value);
            CHECK.due("states that are kept", Math.min(value + 1, 5), works.count(11));
        }
        for (int left = 4; left >= 0; left--) {
            CHECK.due("left", left, works.undo());
            CHECK.due("the tolerance before", left + 1, works.count(13));
        }
        CHECK.due("the sixth one was dropped", Check.ILLEGAL, works.undo());
        CHECK.due("and nothing changes", 1, works.count(13));
        works.append(65);
        works.clearText();
        works.append(66);
        CHECK.due("texts are no actions", 0, works.count(11));
        works.set(0, 9);
        works.append(67);
        works.undo();
        CHECK.due("undo leaves the text alone", 2, works.count(12));
        works.count(0);
        works.sine(4);
        works.melts();
        CHECK.due("looking is no action", 0, works.count(11));
        undoIsNoAction();
    }

    private static void undoIsNoAction() {
        SundialWorks works = new SundialWorks();
        works.set(0, 3);
        works.set(0, 4);
        works.undo();
        works.set(0, 5);
        CHECK.due("two states", 2, works.count(11));
        works.undo();
        CHECK.due("the state after the undo", 3, works.count(13));
        works.undo();
        CHECK.due("the first", 2, works.count(13));
        works.set(9, 9);
        works.measure(0, 0);
        works.cast();
        works.deliver(0);
        CHECK.due("errors are not recorded", Check.ILLEGAL, works.undo());
    }
}
