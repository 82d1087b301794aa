import java.util.ArrayList;
import java.util.List;

/** All that can be seen of a workshop, as numbers: two that are alike in every way are in the same state. */
final class Look {
    private static final int UNDOS = 5;

    /** The first ways undo nothing. */
    static final int AND_THEN = 5;

    /** Each way to look changes the object and needs one of its own; a look takes at most 170 calls. */
    static final int WAYS = (UNDOS + 1) * AND_THEN;

    private Look() {
    }

    /** Undoes 0 to 5 times; then restores a snapshot, runs the text, or runs it with one more sign; then looks at all. */
    static List<Integer> at(SundialWorks works, int way) {
        List<Integer> seen = new ArrayList<>();
        for (int i = 0; i < way / AND_THEN; i++) {
            seen.add(works.undo());
        }
        switch (way % AND_THEN) {
            case 1:
                seen.add(works.restore(0));
                break;
            case 2:
                seen.add(works.restore(1));
                break;
            case 3:
                seen.add(works.run());
                break;
            case 4:
                seen.add(works.append(';'));
                seen.add(works.run());
                break;
            default:
                break;
        }
        addAll(works, seen);
        return seen;
    }

    private static void addAll(SundialWorks works, List<Integer> seen) {
        for (int what = 0; what <= 16; what++) {
            seen.add(works.count(what));
        }
        for (int wall = 0; wall < 6; wall++) {
            for (int what = 0; what <= 3; what++) {
                seen.add(works.wall(wall, what));
            }
        }
        for (int commission = 0; commission < 10; commission++) {
            for (int what = 0; what <= 8; what++) {
                seen.add(works.commission(commission, what));
            }
        }
        for (int month = 0; month < 12; month++) {
            seen.add(works.correction(month));
        }
        // What a wall or a commission had before its number was free must not show when it is used again.
        seen.add(works.addWall());
        seen.add(works.ask(50, works.count(0) - 1, 20, 0));
        int last = works.count(2) - 1;
        for (int what = 0; what <= 8; what++) {
            seen.add(works.commission(last, what));
        }
    }
}
