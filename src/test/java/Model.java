import java.util.ArrayDeque;
import java.util.ArrayList;
import java.util.Deque;
import java.util.List;
import java.util.regex.Matcher;
import java.util.regex.Pattern;

/** The whole document once more, in plain collections that are copied for every action. */
final class Model {
    private static final int INVALID = Check.INVALID;
    private static final int ILLEGAL = Check.ILLEGAL;
    private static final int FULL = Check.FULL;
    private static final int NONE = Check.NONE;
    private static final Pattern TOKEN = Pattern.compile("[a-z]+|[0-9]+|[^ ]", Pattern.DOTALL);

    private static final class Order {
        int latitude, wall, size, longitude, state, reason;
        Integer kept, casting;

        Order copy() {
            Order o = new Order();
            o.latitude = latitude;
            o.wall = wall;
            o.size = size;
            o.longitude = longitude;
            o.state = state;
            o.reason = reason;
            o.kept = kept;
            o.casting = casting;
            return o;
        }

        int weight() {
            return (int) Geometry.nearest((long) size * size, 100);
        }
    }

    private static final class World {
        List<List<Integer>> walls = new ArrayList<>();
        int[] corrections = new int[12];
        int[] settings = {2, 5, 10, 20};
        List<Order> orders = new ArrayList<>();
        int castings, kilograms;
        World[] slots = new World[2];

        /** Snapshots are never changed once they are taken, so they may be shared. */
        World copy() {
            World w = new World();
            for (List<Integer> wall : walls) {
                w.walls.add(new ArrayList<>(wall));
            }
            w.corrections = corrections.clone();
            w.settings = settings.clone();
            for (Order order : orders) {
                w.orders.add(order.copy());
            }
            w.castings = castings;
            w.kilograms = kilograms;
            w.slots = slots.clone();
            return w;
        }

        Integer declination(int wall) {
            List<Integer> m = walls.get(wall);
            int n = m.size();
            if (n < 2 || Math.abs(m.get(n - 1) - m.get(n - 2)) > settings[0]) {
                return null;
            }
            return (int) Geometry.nearest(m.get(n - 1) + m.get(n - 2), 2);
        }

        /** null if there is no dial, 100 for a horizontal one. */
        Integer dial(Order o) {
            if (o.wall == -1) {
                return 100;
            }
            return o.state == 0 || o.state == 4 ? declination(o.wall) : o.kept;
        }

        int reason(Order o) {
            Integer d = dial(o);
            if (d == null) {
                return 1;
            }
            Geometry g = Geometry.of(o.latitude, d);
            if (g.lines.size() < settings[1]) {
                return 2;
            }
            if (g.apart > settings[2]) {
                return 3;
            }
            return o.weight() > settings[3] ? 4 : 0;
        }

        /** Casts one melt; the number of commissions that are cast. */
        int melt() {
            int sum = 0;
            int number = 0;
            for (Order o : orders) {
                if (o.state == 1 && sum + o.weight() <= settings[3]) {
                    sum += o.weight();
                    o.state = 2;
                    o.casting = castings;
                    number++;
                }
            }
            if (number > 0) {
                castings++;
                kilograms += sum;
            }
            return number;
        }
    }

    private World now = new World();
    private final Deque<World> history = new ArrayDeque<>();
    private String text = "";

    private static boolean in(int value, int least, int greatest) {
        return least <= value && value <= greatest;
    }

    private static boolean error(int answer) {
        return answer == INVALID || answer == ILLEGAL || answer == FULL;
    }

    private boolean order(int c) {
        return in(c, 0, now.orders.size() - 1);
    }

    private void remember(World before) {
        history.addLast(before);
        if (history.size() > 5) {
            history.removeFirst();
        }
    }

    /** Calls an action by its name; a failed one is taken back whole. */
    int act(String name, int... n) {
        World before = now.copy();
        int answer = perform(name, n);
        if (error(answer)) {
            now = before;
        } else {
            remember(before);
        }
        return answer;
    }

    private int perform(String name, int... n) {
        switch (name) {
            case "setCorrection":
                return setCorrection(n[0], n[1]);
            case "set":
                return set(n[0], n[1]);
            case "addWall":
                return addWall();
            case "measure":
                return measure(n[0], n[1]);
            case "ask":
                return ask(n[0], n[1], n[2], n[3]);
            case "decide":
                return decide(n[0]);
            case "askAgain":
                return askAgain(n[0]);
            case "cast": {
                int cast = now.melt();
                return cast == 0 ? ILLEGAL : cast;
            }
            case "deliver":
                return deliver(n[0]);
            case "take":
                return take(n[0]);
            case "restore":
                return restore(n[0]);
            default:
                throw new IllegalArgumentException(name);
        }
    }

    private int setCorrection(int month, int minutes) {
        if (!in(month, 0, 11) || !in(minutes, -20, 20)) {
            return INVALID;
        }
        int previous = now.corrections[month];
        now.corrections[month] = minutes;
        return previous;
    }

    private int set(int what, int value) {
        int[][] ranges = {{0, 10}, {1, 13}, {0, 60}, {1, 100}};
        if (!in(what, 0, 3) || !in(value, ranges[what][0], ranges[what][1])) {
            return INVALID;
        }
        int previous = now.settings[what];
        now.settings[what] = value;
        return previous;
    }

    private int addWall() {
        if (now.walls.size() == 6) {
            return FULL;
        }
        now.walls.add(new ArrayList<>());
        return now.walls.size() - 1;
    }

    private int measure(int wall, int degrees) {
        if (!in(wall, 0, now.walls.size() - 1) || !in(degrees, -60, 60)) {
            return INVALID;
        }
        now.walls.get(wall).add(degrees);
        return now.declination(wall) == null ? 0 : 1;
    }

    private int ask(int latitude, int wall, int size, int longitude) {
        if (!in(latitude, 10, 70) || !in(wall, -1, now.walls.size() - 1) || !in(size, 10, 60)
                || !in(longitude, -60, 60)) {
            return INVALID;
        }
        if (now.orders.size() == 10) {
            return FULL;
        }
        Order o = new Order();
        o.latitude = latitude;
        o.wall = wall;
        o.size = size;
        o.longitude = longitude;
        now.orders.add(o);
        return now.orders.size() - 1;
    }

    private int decide(int c) {
        if (!order(c)) {
            return INVALID;
        }
        Order o = now.orders.get(c);
        if (o.state != 0) {
            return ILLEGAL;
        }
        int reason = now.reason(o);
        if (reason == 0) {
            o.kept = now.dial(o);
            o.state = 1;
        } else {
            o.state = 4;
            o.reason = reason;
        }
        return reason;
    }

    private int askAgain(int c) {
        if (!order(c)) {
            return INVALID;
        }
        Order o = now.orders.get(c);
        if (o.state != 4) {
            return ILLEGAL;
        }
        o.state = 0;
        return now.reason(o);
    }

    private int deliver(int c) {
        if (!order(c)) {
            return INVALID;
        }
        if (now.orders.get(c).state != 2) {
            return ILLEGAL;
        }
        now.orders.get(c).state = 3;
        return count(6);
    }

    private int take(int slot) {
        if (!in(slot, 0, 1)) {
            return INVALID;
        }
        now.slots[slot] = now.copy();
        return now.orders.size();
    }

    private int restore(int slot) {
        if (!in(slot, 0, 1)) {
            return INVALID;
        }
        if (now.slots[slot] == null) {
            return ILLEGAL;
        }
        World[] slots = now.slots;
        now = slots[slot].copy();
        now.slots = slots;
        return now.orders.size();
    }

    int undo() {
        if (history.isEmpty()) {
            return ILLEGAL;
        }
        now = history.removeLast();
        return history.size();
    }

    int append(int character) {
        if (!in(character, 1, 255)) {
            return INVALID;
        }
        if (text.length() == 140) {
            return FULL;
        }
        text += (char) character;
        return text.length();
    }

    int clearText() {
        int length = text.length();
        text = "";
        return length;
    }

    int run() {
        World before = now.copy();
        List<String> tokens = new ArrayList<>();
        List<Integer> places = new ArrayList<>();
        Matcher matcher = TOKEN.matcher(text);
        while (matcher.find()) {
            tokens.add(matcher.group());
            places.add(matcher.start());
        }
        tokens.add("");
        places.add(text.length());
        int commands = 0;
        int at = 0;
        while (!tokens.get(at).isEmpty()) {
            int word = at;
            String form = form(tokens.get(at));
            List<Integer> numbers = new ArrayList<>();
            boolean bad = form == null;
            if (!bad) {
                at++;
            }
            for (int i = 0; !bad && i < form.length(); i++) {
                boolean minus = form.charAt(i) == 'd' && tokens.get(at).equals("-");
                if (minus) {
                    at++;
                }
                bad = !tokens.get(at).matches("0|[1-9][0-9]{0,3}");
                if (!bad) {
                    numbers.add(Integer.parseInt((minus ? "-" : "") + tokens.get(at)));
                    at++;
                }
            }
            bad = bad || !tokens.get(at).equals(";");
            if (bad) {
                now = before;
                return -1000 - places.get(at);
            }
            at++;
            if (error(command(tokens.get(word), numbers))) {
                now = before;
                return -1000 - places.get(word);
            }
            commands++;
        }
        remember(before);
        text = "";
        return commands;
    }

    /** A letter for each number of a command, d for one that may be below 0; null for no word of the document. */
    private static String form(String word) {
        switch (word) {
            case "wall":
            case "cast":
                return "";
            case "measure":
                return "nd";
            case "flat":
                return "nn";
            case "upright":
                return "nnn";
            case "decide":
            case "deliver":
                return "n";
            default:
                return null;
        }
    }

    private int command(String word, List<Integer> n) {
        switch (word) {
            case "wall":
                return perform("addWall");
            case "measure":
                return perform("measure", n.get(0), n.get(1));
            case "flat":
                return perform("ask", n.get(0), -1, n.get(1), 0);
            case "upright":
                return perform("ask", n.get(0), n.get(1), n.get(2), 0);
            case "cast":
                return perform("cast");
            default:
                return perform(word, n.get(0));
        }
    }

    int count(int what) {
        if (!in(what, 0, 16)) {
            return INVALID;
        }
        if (what >= 13) {
            return now.settings[what - 13];
        }
        if (what >= 3 && what <= 7) {
            return (int) now.orders.stream().filter(o -> o.state == what - 3).count();
        }
        switch (what) {
            case 0:
                return now.walls.size();
            case 1: {
                int known = 0;
                for (int i = 0; i < now.walls.size(); i++) {
                    known += now.declination(i) == null ? 0 : 1;
                }
                return known;
            }
            case 2:
                return now.orders.size();
            case 8:
                return now.castings;
            case 9:
                return now.kilograms;
            case 10:
                return (now.slots[0] == null ? 0 : 1) + (now.slots[1] == null ? 0 : 1);
            case 11:
                return history.size();
            default:
                return text.length();
        }
    }

    private static int orNone(Integer value) {
        return value == null ? NONE : value;
    }

    int wall(int wall, int what) {
        if (!in(wall, 0, now.walls.size() - 1) || !in(what, 0, 3)) {
            return INVALID;
        }
        List<Integer> m = now.walls.get(wall);
        if (what == 3) {
            return (int) now.orders.stream().filter(o -> o.wall == wall).count();
        }
        if (what == 2) {
            return orNone(now.declination(wall));
        }
        return m.size() > what ? m.get(m.size() - 1 - what) : NONE;
    }

    int commission(int c, int what) {
        if (!order(c) || !in(what, 0, 8)) {
            return INVALID;
        }
        Order o = now.orders.get(c);
        Integer dial = now.dial(o);
        Integer[] all = {o.latitude, o.wall, o.size, o.longitude, o.state,
            dial != null && dial == 100 ? Integer.valueOf(0) : dial, o.weight(), o.casting, o.reason};
        return orNone(all[what]);
    }

    int correction(int month) {
        return in(month, 0, 11) ? now.corrections[month] : INVALID;
    }

    int sine(int angle) {
        return in(angle, -720, 720) ? (int) Geometry.sine(angle) : INVALID;
    }

    private Geometry geometry(int c) {
        Integer dial = now.dial(now.orders.get(c));
        return dial == null ? null : Geometry.of(now.orders.get(c).latitude, dial);
    }

    int offset(int c, int time) {
        if (!order(c) || !in(time, -360, 360)) {
            return INVALID;
        }
        Geometry g = geometry(c);
        return g == null ? ILLEGAL : orNone(g.offsets[time + 360]);
    }

    int lines(int c, int what) {
        if (!order(c) || !in(what, 0, 2)) {
            return INVALID;
        }
        Geometry g = geometry(c);
        if (g == null) {
            return ILLEGAL;
        }
        int n = g.lines.size();
        if (what == 0) {
            return n;
        }
        return n == 0 ? NONE : g.lines.get(what == 1 ? 0 : n - 1);
    }

    int read(int c, int offset, int by, int month) {
        if (!order(c) || !in(offset, -3000, 3000) || !in(by, 0, 1) || !in(month, -1, 11)) {
            return INVALID;
        }
        Geometry g = geometry(c);
        if (g == null) {
            return ILLEGAL;
        }
        Integer reading = by == 0 ? g.byLines(offset) : g.byShadow(offset);
        if (reading == null) {
            return NONE;
        }
        return month == -1 ? reading : reading + now.corrections[month] + now.orders.get(c).longitude;
    }

    int apart(int c, int what) {
        if (!order(c) || !in(what, 0, 1)) {
            return INVALID;
        }
        Geometry g = geometry(c);
        if (g == null) {
            return ILLEGAL;
        }
        return what == 0 ? g.apart : g.apartTime;
    }

    int reason(int c) {
        return order(c) ? now.reason(now.orders.get(c)) : INVALID;
    }

    int bestLatitude(int declination) {
        return in(declination, -60, 60) || declination == 100 ? Geometry.bestLatitude(declination) : INVALID;
    }

    int melts() {
        World w = now.copy();
        for (Order o : w.orders) {
            if (o.state == 1 && o.weight() > w.settings[3]) {
                return NONE;
            }
        }
        int melts = 0;
        while (w.melt() > 0) {
            melts++;
        }
        return melts;
    }
}
