import java.util.Arrays;
import java.util.Random;

/** Long runs of calls with fixed seeds, each answer held against the model's. */
public final class RandomRunsTest {
    private static final int RUNS = 2500;
    /** A call begins a program at most, and the last looks come: together they stay below the 512 that are promised. */
    private static final int CALLS = 400;
    private static final int[] ODD = {Integer.MIN_VALUE, Integer.MAX_VALUE, -100009, -1000, -721, -3001, -361, -61, -21,
        -2, -1, 0, 1, 2, 12, 17, 61, 71, 101, 256, 361, 721, 1000, 3001};

    private final Check check = new Check();
    private Random random;
    private SundialWorks works;
    private Model model;
    private String log;
    private int calls;

    public static void main(String[] args) {
        RandomRunsTest test = new RandomRunsTest();
        for (int seed = 0; seed < RUNS; seed++) {
            test.play(seed);
        }
        test.check.end();
    }

    private void play(int seed) {
        random = new Random(seed);
        works = new SundialWorks();
        model = new Model();
        log = "seed " + seed;
        calls = 0;
        // Some runs begin with a workshop that is already well filled.
        int filled = seed % 3 == 0 ? 0 : 25;
        while (calls < CALLS) {
            if (calls < filled) {
                fill(calls);
            } else {
                call();
            }
        }
        lookAtAll();
    }

    /** From the least to the greatest, now and then something odd. */
    private int some(int least, int greatest) {
        switch (random.nextInt(40)) {
            case 0:
                return ODD[random.nextInt(ODD.length)];
            case 1:
                return least - 1;
            case 2:
                return greatest + 1;
            case 3:
                return least;
            case 4:
                return greatest;
            default:
                return least + random.nextInt(greatest - least + 1);
        }
    }

    private void due(String call, int want, int got) {
        calls++;
        check.due(log + ": " + call, want, got);
    }

    private void act(String name, int want, int got, int... n) {
        due(name + Arrays.toString(n), want, got);
    }

    private void fill(int i) {
        if (i < 4) {
            act("addWall", model.act("addWall"), works.addWall());
        } else if (i < 14) {
            int wall = i % 4;
            int degrees = 10 * wall - 15 + random.nextInt(3);
            act("measure", model.act("measure", wall, degrees), works.measure(wall, degrees), wall, degrees);
        } else if (i == 14) {
            act("set", model.act("set", 2, 60), works.set(2, 60), 2, 60);
        } else {
            ask();
        }
    }

    private void ask() {
        int latitude = some(10, 70);
        int wall = random.nextInt(3) == 0 ? -1 : some(-1, 5);
        int size = random.nextInt(3) == 0 ? some(10, 60) : some(10, 40);
        int longitude = some(-60, 60);
        act("ask", model.act("ask", latitude, wall, size, longitude), works.ask(latitude, wall, size, longitude),
                latitude, wall, size, longitude);
    }

    private int commission() {
        return some(0, Math.max(model.count(2) - 1, 0));
    }

    private int wall() {
        return some(0, Math.max(model.count(0) - 1, 0));
    }

    /** Degrees near the latest measurement, so that walls become known. */
    private int degrees(int wall) {
        int latest = model.wall(wall, 0);
        return latest < -1000 || random.nextInt(4) == 0 ? some(-60, 60) : latest + random.nextInt(9) - 4;
    }

    private void call() {
        int kind = random.nextInt(100);
        if (kind < 45) {
            change(kind);
        } else if (kind < 60) {
            program();
        } else {
            look(kind);
        }
    }

    private void change(int kind) {
        if (kind < 3) {
            int month = some(0, 11);
            int minutes = some(-20, 20);
            act("setCorrection", model.act("setCorrection", month, minutes), works.setCorrection(month, minutes),
                    month, minutes);
        } else if (kind < 7) {
            int[] greatest = {10, 13, 60, 100};
            int what = some(0, 3);
            int value = some(0, what < 0 || what > 3 ? 10 : greatest[what]);
            act("set", model.act("set", what, value), works.set(what, value), what, value);
        } else if (kind < 9) {
            act("addWall", model.act("addWall"), works.addWall());
        } else if (kind < 16) {
            int wall = wall();
            int degrees = degrees(wall);
            act("measure", model.act("measure", wall, degrees), works.measure(wall, degrees), wall, degrees);
        } else if (kind < 19) {
            ask();
        } else if (kind < 29) {
            changeCommission(kind);
        } else if (kind < 33) {
            act("cast", model.act("cast"), works.cast());
        } else if (kind < 36) {
            int slot = some(0, 1);
            act("take", model.act("take", slot), works.take(slot), slot);
        } else if (kind < 38) {
            int slot = some(0, 1);
            act("restore", model.act("restore", slot), works.restore(slot), slot);
        } else {
            act("undo", model.undo(), works.undo());
        }
    }

    private void changeCommission(int kind) {
        int c = commission();
        if (kind < 24) {
            act("decide", model.act("decide", c), works.decide(c), c);
        } else if (kind < 26) {
            act("askAgain", model.act("askAgain", c), works.askAgain(c), c);
        } else {
            act("deliver", model.act("deliver", c), works.deliver(c), c);
        }
    }

    private void program() {
        if (random.nextInt(3) == 0) {
            act("clearText", model.clearText(), works.clearText());
        }
        StringBuilder text = new StringBuilder();
        int commands = random.nextInt(4);
        for (int i = 0; i < commands; i++) {
            text.append(command());
        }
        if (random.nextInt(4) == 0 && text.length() > 0) {
            damage(text);
        }
        for (int i = 0; i < text.length() && i < 60; i++) {
            type(text.charAt(i));
        }
        if (random.nextInt(20) == 0) {
            type(some(1, 255));
        }
        if (random.nextInt(5) != 0) {
            act("run", model.run(), works.run());
            if (random.nextBoolean()) {
                act("clearText", model.clearText(), works.clearText());
            }
        }
    }

    private void type(int character) {
        act("append", model.append(character), works.append(character), character);
    }

    private void damage(StringBuilder text) {
        String odd = " ;-a0z9A+\t00wall\u00e9~";
        int at = random.nextInt(text.length());
        switch (random.nextInt(3)) {
            case 0:
                text.deleteCharAt(at);
                break;
            case 1:
                text.insert(at, odd.charAt(random.nextInt(odd.length())));
                break;
            default:
                text.setCharAt(at, odd.charAt(random.nextInt(odd.length())));
        }
    }

    private String space() {
        return random.nextInt(4) == 0 ? "  ".substring(random.nextInt(2)) : "";
    }

    private String command() {
        int wall = wall();
        int degrees = degrees(wall);
        String sign = degrees < 0 || random.nextInt(30) == 0 ? "-" + space() : "";
        String size = Math.abs(degrees) > 9999 ? "" : "" + Math.abs(degrees);
        switch (random.nextInt(8)) {
            case 0:
                return space() + "wall" + space() + ";" + space();
            case 1:
            case 2:
                return "measure" + space() + wall + (sign.isEmpty() ? " " : space()) + sign + size + space() + ";";
            case 3:
                return "flat" + space() + some(10, 70) + " " + space() + some(10, 60) + ";" + space();
            case 4:
                return "upright " + some(10, 70) + " " + wall + " " + some(10, 60) + ";";
            case 5:
                return "decide" + space() + commission() + space() + ";";
            case 6:
                return "cast" + space() + ";";
            default:
                return "deliver " + commission() + ";" + space();
        }
    }

    private void look(int kind) {
        int c = commission();
        if (kind < 63) {
            int what = some(0, 16);
            due("count " + what, model.count(what), works.count(what));
        } else if (kind < 67) {
            int wall = wall();
            int what = some(0, 3);
            due("wall " + wall + " " + what, model.wall(wall, what), works.wall(wall, what));
        } else if (kind < 72) {
            int what = some(0, 8);
            due("commission " + c + " " + what, model.commission(c, what), works.commission(c, what));
        } else if (kind < 74) {
            int month = some(0, 11);
            due("correction " + month, model.correction(month), works.correction(month));
        } else if (kind < 76) {
            int angle = some(-720, 720);
            due("sine " + angle, model.sine(angle), works.sine(angle));
        } else if (kind == 76 && random.nextInt(6) == 0) {
            int declination = random.nextInt(5) == 0 ? 100 : some(-60, 60);
            due("bestLatitude " + declination, model.bestLatitude(declination), works.bestLatitude(declination));
        } else {
            lookAtDial(kind, c);
        }
    }

    private void lookAtDial(int kind, int c) {
        if (kind < 81) {
            int time = some(-360, 360);
            due("offset " + c + " " + time, model.offset(c, time), works.offset(c, time));
        } else if (kind < 85) {
            int what = some(0, 2);
            due("lines " + c + " " + what, model.lines(c, what), works.lines(c, what));
        } else if (kind < 91) {
            int offset = random.nextBoolean() ? some(-3000, 3000) : some(-400, 400);
            int by = some(0, 1);
            int month = some(-1, 11);
            due("read " + c + " " + offset + " " + by + " " + month, model.read(c, offset, by, month),
                    works.read(c, offset, by, month));
        } else if (kind < 94) {
            int what = some(0, 1);
            due("apart " + c + " " + what, model.apart(c, what), works.apart(c, what));
        } else if (kind < 97) {
            due("reason " + c, model.reason(c), works.reason(c));
        } else {
            due("melts", model.melts(), works.melts());
        }
    }

    private void lookAtAll() {
        for (int what = 0; what < 17; what++) {
            due("count " + what, model.count(what), works.count(what));
        }
        int c = commission();
        for (int what = 0; what < 9; what++) {
            due("commission " + c + " " + what, model.commission(c, what), works.commission(c, what));
        }
        int w = wall();
        for (int what = 0; what < 4; what++) {
            due("wall " + w + " " + what, model.wall(w, what), works.wall(w, what));
        }
        due("melts", model.melts(), works.melts());
    }
}
