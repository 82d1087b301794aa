import java.util.ArrayList;
import java.util.HashMap;
import java.util.List;
import java.util.Map;

/** The document's sines and dials once more, written apart from the class to be held against it. */
final class Geometry {
    private static final Map<Integer, Geometry> DIALS = new HashMap<>();

    /** By time + 360; null where the time is not on the dial. */
    final Integer[] offsets = new Integer[721];
    final List<Integer> lines = new ArrayList<>();
    int apart = 0;
    int apartTime = Check.NONE;

    /** A declination of 100 is for a horizontal dial. */
    static Geometry of(int latitude, int declination) {
        return DIALS.computeIfAbsent(latitude * 1000 + declination, key -> new Geometry(latitude, declination));
    }

    static long nearest(long dividend, long divisor) {
        long below = Math.floorDiv(dividend, divisor);
        long rest = Math.floorMod(dividend, divisor);
        return rest >= divisor - rest ? below + 1 : below;
    }

    static long sine(int angle) {
        if (angle < 0) {
            return -sine(-angle);
        }
        long q = angle;
        return nearest(40000 * q * (720 - q), 648000 - q * (720 - q));
    }

    static long cosine(int angle) {
        return sine(360 + angle);
    }

    private Geometry(int latitude, int declination) {
        for (int m = -360; m <= 360; m++) {
            long side;
            long front;
            if (declination == 100) {
                side = sine(4 * latitude) * sine(m);
                front = 10000 * cosine(m);
            } else {
                side = 10000 * cosine(4 * latitude) * sine(m);
                front = 10000 * cosine(4 * declination) * cosine(m)
                        + sine(4 * declination) * sine(4 * latitude) * sine(m);
            }
            if (front > 0) {
                long offset = nearest(Math.multiplyExact(1000L, side), front);
                if (offset >= -3000 && offset <= 3000) {
                    offsets[m + 360] = (int) offset;
                }
            }
        }
        for (int m = -360; m <= 360; m++) {
            if (m % 60 == 0 && offsets[m + 360] != null) {
                lines.add(m);
            }
        }
        for (int m = 360; m >= -360; m--) {
            Integer reading = offsets[m + 360] == null ? null : byLines(offsets[m + 360]);
            if (reading != null && Math.abs(m - reading) >= apart) {
                apart = Math.abs(m - reading);
                apartTime = m;
            }
        }
    }

    Integer byLines(int s) {
        for (int h : lines) {
            if (!lines.contains(h + 60)) {
                continue;
            }
            long a = offsets[h + 360];
            long b = offsets[h + 60 + 360];
            if (a <= s && s <= b) {
                return a == b ? h : (int) nearest(h * (b - a) + 60 * (s - a), b - a);
            }
        }
        return null;
    }

    Integer byShadow(int s) {
        for (int difference = 0; difference <= 6000; difference++) {
            for (int m = -360; m <= 360; m++) {
                Integer offset = offsets[m + 360];
                if (offset != null && (offset == s - difference || offset == s + difference)) {
                    return m;
                }
            }
        }
        return null;
    }

    static int bestLatitude(int declination) {
        int best = 70;
        for (int latitude = 69; latitude >= 10; latitude--) {
            if (of(latitude, declination).apart <= of(best, declination).apart) {
                best = latitude;
            }
        }
        return best;
    }
}
