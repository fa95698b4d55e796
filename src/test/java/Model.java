import java.math.BigInteger;
import java.util.ArrayList;
import java.util.List;
import java.util.NoSuchElementException;

/** The document told once more, step by step and without a thought of speed, to compare random runs with. */
final class Model {
    private static final class Glass {
        int tube;
        long bulb;
        char glass;
        char liquid;
        boolean smashed;
        long in;
        long crept;
        Integer ice;
        Integer steam;
        int steamTemperature;
        char kind;
        int gap;
        boolean keeper;
        Integer kept;
        Integer certifiedUpTo;
        final List<int[]> readings = new ArrayList<>();

        boolean isFilled() {
            return liquid != 0 && !smashed;
        }
    }

    private final List<int[]> tubes = new ArrayList<>();
    private final List<Glass> glasses = new ArrayList<>();
    private long stock;
    private long spilt;
    private int day;
    private int air = 200;

    Object call(String name, int a, int b, int c, int d) {
        switch (name) {
            case "draw": return draw(a, b);
            case "section": return section(a, b, c);
            case "bore": return step(tube(a), range(b, 0, 19) * 10);
            case "volume": return upTo(tube(a), range(b, 0, 200));
            case "thread": return thread(tube(a), b, c);
            case "widest": return widest(tube(a));
            case "deliver": return deliver(tube(a), b, c, d);
            case "make": return make(a, b, (char) c);
            case "buy": return stock += range(a, 1, 99999);
            case "fill": return fill(glass(a), (char) b, c);
            case "smash": return smash(glass(a));
            case "inside": return glass(a).in;
            case "crept": return glass(a).crept;
            case "days": return days(a);
            case "air": return air(a);
            case "level": return level(checked(glass(a), b, c), b, c);
            case "ice": return ice(checked(glass(a), 0, 0));
            case "steam": return steam(glass(a), b);
            case "boiling": return 1000 + (range(b, 700, 800) - 760) * 37 / 100;
            case "divide": return divide(glass(a), (char) b);
            case "readsAt": return readsAt(glass(a), b);
            case "bath": return bath(checked(glass(a), b, c), b, c);
            case "error": return last(errors(glass(a)));
            case "tests": return glass(a).readings.size();
            case "begin": return begin(glass(a));
            case "worst": return worst(glass(a));
            case "grade": return grade(glass(a));
            case "certify": return certify(glass(a));
            case "isCertified": return isCertified(glass(a));
            case "breakThread": return breakThread(glass(a), b);
            case "isBroken": return glass(a).gap != 0;
            case "keep": return keep(glass(a), b % 2 == 0);
            case "shake": return shake(glass(a));
            case "barometer": return barometer(a, b, c, d);
            case "stock": return stock;
            case "spilt": return spilt;
            case "checksum": return checksum();
            case "certifiedShare": return certifiedShare();
            case "meanError": return meanError(errors(glass(a)));
            case "isSound": return true;
            default: throw new AssertionError(name);
        }
    }

    private int[] tube(int number) {
        if (number < 0 || number >= tubes.size()) {
            throw new IndexOutOfBoundsException();
        }
        return tubes.get(number);
    }

    private Glass glass(int number) {
        if (number < 0 || number >= glasses.size()) {
            throw new IndexOutOfBoundsException();
        }
        return glasses.get(number);
    }

    private static int range(int value, int least, int most) {
        argument(value >= least && value <= most);
        return value;
    }

    private static void argument(boolean holds) {
        if (!holds) {
            throw new IllegalArgumentException();
        }
    }

    private static void supported(boolean holds) {
        if (!holds) {
            throw new UnsupportedOperationException();
        }
    }

    private static void state(boolean holds) {
        if (!holds) {
            throw new IllegalStateException();
        }
    }

    private static void element(boolean holds) {
        if (!holds) {
            throw new NoSuchElementException();
        }
    }

    private static Glass checked(Glass g, int temperature, int place) {
        range(temperature, -300, 3000);
        range(place, 0, 200);
        supported(g.isFilled());
        return g;
    }

    private static int step(int[] tube, int step) {
        return tube[step];
    }

    private static long upTo(int[] tube, int place) {
        long sum = 0;
        for (int s = 0; s < place; s++) {
            sum += tube[s];
        }
        return sum;
    }

    private int draw(int bore, int taper) {
        range(bore, 1, 40);
        range(taper, -2, 2);
        state(tubes.size() < 8);
        int[] steps = new int[200];
        for (int s = 0; s < 200; s++) {
            int told = bore + taper * (s / 10);
            steps[s] = told < 1 ? 1 : told > 60 ? 60 : told;
        }
        tubes.add(steps);
        return tubes.size() - 1;
    }

    private boolean isUsed(int tube) {
        return glasses.stream().anyMatch(g -> g.tube == tube);
    }

    private int section(int number, int section, int bore) {
        int[] tube = tube(number);
        range(section, 0, 19);
        range(bore, 1, 60);
        supported(!isUsed(number));
        int before = tube[section * 10];
        for (int s = section * 10; s < section * 10 + 10; s++) {
            tube[s] = bore;
        }
        return before;
    }

    private static int thread(int[] tube, int place, int volume) {
        range(place, 0, 200);
        range(volume, 1, 99999);
        int rest = volume;
        int end = place;
        while (rest > 0) {
            element(end < 200);
            rest -= tube[end++];
        }
        return end;
    }

    private static int widest(int[] tube) {
        int widest = 199;
        for (int s = 199; s >= 0; s--) {
            widest = tube[s] >= tube[widest] ? s : widest;
        }
        return widest / 10;
    }

    private static int deliver(int[] tube, int from, int to, int seconds) {
        range(from, 0, 200);
        range(to, 0, 200);
        range(seconds, 1, 999);
        argument(to < from);
        int sum = 0;
        for (int s = to; s < from; s++) {
            int clings = 0;
            for (int missing = 60 - seconds; missing > 0; missing -= 10) {
                clings++;
            }
            sum += Math.max(0, tube[s] - clings);
        }
        return sum;
    }

    private int make(int number, int bulb, char glass) {
        tube(number);
        range(bulb, 1000, 50000);
        argument(glass == 'h' || glass == 's');
        supported(!isUsed(number));
        state(glasses.size() < 6);
        Glass g = new Glass();
        g.tube = number;
        g.bulb = bulb;
        g.glass = glass;
        glasses.add(g);
        return glasses.size() - 1;
    }

    private long fill(Glass g, char liquid, int place) {
        argument(liquid == 'm' || liquid == 's');
        range(place, 0, 200);
        supported(g.liquid == 0 && !g.smashed);
        long amount = g.bulb - g.crept + upTo(tubes.get(g.tube), place);
        supported(liquid == 's' || stock >= amount);
        stock -= liquid == 'm' ? amount : 0;
        g.liquid = liquid;
        g.in = amount;
        return amount;
    }

    private long smash(Glass g) {
        supported(!g.smashed);
        long was = g.in;
        spilt += g.liquid == 'm' ? was : 0;
        g.smashed = true;
        g.in = 0;
        return was;
    }

    private int days(int days) {
        range(days, 1, 999);
        state(day + days <= 9999);
        for (int d = 0; d < days; d++) {
            day++;
            for (Glass g : glasses) {
                long rest = g.bulb * (g.glass == 'h' ? 2 : 6) / 1000 - g.crept;
                g.crept += rest / 20 + (rest % 20 == 0 ? 0 : 1);
            }
        }
        return day;
    }

    private int air(int temperature) {
        int before = air;
        air = range(temperature, -300, 3000);
        return before;
    }

    private static long part(long amount, long temperature, long millionths) {
        return BigInteger.valueOf(amount).multiply(BigInteger.valueOf(temperature))
                .multiply(BigInteger.valueOf(millionths)).divide(BigInteger.valueOf(1000000)).longValueExact();
    }

    private int greatest(int[] tube, long rest) {
        element(rest >= 0 && rest <= upTo(tube, 200));
        int place = 200;
        while (upTo(tube, place) > rest) {
            place--;
        }
        return place;
    }

    private int level(Glass g, int temperature, int place) {
        int[] tube = tubes.get(g.tube);
        int millionths = g.liquid == 'm' ? 18 : 110;
        long rest = g.in + part(g.in, temperature, millionths);
        rest -= g.bulb - g.crept;
        rest -= part(g.bulb, temperature, g.glass == 'h' ? 1 : 3);
        int level = greatest(tube, rest);
        long out = 0;
        for (int s = place; s < level; s++) {
            out += tube[s];
        }
        return out == 0 ? level : greatest(tube, rest - part(out, temperature - air, millionths));
    }

    private int ice(Glass g) {
        g.ice = level(g, 0, 200);
        g.kind = 0;
        return g.ice;
    }

    private int steam(Glass g, int pressure) {
        range(pressure, 700, 800);
        int temperature = 1000 + (pressure - 760) * 37 / 100;
        g.steam = level(checked(g, temperature, 200), temperature, 200);
        g.steamTemperature = temperature;
        g.kind = 0;
        return temperature;
    }

    private int divide(Glass g, char kind) {
        argument(kind == 'l' || kind == 'v');
        supported(g.isFilled() && g.ice != null && g.steam != null && !g.ice.equals(g.steam));
        g.kind = kind;
        return g.steam - g.ice;
    }

    private int readsAt(Glass g, int place) {
        range(place, 0, 200);
        supported(g.kind != 0);
        long far = place - g.ice;
        long whole = g.steam - g.ice;
        if (g.kind == 'v') {
            int[] tube = tubes.get(g.tube);
            far = upTo(tube, place) - upTo(tube, g.ice);
            whole = upTo(tube, g.steam) - upTo(tube, g.ice);
        }
        return (int) (g.steamTemperature * far / whole);
    }

    private int bath(Glass g, int temperature, int place) {
        supported(g.kind != 0);
        int at = level(g, temperature, place);
        g.gap = temperature <= -200 ? 0 : g.gap;
        if (g.keeper) {
            g.kept = g.kept == null || g.kept < at ? Integer.valueOf(at) : g.kept;
            at = g.kept;
        }
        at = at + g.gap > 200 ? 200 : at + g.gap;
        int reading = readsAt(g, at);
        g.readings.add(new int[] {reading, temperature});
        if (g.readings.size() > 8) {
            g.readings.remove(0);
        }
        if (temperature > 2000) {
            g.crept /= 2;
            g.certifiedUpTo = null;
        }
        return reading;
    }

    private static List<Integer> errors(Glass g) {
        List<Integer> errors = new ArrayList<>();
        for (int[] reading : g.readings) {
            errors.add(reading[0] - reading[1]);
        }
        return errors;
    }

    private static int last(List<Integer> errors) {
        element(!errors.isEmpty());
        return errors.get(errors.size() - 1);
    }

    private static int begin(Glass g) {
        int before = g.readings.size();
        g.readings.clear();
        return before;
    }

    private static int worst(Glass g) {
        element(!g.readings.isEmpty());
        return errors(g).stream().mapToInt(Math::abs).max().getAsInt();
    }

    private static char grade(Glass g) {
        supported(g.readings.size() >= 3);
        int worst = worst(g);
        return worst > 10 ? 'X' : worst > 5 ? 'C' : worst > 2 ? 'B' : 'A';
    }

    private int certify(Glass g) {
        supported(grade(g) != 'X');
        g.certifiedUpTo = day + (g.glass == 'h' ? 360 : 120);
        return g.certifiedUpTo;
    }

    private boolean isCertified(Glass g) {
        return !g.smashed && g.certifiedUpTo != null && day <= g.certifiedUpTo;
    }

    private static int breakThread(Glass g, int gap) {
        range(gap, 1, 20);
        supported(g.isFilled());
        int before = g.gap;
        g.gap = gap;
        return before;
    }

    private static boolean keep(Glass g, boolean is) {
        boolean before = g.keeper;
        g.keeper = is;
        g.kept = null;
        return before;
    }

    private static int shake(Glass g) {
        supported(g.keeper);
        element(g.kept != null);
        int kept = g.kept;
        g.kept = null;
        return kept;
    }

    private static int barometer(int height, int degrees, int gravity, int bore) {
        range(height, 6000, 8000);
        range(degrees, -20, 40);
        range(gravity, 9780, 9832);
        range(bore, 1, 60);
        int right = height - height * degrees * 18 / 100000;
        right = right * gravity / 9807;
        return right + 60 / bore;
    }

    private long checksum() {
        BigInteger sum = BigInteger.valueOf(7);
        List<Long> parts = new ArrayList<>();
        tubes.forEach(tube -> parts.add(upTo(tube, 200)));
        for (Glass g : glasses) {
            parts.add(g.in);
            parts.add(g.crept);
            g.readings.forEach(reading -> parts.add((long) reading[0]));
        }
        parts.add(stock);
        parts.add((long) day);
        for (long part : parts) {
            sum = sum.multiply(BigInteger.valueOf(31)).add(BigInteger.valueOf(part));
        }
        return sum.longValue();
    }

    private float certifiedShare() {
        element(!glasses.isEmpty());
        return (float) glasses.stream().filter(this::isCertified).count() / (float) glasses.size();
    }

    private static double meanError(List<Integer> errors) {
        element(!errors.isEmpty());
        return (double) errors.stream().mapToInt(e -> e).sum() / (double) errors.size();
    }
}
