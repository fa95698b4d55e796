import java.util.List;
import java.util.Random;

/** Runs of calls, ordinary and wrong ones, by fixed seeds: each answer is that of the model. */
public final class RandomRunsTest {
    private static final int RUNS = 600;
    /** The checksum at the end is the last of the 512 calls for which an object is good. */
    private static final int CALLS = 511;
    private static final int[] ODD = {-1, 0, 1, 6, 8, 20, 21, 200, 201, 3000, 3001, -300, -301, 100000,
        Integer.MAX_VALUE, Integer.MIN_VALUE};
    private static final String[] NAMES = {"draw", "section", "bore", "volume", "thread", "widest", "deliver", "make",
        "buy", "fill", "smash", "inside", "crept", "days", "air", "level", "ice", "steam", "boiling", "divide",
        "readsAt", "bath", "error", "tests", "begin", "worst", "grade", "certify", "isCertified", "breakThread",
        "isBroken", "keep", "shake", "barometer", "stock", "spilt", "checksum", "certifiedShare", "meanError",
        "isSound"};
    private static final String[] OFTEN = {"bath", "bath", "bath", "bath", "divide", "fill", "make", "draw", "buy",
        "level", "certify", "isCertified", "grade", "checksum"};
    /** What a calm run does rarely, so that its instruments stay divided and read well. */
    private static final String[] RARE = {"smash", "ice", "steam", "keep", "breakThread"};

    private final Random random;
    private final Meniscus works = new Meniscus();
    private final Model model = new Model();
    private final boolean calm;

    private RandomRunsTest(int seed) {
        random = new Random(seed);
        calm = seed % 3 != 0;
    }

    public static void main(String[] args) {
        for (int seed = 0; seed < RUNS; seed++) {
            new RandomRunsTest(seed).run(seed);
        }
        Checks.end();
    }

    private void run(int seed) {
        int n = calm ? divideTwo(seed) : 0;
        for (; n < CALLS; n++) {
            String name = random.nextInt(2) == 0 ? pick(OFTEN) : pick(NAMES);
            if (!calm || !List.of(RARE).contains(name) || random.nextInt(8) == 0) {
                compare(seed, name, arguments(name));
            }
        }
        Checks.due(seed + " checksum()", model.call("checksum", 0, 0, 0, 0), works::checksum);
    }

    /** Makes two instruments, mostly with fine scales, and divides them; answers the number of calls. */
    private int divideTwo(int seed) {
        for (int i = 0; i < 2; i++) {
            int bore = among(1, 40);
            int glass = random.nextBoolean() ? 'h' : 's';
            compare(seed, "draw", new int[] {bore, among(-1, 1), 0, 0});
            compare(seed, "make", new int[] {i, Math.max(1000, bore * among(2000, 7000) % 50000), glass, 0});
            compare(seed, "buy", new int[] {99999, 0, 0, 0});
            compare(seed, "fill", new int[] {i, random.nextInt(5) == 0 ? 's' : 'm', among(0, 60), 0});
            compare(seed, "ice", new int[] {i, 0, 0, 0});
            compare(seed, "steam", new int[] {i, among(700, 800), 0, 0});
            compare(seed, "divide", new int[] {i, random.nextBoolean() ? 'l' : 'v', 0, 0});
        }
        return 14;
    }

    private void compare(int seed, String name, int[] a) {
        String text = seed + " " + name + java.util.Arrays.toString(a);
        String due = Checks.answer(() -> model.call(name, a[0], a[1], a[2], a[3]));
        Checks.due(text, due, () -> call(name, a[0], a[1], a[2], a[3]));
    }

    private String pick(String[] names) {
        return names[random.nextInt(names.length)];
    }

    private int among(int least, int most) {
        return least + random.nextInt(most - least + 1);
    }

    private int[] arguments(String name) {
        int[] a = usual(name);
        if (random.nextInt(calm ? 40 : 8) == 0) {
            a[random.nextInt(a.length)] = ODD[random.nextInt(ODD.length)];
        }
        return a;
    }

    private int[] usual(String name) {
        int tube = among(0, 7);
        int glass = among(0, calm ? 1 : 5);
        switch (name) {
            case "draw": return new int[] {among(1, 40), among(-2, 2), 0, 0};
            case "section": return new int[] {tube, among(0, 19), among(1, 60), 0};
            case "bore": return new int[] {tube, among(0, 19), 0, 0};
            case "thread": return new int[] {tube, among(0, 200), among(1, 6000), 0};
            case "deliver": return new int[] {tube, among(0, 200), among(0, 200), among(1, 80)};
            case "make": return new int[] {tube, among(1000, 50000), random.nextBoolean() ? 'h' : 's', 0};
            case "buy": return new int[] {among(1, 99999), 0, 0, 0};
            case "fill": return new int[] {glass, random.nextInt(4) == 0 ? 's' : 'm', among(0, 120), 0};
            case "days": return new int[] {random.nextInt(9) == 0 ? among(1, 999) : among(1, 40), 0, 0, 0};
            case "air": return new int[] {among(-300, 3000), 0, 0, 0};
            case "level": case "bath": return new int[] {glass, temperature(), dipped(), 0};
            case "steam": return new int[] {glass, among(700, 800), 0, 0};
            case "boiling": return new int[] {0, among(700, 800), 0, 0};
            case "divide": return new int[] {glass, random.nextBoolean() ? 'l' : 'v', 0, 0};
            case "readsAt": case "volume": return new int[] {glass, among(0, 200), 0, 0};
            case "breakThread": return new int[] {glass, among(1, 20), 0, 0};
            case "barometer":
                return new int[] {among(6000, 8000), among(-20, 40), among(9780, 9832), among(1, 60)};
            default: return new int[] {glass, random.nextInt(2), 0, 0};
        }
    }

    /** Near to 0 a divided instrument reads well, so that classes better than 'X' come up. */
    private int temperature() {
        switch (random.nextInt(6)) {
            case 0: return among(-300, 3000);
            case 1: return among(1990, 2300);
            case 2: return among(-210, -190);
            default: return among(-6, 6);
        }
    }

    private int dipped() {
        return random.nextBoolean() ? 200 : among(0, 200);
    }

    private Object call(String name, int a, int b, int c, int d) {
        Meniscus x = works;
        switch (name) {
            case "draw": return x.draw(a, b);
            case "section": return x.section(a, b, c);
            case "bore": return x.bore(a, b);
            case "volume": return x.volume(a, b);
            case "thread": return x.thread(a, b, c);
            case "widest": return x.widest(a);
            case "deliver": return x.deliver(a, b, c, d);
            case "make": return x.make(a, b, (char) c);
            case "buy": return x.buy(a);
            case "fill": return x.fill(a, (char) b, c);
            case "smash": return x.smash(a);
            case "inside": return x.inside(a);
            case "crept": return x.crept(a);
            case "days": return x.days(a);
            case "air": return x.air(a);
            case "level": return x.level(a, b, c);
            case "ice": return x.ice(a);
            case "steam": return x.steam(a, b);
            case "boiling": return x.boiling(b);
            case "divide": return x.divide(a, (char) b);
            case "readsAt": return x.readsAt(a, b);
            case "bath": return x.bath(a, b, c);
            case "error": return x.error(a);
            case "tests": return x.tests(a);
            case "begin": return x.begin(a);
            case "worst": return x.worst(a);
            case "grade": return x.grade(a);
            case "certify": return x.certify(a);
            case "isCertified": return x.isCertified(a);
            case "breakThread": return x.breakThread(a, b);
            case "isBroken": return x.isBroken(a);
            case "keep": return x.keep(a, b % 2 == 0);
            case "shake": return x.shake(a);
            case "barometer": return x.barometer(a, b, c, d);
            case "stock": return x.stock();
            case "spilt": return x.spilt();
            case "checksum": return x.checksum();
            case "certifiedShare": return x.certifiedShare();
            case "meanError": return x.meanError(a);
            case "isSound": return x.isSound();
            default: throw new AssertionError(name);
        }
    }
}
