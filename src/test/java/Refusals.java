import java.util.NoSuchElementException;
import java.util.function.Function;
import java.util.function.Supplier;

/** Each refusal of each call: it throws what the document says, changes nothing, and comes in its order. */
final class Refusals {
    private static final Class<IndexOutOfBoundsException> INDEX = IndexOutOfBoundsException.class;
    private static final Class<IllegalArgumentException> ARGUMENT = IllegalArgumentException.class;
    private static final Class<UnsupportedOperationException> UNSUPPORTED = UnsupportedOperationException.class;
    private static final Class<IllegalStateException> STATE = IllegalStateException.class;
    private static final Class<NoSuchElementException> NONE = NoSuchElementException.class;
    private static final String RANGE = "a number is out of range";

    private static Class<? extends RuntimeException> due;

    private Refusals() {
    }

    static void all() {
        tubes();
        delivered();
        made();
        filled();
        smashed();
        days();
        levels();
        points();
        divisions();
        readings();
        baths();
        errors();
        certificates();
        threadsAndKeepers();
        barometers();
        shares();
        nothingIsChanged();
        firstOfTubes();
        firstOfInstruments();
        firstOfPoints();
        firstOfBaths();
    }

    /** The rows that follow are of this line. */
    private static void line(int promise, Class<? extends RuntimeException> exception, String why) {
        due = exception;
        Document.tell(Document.promise(promise), "Throws `" + exception.getSimpleName() + "` if " + why);
    }

    private static void no(Supplier<Meniscus> setup, Function<Meniscus, Object> call) {
        Checks.no(due, setup, call);
    }

    private static void tubes() {
        line(2, ARGUMENT, RANGE);
        no(Works::fresh, x -> x.draw(0, 0));
        no(Works::fresh, x -> x.draw(41, 0));
        no(Works::fresh, x -> x.draw(1, -3));
        no(Works::fresh, x -> x.draw(1, 3));
        line(2, STATE, "there are 8");
        no(Works::eightTubes, x -> x.draw(1, 0));
        no(Works::eightTubes, x -> x.draw(40, 2));
        no(Works::sixDivided, x -> x.draw(1, 0));
        line(3, ARGUMENT, RANGE);
        no(Works::tube, x -> x.section(0, -1, 1));
        no(Works::tube, x -> x.section(0, 20, 1));
        no(Works::tube, x -> x.section(0, 0, 0));
        no(Works::tube, x -> x.section(0, 0, 61));
        line(3, UNSUPPORTED, "the tube is used");
        no(Works::made, x -> x.section(0, 0, 1));
        no(Works::made, x -> x.section(0, 19, 60));
        no(Works::smashed, x -> x.section(0, 0, 1));
        line(4, ARGUMENT, RANGE);
        no(Works::tube, x -> x.bore(0, -1));
        no(Works::tube, x -> x.bore(0, 20));
        line(5, ARGUMENT, RANGE);
        no(Works::tube, x -> x.volume(0, -1));
        no(Works::tube, x -> x.volume(0, 201));
        line(6, ARGUMENT, RANGE);
        no(Works::tube, x -> x.thread(0, -1, 1));
        no(Works::tube, x -> x.thread(0, 201, 1));
        no(Works::tube, x -> x.thread(0, 0, 0));
        no(Works::tube, x -> x.thread(0, 0, 100000));
        line(6, NONE, "it goes beyond 200");
        no(Works::tube, x -> x.thread(0, 0, 411));
        no(Works::tube, x -> x.thread(0, 0, 99999));
        no(Works::tube, x -> x.thread(0, 199, 3));
        no(Works::tube, x -> x.thread(0, 200, 1));
    }

    private static void delivered() {
        line(8, ARGUMENT, "a number is out of range, or the place is not lower");
        no(Works::tube, x -> x.deliver(0, 201, 0, 60));
        no(Works::tube, x -> x.deliver(0, 200, -1, 60));
        no(Works::tube, x -> x.deliver(0, 200, 0, 0));
        no(Works::tube, x -> x.deliver(0, 200, 0, 1000));
        no(Works::tube, x -> x.deliver(0, 0, 0, 60));
        no(Works::tube, x -> x.deliver(0, 0, -1, 60));
        no(Works::tube, x -> x.deliver(0, 50, 50, 60));
        no(Works::tube, x -> x.deliver(0, 50, 51, 60));
        no(Works::tube, x -> x.deliver(0, 200, 200, 60));
        no(Works::tube, x -> x.deliver(0, 202, 201, 60));
        no(Works::tube, x -> x.deliver(0, 0, 200, 60));
    }

    private static void made() {
        line(9, ARGUMENT, "there is no such glass, or the bulb is out of range");
        no(Works::tube, x -> x.make(0, 1000, 'm'));
        no(Works::tube, x -> x.make(0, 1000, 'H'));
        no(Works::tube, x -> x.make(0, 999, 'h'));
        no(Works::tube, x -> x.make(0, 50001, 's'));
        line(9, UNSUPPORTED, "the tube is used");
        no(Works::made, x -> x.make(0, 1000, 's'));
        no(Works::smashed, x -> x.make(0, 1000, 's'));
        no(Works::sixMade, x -> x.make(3, 1000, 's'));
        line(9, STATE, "there are 6");
        no(Works::sixMade, x -> x.make(6, 1000, 's'));
        no(Works::sixDivided, x -> x.make(7, 50000, 'h'));
        no(() -> sixWithASmashedOne(), x -> x.make(6, 1000, 's'));
        line(10, ARGUMENT, RANGE);
        no(Works::fresh, x -> x.buy(0));
        no(Works::fresh, x -> x.buy(100000));
        no(Works::made, x -> x.buy(-5));
    }

    private static Meniscus sixWithASmashedOne() {
        Meniscus x = Works.sixMade();
        x.smash(2);
        return x;
    }

    private static void filled() {
        line(11, ARGUMENT, "there is no such liquid, or place");
        no(Works::made, x -> x.fill(0, 'h', 0));
        no(Works::made, x -> x.fill(0, 'M', 0));
        no(Works::made, x -> x.fill(0, 'm', -1));
        no(Works::made, x -> x.fill(0, 's', 201));
        line(11, UNSUPPORTED, "it is filled, or smashed, or there is not as much mercury");
        no(Works::filled, x -> x.fill(0, 's', 50));
        no(Works::filled, x -> x.fill(0, 'm', 50));
        no(() -> Works.thin(10000, 'h', 's', 50), x -> x.fill(0, 'm', 50));
        no(Works::smashed, x -> x.fill(0, 's', 50));
        no(() -> smashedEmpty(), x -> x.fill(0, 's', 50));
        no(() -> smashedEmpty(), x -> x.fill(0, 'm', 50));
        no(() -> bought(50499), x -> x.fill(0, 'm', 50));
        no(() -> bought(50000), x -> x.fill(0, 'm', 1));
        no(() -> bought(1), x -> x.fill(0, 'm', 0));
        Checks.yes(50500, () -> bought(50500), x -> x.fill(0, 'm', 50));
        Checks.yes(50500, () -> bought(1), x -> x.fill(0, 's', 50));
    }

    private static Meniscus smashedEmpty() {
        Meniscus x = Works.made();
        x.smash(0);
        return x;
    }

    private static Meniscus bought(int amount) {
        Meniscus x = new Meniscus();
        x.draw(10, 0);
        x.make(0, 50000, 'h');
        x.buy(amount);
        return x;
    }

    private static void smashed() {
        line(12, UNSUPPORTED, "it is smashed");
        no(Works::smashed, x -> x.smash(0));
        no(() -> smashedEmpty(), x -> x.smash(0));
    }

    private static Meniscus onDay(int day) {
        Meniscus x = Works.made('s');
        for (int left = day; left > 0; left -= 999) {
            x.days(Math.min(left, 999));
        }
        return x;
    }

    private static void days() {
        line(15, ARGUMENT, RANGE);
        no(Works::made, x -> x.days(0));
        no(Works::made, x -> x.days(-1));
        no(Works::made, x -> x.days(1000));
        line(15, STATE, "it would be above 9999");
        no(() -> onDay(9999), x -> x.days(1));
        no(() -> onDay(9999), x -> x.days(999));
        no(() -> onDay(9998), x -> x.days(2));
        no(() -> onDay(9001), x -> x.days(999));
        Checks.yes(9999, () -> onDay(9998), x -> x.days(1));
        Checks.yes(9999, () -> onDay(9000), x -> x.days(999));
        line(16, ARGUMENT, RANGE);
        no(Works::full, x -> x.air(-301));
        no(Works::full, x -> x.air(3001));
    }

    private static void levels() {
        line(17, ARGUMENT, RANGE);
        no(Works::filled, x -> x.level(0, -301, 200));
        no(Works::filled, x -> x.level(0, 3001, 200));
        no(Works::filled, x -> x.level(0, 0, -1));
        no(Works::filled, x -> x.level(0, 0, 201));
        line(17, UNSUPPORTED, "it is not filled");
        no(Works::made, x -> x.level(0, 0, 200));
        no(Works::smashed, x -> x.level(0, 0, 200));
        line(17, NONE, "it has no level");
        no(Works::levelless, x -> x.level(0, 1000, 200));
        no(Works::levelless, x -> x.level(0, -300, 200));
        no(Works::levelless, x -> x.level(0, -300, 0));
        no(Works::full, x -> x.level(0, 3000, 200));
        no(() -> Works.thin(1000, 'h', 's', 200), x -> x.level(0, 0, 0));
    }

    private static void points() {
        line(18, UNSUPPORTED, "it is not filled");
        no(Works::made, x -> x.ice(0));
        no(Works::smashed, x -> x.ice(0));
        line(18, NONE, "it has no level");
        no(() -> crept(), x -> x.ice(0));
        no(Works::sunken, x -> x.ice(0));
        line(19, ARGUMENT, RANGE);
        no(Works::divided, x -> x.steam(0, 699));
        no(Works::divided, x -> x.steam(0, 801));
        line(19, UNSUPPORTED, "it is not filled");
        no(Works::made, x -> x.steam(0, 760));
        no(Works::smashed, x -> x.steam(0, 760));
        line(19, NONE, "it has no level");
        no(Works::levelless, x -> x.steam(0, 760));
        no(Works::levelless, x -> x.steam(0, 700));
        no(() -> crept(), x -> x.steam(0, 760));
        line(20, ARGUMENT, RANGE);
        no(Works::fresh, x -> x.boiling(699));
        no(Works::fresh, x -> x.boiling(801));
    }

    /** Full at 0, and more than that by its creep; its point of ice was taken ahead. */
    private static Meniscus crept() {
        Meniscus x = Works.thin(50000, 's', 's', 200);
        x.ice(0);
        x.days(1);
        return x;
    }

    private static void divisions() {
        line(21, ARGUMENT, "there is no such kind");
        no(Works::divided, x -> x.divide(0, 'm'));
        no(Works::divided, x -> x.divide(0, 'L'));
        no(Works::pointed, x -> x.divide(0, ' '));
        no(Works::pointed, x -> x.divide(0, (char) 0));
        line(21, UNSUPPORTED, "it is not filled, or has not both points, or they are alike");
        no(Works::made, x -> x.divide(0, 'l'));
        no(Works::smashed, x -> x.divide(0, 'l'));
        no(Works::filled, x -> x.divide(0, 'l'));
        no(Works::levelless, x -> x.divide(0, 'v'));
        no(() -> steamAlone(), x -> x.divide(0, 'l'));
        no(() -> alike(), x -> x.divide(0, 'l'));
        no(() -> alike(), x -> x.divide(0, 'v'));
    }

    private static Meniscus steamAlone() {
        Meniscus x = Works.filled();
        x.steam(0, 760);
        return x;
    }

    /** Both points are at 100: 1000 of mercury are 17 more at 1000, of a place of 40. */
    private static Meniscus alike() {
        Meniscus x = new Meniscus();
        x.draw(40, 0);
        x.make(0, 1000, 'h');
        x.buy(9999);
        x.fill(0, 'm', 10);
        x.ice(0);
        x.steam(0, 760);
        return x;
    }

    private static void readings() {
        line(22, ARGUMENT, RANGE);
        no(Works::divided, x -> x.readsAt(0, -1));
        no(Works::divided, x -> x.readsAt(0, 201));
        line(22, UNSUPPORTED, "it is not divided");
        no(Works::made, x -> x.readsAt(0, 0));
        no(Works::filled, x -> x.readsAt(0, 0));
        no(Works::pointed, x -> x.readsAt(0, 0));
        no(() -> smashedUndivided(), x -> x.readsAt(0, 0));
    }

    private static Meniscus smashedUndivided() {
        Meniscus x = Works.pointed();
        x.smash(0);
        return x;
    }

    private static void baths() {
        line(23, ARGUMENT, RANGE);
        no(Works::full, x -> x.bath(0, -301, 200));
        no(Works::full, x -> x.bath(0, 3001, 200));
        no(Works::full, x -> x.bath(0, 0, -1));
        no(Works::full, x -> x.bath(0, 0, 201));
        no(() -> wideKeeper(), x -> x.bath(0, 2500, 201));
        line(23, UNSUPPORTED, "it is not filled, or not divided");
        no(Works::made, x -> x.bath(0, 0, 200));
        no(Works::filled, x -> x.bath(0, 0, 200));
        no(Works::pointed, x -> x.bath(0, 0, 200));
        no(Works::smashed, x -> x.bath(0, 0, 200));
        no(() -> undividedAgain(), x -> x.bath(0, 1000, 200));
        no(() -> undividedAgain(), x -> x.bath(0, -200, 200));
        line(23, NONE, "it has no level");
        no(Works::full, x -> x.bath(0, 3000, 200));
        no(() -> low(), x -> x.bath(0, -200, 200));
        no(() -> low(), x -> x.bath(0, -300, 0));
        // It has a level, but none by the air.
        no(() -> hotAir(), x -> x.bath(0, 1720, 0));
        Checks.yes(197, () -> hotAir(), x -> x.level(0, 1720, 200));
    }

    private static Meniscus wideKeeper() {
        Meniscus x = Works.wideCertified('s');
        x.keep(0, true);
        x.days(3);
        return x;
    }

    private static Meniscus undividedAgain() {
        Meniscus x = Works.full();
        x.ice(0);
        return x;
    }

    /** A broken one that stands at 10 at 0. */
    private static Meniscus low() {
        Meniscus x = PointsTest.even();
        x.ice(0);
        x.steam(0, 760);
        x.divide(0, 'l');
        x.keep(0, true);
        x.breakThread(0, 5);
        return x;
    }

    private static Meniscus hotAir() {
        Meniscus x = Works.keeper();
        x.air(3000);
        return x;
    }

    private static void errors() {
        line(24, NONE, "there is none");
        no(Works::made, x -> x.error(0));
        no(Works::divided, x -> x.error(0));
        no(() -> begun(), x -> x.error(0));
        line(27, NONE, "there is none");
        no(Works::made, x -> x.worst(0));
        no(Works::divided, x -> x.worst(0));
        no(() -> begun(), x -> x.worst(0));
        line(40, NONE, "there are none");
        no(Works::made, x -> x.meanError(0));
        no(Works::divided, x -> x.meanError(0));
        no(() -> begun(), x -> x.meanError(0));
    }

    private static Meniscus begun() {
        Meniscus x = Works.certified();
        x.begin(0);
        return x;
    }

    private static void certificates() {
        line(28, UNSUPPORTED, "fewer than 3 are kept");
        no(Works::made, x -> x.grade(0));
        no(() -> begun(), x -> x.grade(0));
        no(() -> TermsOfReadings.withErrors(1, 0, 0), x -> x.grade(0));
        no(() -> TermsOfReadings.withErrors(2, 0, 0), x -> x.grade(0));
        Checks.yes('A', () -> TermsOfReadings.withErrors(3, 0, 0), x -> x.grade(0));
        line(29, UNSUPPORTED, "fewer than 3 are kept, or the class is 'X'");
        no(Works::made, x -> x.certify(0));
        no(() -> begun(), x -> x.certify(0));
        no(() -> TermsOfReadings.withErrors(1, 0, 0), x -> x.certify(0));
        no(() -> TermsOfReadings.withErrors(2, 0, 0), x -> x.certify(0));
        no(() -> TermsOfReadings.withErrors(3, 1, 11), x -> x.certify(0));
        no(() -> TermsOfReadings.withErrors(8, 7, -11), x -> x.certify(0));
        no(() -> worseThanCertified(), x -> x.certify(0));
        Checks.yes(360, () -> TermsOfReadings.withErrors(3, 1, 10), x -> x.certify(0));
    }

    /** Its certificate holds on, though its class is 'X' by now. */
    private static Meniscus worseThanCertified() {
        Meniscus x = Works.certified();
        x.bath(0, 11, 200);
        x.days(5);
        return x;
    }

    private static void threadsAndKeepers() {
        line(31, ARGUMENT, RANGE);
        no(Works::broken, x -> x.breakThread(0, 0));
        no(Works::broken, x -> x.breakThread(0, 21));
        no(Works::filled, x -> x.breakThread(0, -1));
        line(31, UNSUPPORTED, "it is not filled");
        no(Works::made, x -> x.breakThread(0, 1));
        no(Works::smashed, x -> x.breakThread(0, 1));
        line(34, UNSUPPORTED, "it is no keeper");
        no(Works::made, x -> x.shake(0));
        no(Works::tested, x -> x.shake(0));
        no(() -> keeperNoMore(), x -> x.shake(0));
        line(34, NONE, "it had none");
        no(() -> keeperAnew(), x -> x.shake(0));
        no(() -> shaken(), x -> x.shake(0));
    }

    private static Meniscus keeperNoMore() {
        Meniscus x = Works.keeper();
        x.keep(0, false);
        return x;
    }

    private static Meniscus keeperAnew() {
        Meniscus x = Works.keeper();
        x.keep(0, true);
        return x;
    }

    private static Meniscus shaken() {
        Meniscus x = Works.keeper();
        x.shake(0);
        return x;
    }

    private static void barometers() {
        line(35, ARGUMENT, RANGE);
        int[][] wrong = {{5999, 0, 9800, 5}, {8001, 0, 9800, 5}, {7600, -21, 9800, 5}, {7600, 41, 9800, 5},
            {7600, 0, 9779, 5}, {7600, 0, 9833, 5}, {7600, 0, 9800, 0}, {7600, 0, 9800, 61}, {0, 0, 0, 0}};
        for (int[] row : wrong) {
            no(Works::full, x -> x.barometer(row[0], row[1], row[2], row[3]));
        }
    }

    private static void shares() {
        line(39, NONE, "there are none");
        no(Works::fresh, Meniscus::certifiedShare);
        no(Works::eightTubes, Meniscus::certifiedShare);
        Checks.yes(0.0f, () -> smashedEmpty(), Meniscus::certifiedShare);
    }

    private static void nothingIsChanged() {
        Document.tell("Exceptions", "A method that throws an exception changes nothing.");
        due = INDEX;
        no(Works::full, x -> x.section(2, 0, 1));
        no(Works::full, x -> x.make(2, 1000, 'h'));
        no(Works::full, x -> x.smash(1));
        no(Works::full, x -> x.begin(1));
        no(Works::full, x -> x.keep(1, false));
        no(Works::full, x -> x.certify(1));
        due = ARGUMENT;
        no(Works::full, x -> x.draw(1, 3));
        no(Works::full, x -> x.section(1, 0, 61));
        no(Works::full, x -> x.make(1, 1000, 'x'));
        no(Works::full, x -> x.buy(100000));
        no(Works::full, x -> x.days(1000));
        no(Works::full, x -> x.air(3001));
        no(Works::full, x -> x.steam(0, 801));
        no(Works::full, x -> x.divide(0, 'm'));
        no(Works::full, x -> x.breakThread(0, 21));
        due = UNSUPPORTED;
        no(Works::full, x -> x.section(0, 0, 1));
        no(Works::full, x -> x.make(0, 1000, 'h'));
        no(Works::full, x -> x.fill(0, 'm', 50));
        due = NONE;
        no(Works::full, x -> x.level(0, 3000, 0));
        no(Works::full, x -> x.bath(0, 3000, 0));
    }

    /** The exception that is listed first. */
    private static void first(Class<? extends RuntimeException> exception, Supplier<Meniscus> setup,
            Function<Meniscus, Object> call) {
        Checks.no(exception, setup, call);
    }

    private static void firstOfTubes() {
        Document.tell("Exceptions", "If several exceptions apply, the one that is listed first is thrown.");
        first(ARGUMENT, Works::eightTubes, x -> x.draw(0, 0));
        first(ARGUMENT, Works::eightTubes, x -> x.draw(1, 3));
        first(INDEX, Works::made, x -> x.section(1, 20, 61));
        first(INDEX, Works::made, x -> x.section(-1, 0, 61));
        first(ARGUMENT, Works::made, x -> x.section(0, 20, 1));
        first(ARGUMENT, Works::made, x -> x.section(0, 0, 61));
        first(INDEX, Works::tube, x -> x.bore(1, 20));
        first(INDEX, Works::tube, x -> x.volume(1, 201));
        first(INDEX, Works::tube, x -> x.thread(1, 201, 1));
        first(INDEX, Works::tube, x -> x.thread(1, 0, 0));
        first(ARGUMENT, Works::tube, x -> x.thread(0, 201, 1));
        first(ARGUMENT, Works::tube, x -> x.thread(0, 0, 100000));
        first(INDEX, Works::tube, x -> x.deliver(1, 0, 0, 0));
        first(INDEX, Works::tube, x -> x.deliver(1, 5, 6, 60));
    }

    private static void firstOfInstruments() {
        first(INDEX, Works::sixMade, x -> x.make(8, 1000, 'h'));
        first(INDEX, Works::sixMade, x -> x.make(-1, 999, 'x'));
        first(INDEX, Works::tube, x -> x.make(1, 1000, 'x'));
        first(ARGUMENT, Works::made, x -> x.make(0, 1000, 'x'));
        first(ARGUMENT, Works::made, x -> x.make(0, 999, 'h'));
        first(ARGUMENT, Works::sixMade, x -> x.make(6, 1000, 'x'));
        first(ARGUMENT, Works::sixMade, x -> x.make(6, 50001, 'h'));
        first(UNSUPPORTED, Works::sixMade, x -> x.make(5, 1000, 'h'));
        first(INDEX, Works::made, x -> x.fill(1, 'x', 0));
        first(INDEX, Works::made, x -> x.fill(1, 'm', 201));
        first(ARGUMENT, Works::filled, x -> x.fill(0, 'x', 0));
        first(ARGUMENT, Works::filled, x -> x.fill(0, 'm', 201));
        first(ARGUMENT, Works::smashed, x -> x.fill(0, 'm', -1));
        first(ARGUMENT, () -> bought(1), x -> x.fill(0, 'm', 201));
        first(ARGUMENT, () -> onDay(9999), x -> x.days(0));
        first(ARGUMENT, () -> onDay(9999), x -> x.days(1000));
        first(INDEX, Works::made, x -> x.level(1, 3001, 200));
        first(INDEX, Works::made, x -> x.level(1, 0, 201));
        first(ARGUMENT, Works::made, x -> x.level(0, 3001, 200));
        first(ARGUMENT, Works::made, x -> x.level(0, 0, 201));
        first(ARGUMENT, Works::levelless, x -> x.level(0, -301, 200));
        first(ARGUMENT, Works::levelless, x -> x.level(0, 3000, 201));
    }

    private static void firstOfPoints() {
        first(INDEX, Works::made, x -> x.steam(1, 801));
        first(ARGUMENT, Works::made, x -> x.steam(0, 801));
        first(ARGUMENT, Works::smashed, x -> x.steam(0, 699));
        first(ARGUMENT, Works::levelless, x -> x.steam(0, 801));
        first(INDEX, Works::made, x -> x.divide(1, 'x'));
        first(ARGUMENT, Works::made, x -> x.divide(0, 'x'));
        first(ARGUMENT, Works::filled, x -> x.divide(0, 'x'));
        first(ARGUMENT, () -> alike(), x -> x.divide(0, 'x'));
        first(INDEX, Works::made, x -> x.readsAt(1, 201));
        first(ARGUMENT, Works::made, x -> x.readsAt(0, 201));
        first(ARGUMENT, Works::pointed, x -> x.readsAt(0, -1));
    }

    private static void firstOfBaths() {
        first(INDEX, Works::made, x -> x.bath(1, 3001, 200));
        first(INDEX, Works::made, x -> x.bath(1, 0, 201));
        first(ARGUMENT, Works::made, x -> x.bath(0, 3001, 200));
        first(ARGUMENT, Works::pointed, x -> x.bath(0, 0, 201));
        first(ARGUMENT, Works::smashed, x -> x.bath(0, -301, 200));
        first(ARGUMENT, Works::divided, x -> x.bath(0, 3000, 201));
        first(UNSUPPORTED, Works::pointed, x -> x.bath(0, 3000, 200));
        first(UNSUPPORTED, Works::levelless, x -> x.bath(0, 1000, 200));
        first(INDEX, Works::made, x -> x.breakThread(1, 21));
        first(ARGUMENT, Works::made, x -> x.breakThread(0, 21));
        first(ARGUMENT, Works::smashed, x -> x.breakThread(0, 0));
        first(UNSUPPORTED, () -> keeperNoMore(), x -> x.shake(0));
        first(INDEX, Works::made, x -> x.shake(1));
        first(UNSUPPORTED, () -> TermsOfReadings.withErrors(2, 0, 11), x -> x.certify(0));
    }
}
