import java.util.function.BiFunction;
import java.util.function.Supplier;

/** Each number and sign that a call takes: both ends are taken, what is beyond them is refused. */
final class Ranges {
    private static final Class<IndexOutOfBoundsException> INDEX = IndexOutOfBoundsException.class;
    private static final Class<IllegalArgumentException> ARGUMENT = IllegalArgumentException.class;

    private Ranges() {
    }

    static void all() {
        numbersOfTubes();
        numbersOfInstruments();
        numbersOfTubeCalls();
        numbersOfInstrumentCalls();
        temperatures();
        places();
        pressures();
        barometer();
        signs();
    }

    private static void range(int promise, String line, int least, int most, Supplier<Meniscus> setup,
            BiFunction<Meniscus, Integer, Object> call) {
        Document.tell(Document.promise(promise), line);
        Checks.range(least, most, ARGUMENT, setup, call);
    }

    private static void tubesOf(int promise, BiFunction<Meniscus, Integer, Object> call) {
        Document.tell(Document.promise(promise), "`tube`: the number of the tube");
        Checks.range(0, 0, INDEX, Works::tube, call);
        Checks.range(0, 7, INDEX, Works::eightTubes, call);
        Document.tell(Document.promise(promise), "Throws `IndexOutOfBoundsException` if there is no such tube");
        Checks.no(INDEX, Works::fresh, x -> call.apply(x, 0));
        Checks.no(INDEX, Works::tube, x -> call.apply(x, 1));
        Checks.no(INDEX, Works::tube, x -> call.apply(x, 7));
        Checks.no(INDEX, Works::eightTubes, x -> call.apply(x, 8));
    }

    private static void numbersOfTubes() {
        tubesOf(3, (x, tube) -> x.section(tube, 0, 1));
        tubesOf(4, (x, tube) -> x.bore(tube, 0));
        tubesOf(5, (x, tube) -> x.volume(tube, 10));
        tubesOf(6, (x, tube) -> x.thread(tube, 0, 1));
        tubesOf(7, (x, tube) -> x.widest(tube));
        tubesOf(8, (x, tube) -> x.deliver(tube, 10, 0, 60));
        tubesOf(9, (x, tube) -> x.make(tube, 1000, 'h'));
    }

    /** Six of them, and one; each setup holds what the call needs, so that the number alone is wrong. */
    private static void instrumentsOf(int promise, Supplier<Meniscus> six, Supplier<Meniscus> one,
            BiFunction<Meniscus, Integer, Object> call) {
        Document.tell(Document.promise(promise), "`instrument`: the number of the instrument");
        Checks.range(0, 5, INDEX, six, call);
        Checks.range(0, 0, INDEX, one, call);
        Document.tell(Document.promise(promise), "Throws `IndexOutOfBoundsException` if there is no such instrument");
        Checks.no(INDEX, Works::fresh, x -> call.apply(x, 0));
        Checks.no(INDEX, Works::eightTubes, x -> call.apply(x, 0));
        Checks.no(INDEX, one, x -> call.apply(x, 1));
        Checks.no(INDEX, one, x -> call.apply(x, 5));
        Checks.no(INDEX, six, x -> call.apply(x, 6));
    }

    private static void numbersOfInstruments() {
        instrumentsOf(11, Works::sixMade, Works::made, (x, i) -> x.fill(i, 's', 0));
        instrumentsOf(12, Works::sixMade, Works::made, (x, i) -> x.smash(i));
        instrumentsOf(13, Works::sixMade, Works::made, (x, i) -> x.inside(i));
        instrumentsOf(14, Works::sixMade, Works::made, (x, i) -> x.crept(i));
        instrumentsOf(17, Works::sixFilled, Works::filled, (x, i) -> x.level(i, 0, 200));
        instrumentsOf(18, Works::sixFilled, Works::filled, (x, i) -> x.ice(i));
        instrumentsOf(19, Works::sixFilled, Works::filled, (x, i) -> x.steam(i, 760));
        instrumentsOf(21, Works::sixDivided, Works::pointed, (x, i) -> x.divide(i, 'l'));
        instrumentsOf(22, Works::sixDivided, Works::divided, (x, i) -> x.readsAt(i, 50));
        instrumentsOf(23, Works::sixDivided, Works::divided, (x, i) -> x.bath(i, 0, 200));
        instrumentsOf(24, Works::sixTested, Works::tested, (x, i) -> x.error(i));
        instrumentsOf(25, Works::sixTested, Works::tested, (x, i) -> x.tests(i));
        instrumentsOf(26, Works::sixTested, Works::tested, (x, i) -> x.begin(i));
        instrumentsOf(27, Works::sixTested, Works::tested, (x, i) -> x.worst(i));
        instrumentsOf(28, Works::sixTested, Works::tested, (x, i) -> x.grade(i));
        instrumentsOf(29, Works::sixTested, Works::tested, (x, i) -> x.certify(i));
        instrumentsOf(30, Works::sixTested, Works::certified, (x, i) -> x.isCertified(i));
        instrumentsOf(31, Works::sixFilled, Works::filled, (x, i) -> x.breakThread(i, 1));
        instrumentsOf(32, Works::sixFilled, Works::broken, (x, i) -> x.isBroken(i));
        instrumentsOf(33, Works::sixMade, Works::made, (x, i) -> x.keep(i, true));
        instrumentsOf(34, Works::sixKeepers, Works::keeper, (x, i) -> x.shake(i));
        instrumentsOf(40, Works::sixTested, Works::tested, (x, i) -> x.meanError(i));
    }

    private static void numbersOfTubeCalls() {
        range(2, "`bore`: the bore", 1, 40, Works::fresh, (x, bore) -> x.draw(bore, 0));
        range(2, "`taper`: the taper", -2, 2, Works::fresh, (x, taper) -> x.draw(20, taper));
        range(3, "`section`: the section", 0, 19, Works::tube, (x, section) -> x.section(0, section, 9));
        range(3, "`bore`: the bore, 1 to 60", 1, 60, Works::tube, (x, bore) -> x.section(0, 0, bore));
        range(4, "`section`: the section", 0, 19, Works::tube, (x, section) -> x.bore(0, section));
        range(5, "`place`: the place, 0 to 200", 0, 200, Works::tube, (x, place) -> x.volume(0, place));
        range(6, "`place`: the place, 0 to 200", 0, 200, Works::tube, (x, place) -> x.thread(0, place, 1));
        range(6, "`volume`: the volume of the thread, 1 to 99999", 1, 99999, Works::tube,
                (x, volume) -> x.thread(0, 0, volume));
        // From the place 0 there is no lower one.
        range(8, "`from`: the place from which, 0 to 200", 1, 200, Works::tube, (x, from) -> x.deliver(0, from, 0, 60));
        range(8, "`to`: the lower one", 0, 199, Works::tube, (x, to) -> x.deliver(0, 200, to, 60));
        range(8, "`to`: the lower one", 0, 99, Works::tube, (x, to) -> x.deliver(0, 100, to, 60));
        range(8, "`seconds`: 1 to 999", 1, 999, Works::tube, (x, seconds) -> x.deliver(0, 200, 0, seconds));
    }

    private static void numbersOfInstrumentCalls() {
        range(9, "`bulb`: the bulb", 1000, 50000, Works::tube, (x, bulb) -> x.make(0, bulb, 'h'));
        range(10, "`amount`: how much mercury, 1 to 99999", 1, 99999, Works::fresh, (x, amount) -> x.buy(amount));
        range(15, "`days`: 1 to 999", 1, 999, Works::full, (x, days) -> x.days(days));
        range(31, "`gap`: 1 to 20", 1, 20, Works::filled, (x, gap) -> x.breakThread(0, gap));
        Document.tell(Document.promise(33), "`is`: whether it is a keeper");
        Checks.yes(true, Works::made, x -> !x.keep(0, true) && x.keep(0, true));
        Checks.yes(false, Works::made, x -> x.keep(0, false) || x.keep(0, true));
    }

    private static void temperatures() {
        String line = "`temperature`: the temperature";
        range(16, line, -300, 3000, Works::fresh, (x, temperature) -> x.air(temperature));
        range(17, line, -300, 3000, Works::filled, (x, temperature) -> x.level(0, temperature, 200));
        range(23, line, -300, 3000, Works::divided, (x, temperature) -> x.bath(0, temperature, 200));
        // At both ends there are levels, too.
        Checks.yes(24, Works::filled, x -> x.level(0, -300, 200));
        Checks.yes(112, () -> Works.wide('s'), x -> x.level(0, 3000, 200));
        Checks.yes(3027, () -> Works.wide('s'), x -> x.bath(0, 3000, 200));
    }

    private static void places() {
        String line = "`place`: the place, 0 to 200";
        range(11, line, 0, 200, Works::made, (x, place) -> x.fill(0, 'm', place));
        range(17, line, 0, 200, Works::filled, (x, place) -> x.level(0, 0, place));
        range(22, line, 0, 200, Works::divided, (x, place) -> x.readsAt(0, place));
        range(23, line, 0, 200, Works::divided, (x, place) -> x.bath(0, 0, place));
    }

    private static void pressures() {
        range(19, "`pressure`: the pressure", 700, 800, Works::filled, (x, pressure) -> x.steam(0, pressure));
        range(20, "`pressure`: the pressure", 700, 800, Works::fresh, (x, pressure) -> x.boiling(pressure));
    }

    private static void barometer() {
        range(35, "`height`: the height", 6000, 8000, Works::fresh, (x, n) -> x.barometer(n, 0, 9807, 1));
        range(35, "`degrees`: the degrees", -20, 40, Works::fresh, (x, n) -> x.barometer(7600, n, 9807, 1));
        range(35, "`gravity`: the gravity", 9780, 9832, Works::fresh, (x, n) -> x.barometer(7600, 0, n, 1));
        range(35, "`bore`: the bore", 1, 60, Works::fresh, (x, n) -> x.barometer(7600, 0, 9807, n));
    }

    private static void signs() {
        Document.tell(Document.promise(9), "`glass`: 'h' or 's'");
        Checks.kinds("hs", Works::tube, (x, glass) -> x.make(0, 1000, glass));
        Document.tell(Document.promise(11), "`liquid`: 'm' or 's'");
        Checks.kinds("ms", Works::made, (x, liquid) -> x.fill(0, liquid, 0));
        Document.tell(Document.promise(21), "`kind`: 'l' or 'v'");
        Checks.kinds("lv", Works::pointed, (x, kind) -> x.divide(0, kind));
    }
}
