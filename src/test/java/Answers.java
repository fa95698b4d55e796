import java.math.BigInteger;
import java.util.function.Supplier;

/** What each promise says that its call does and returns. */
final class Answers {
    private Answers() {
    }

    static void all() {
        newObject();
        tubes();
        instruments();
        days();
        levels();
        points();
        divisions();
        baths();
        worstAndMean();
        grades();
        certificates();
        brokenThreads();
        keepers();
        sums();
        checksum();
        checksumOfAll();
        shares();
        sound();
    }

    private static void tell(int promise, String words) {
        Document.tell(Document.promise(promise), words);
    }

    private static void newObject() {
        tell(1, "Creates works without tubes, instruments and mercury, on the day 0.");
        String index = Checks.thrown(IndexOutOfBoundsException.class);
        Checks.yes(index, Works::fresh, x -> x.widest(0));
        Checks.yes(index, Works::fresh, x -> x.crept(0));
        Checks.yes(0, Works::fresh, Meniscus::stock);
        Checks.yes(0, Works::fresh, Meniscus::spilt);
        Checks.yes(1, Works::fresh, x -> x.days(1));
        Checks.yes(200, Works::fresh, x -> x.air(0));
        Meniscus one = Works.full();
        Meniscus other = new Meniscus();
        Checks.due("another object", 6727L, other::checksum);
        other.days(999);
        Checks.due("the first one", 8, () -> one.days(1));
    }

    private static void tubes() {
        tell(2, "Draws a tube.");
        Checks.yes(9, Works::fresh, x -> x.draw(7, 2) == 0 ? x.bore(0, 1) : 0);
        tell(2, "Returns its number.");
        Meniscus x = new Meniscus();
        for (int number = 0; number < 8; number++) {
            Checks.due("draw", number, () -> x.draw(40, -2));
        }
        tell(3, "Tells the bore of a section.");
        Checks.yes(60, Works::tube, y -> y.section(0, 19, 60) > 0 ? y.bore(0, 19) : 0);
        Checks.yes(2, Works::tube, y -> y.section(0, 19, 60) > 0 ? y.bore(0, 18) : 0);
        tell(3, "Returns the one before.");
        Checks.yes(2, Works::tube, y -> y.section(0, 4, 3));
        Checks.yes(3, Works::tube, y -> y.section(0, 5, 2));
        Checks.yes(3, Works::tube, y -> y.section(0, 5, 3));
        tell(4, "Returns the bore of a section.");
        Checks.yes(2, Works::tube, y -> y.bore(0, 4));
        tell(4, "Returns the bore.");
        Checks.yes(3, Works::tube, y -> y.bore(0, 5));
        tell(5, "Returns the volume up to a place.");
        Checks.yes(103, Works::tube, y -> y.volume(0, 51));
        tell(5, "Returns the volume.");
        Checks.yes(0, Works::tube, y -> y.volume(0, 0));
        tell(6, "Returns where a thread ends.");
        Checks.yes(54, Works::tube, y -> y.thread(0, 45, 20));
        tell(6, "Returns the place.");
        Checks.yes(200, Works::tube, y -> y.thread(0, 0, 410));
        tell(7, "Returns the section with the greatest bore.");
        Checks.yes(5, Works::tube, y -> y.widest(0));
        Checks.yes(19, Works::tube, y -> y.section(0, 19, 4) > 0 ? y.widest(0) : -1);
        Checks.yes(0, Works::tube, y -> y.section(0, 0, 4) > 0 ? y.widest(0) : -1);
        Checks.yes(1, Works::tube, y -> y.section(0, 1, 4) > 0 ? y.widest(0) : -1);
        tell(7, "Returns the section, of like ones the lowest.");
        Checks.yes(0, Works::eightTubes, y -> y.widest(3));
        Checks.yes(4, Works::tube, y -> y.section(0, 4, 3) > 0 ? y.widest(0) : -1);
        Checks.yes(5, Works::tube, y -> y.section(0, 6, 3) > 0 ? y.widest(0) : -1);
        Checks.yes(10, Works::fresh, y -> y.draw(40, 2) == 0 ? y.widest(0) : -1);
        tell(8, "Returns what a tube delivers.");
        Checks.yes(10, Works::tube, y -> y.deliver(0, 60, 40, 45));
        tell(8, "Returns the volume.");
        Checks.yes(0, Works::tube, y -> y.deliver(0, 60, 40, 1));
    }

    private static void instruments() {
        tell(9, "Makes an instrument.");
        Checks.yes(0, Works::made, x -> x.crept(0));
        tell(9, "Returns its number.");
        Meniscus x = Works.eightTubes();
        for (int number = 0; number < 6; number++) {
            int tube = 7 - number;
            Checks.due("make", number, () -> x.make(tube, 1000, 's'));
        }
        tell(10, "Buys mercury.");
        Checks.yes(60001, Works::made, y -> y.buy(1) > 0 ? y.stock() : 0);
        tell(10, "Returns the stock.");
        Checks.yes(159999, Works::made, y -> y.buy(99999));
        tell(11, "Fills an instrument.");
        Checks.yes(9500, Works::filled, Meniscus::stock);
        tell(11, "Returns what is in it.");
        Checks.yes(50500, Works::made, y -> y.fill(0, 'm', 50));
        Checks.yes(50000, Works::made, y -> y.fill(0, 's', 0));
        tell(12, "Smashes an instrument.");
        Checks.yes(50500, Works::filled, y -> y.smash(0) > 0 ? y.spilt() : 0);
        tell(12, "Returns what was in it.");
        Checks.yes(50500, Works::filled, y -> y.smash(0));
        Checks.yes(0, Works::made, y -> y.smash(0));
        Checks.yes(10007, () -> Works.thin(10000, 'h', 's', 7), y -> y.smash(0));
        tell(13, "Returns what is in an instrument.");
        Checks.yes(50500, Works::filled, y -> y.inside(0));
        Checks.yes(10007, () -> Works.thin(10000, 'h', 's', 7), y -> y.inside(0));
        Checks.yes(50500, Works::filled, y -> y.days(999) > 0 ? y.inside(0) : 0);
        tell(13, "Returns how much, 0 before and behind.");
        Checks.yes(0, Works::made, y -> y.inside(0));
        Checks.yes(0, Works::smashed, y -> y.inside(0));
        tell(14, "Returns what a bulb has crept.");
        Checks.yes(5, Works::made, y -> y.days(1) > 0 ? y.crept(0) : 0);
        tell(14, "Returns how much.");
        Checks.yes(100, Works::made, y -> y.days(999) > 0 ? y.crept(0) : 0);
    }

    private static void days() {
        tell(15, "Lets days go by.");
        Checks.yes(10, Works::made, x -> x.days(2) > 0 ? x.crept(0) : 0);
        tell(15, "Returns the day then, 0 at first.");
        Meniscus x = new Meniscus();
        Checks.due("checksum on the day 0", 31L * 31 * 7, x::checksum);
        Checks.due("days(1)", 1, () -> x.days(1));
        Checks.due("days(999)", 1000, () -> x.days(999));
        for (int n = 2; n <= 10; n++) {
            Checks.due("days(999)", 1 + 999 * n, () -> x.days(999));
        }
        Checks.due("days(8)", 9999, () -> x.days(8));
        tell(16, "Sets the temperature of the air.");
        Checks.yes(135, Works::filled, y -> y.air(1000) > 0 ? y.level(0, 1000, 0) : 0);
        tell(16, "Returns the one before.");
        Checks.yes(200, Works::fresh, y -> y.air(-300));
        Checks.yes(-300, Works::fresh, y -> y.air(-300) > 0 ? y.air(3000) : 0);
        Checks.yes(3000, Works::fresh, y -> y.air(3000) > 0 ? y.air(3000) : 0);
    }

    private static void levels() {
        tell(17, "Returns the level of an instrument that is dipped up to a place.");
        Checks.yes(135, Works::filled, x -> x.level(0, 1000, 200));
        Checks.yes(134, Works::filled, x -> x.level(0, 1000, 0));
        tell(17, "Returns the place.");
        Checks.yes(0, () -> Works.thin(1000, 'h', 'm', 0), x -> x.level(0, 0, 0));
        Checks.yes(200, () -> Works.thin(1000, 'h', 'm', 200), x -> x.level(0, 0, 200));
    }

    private static void points() {
        tell(18, "Takes the point of ice.");
        Checks.yes(85, () -> steamed(760), x -> x.ice(0) > 0 ? x.divide(0, 'l') : 0);
        tell(18, "Returns the place.");
        Checks.yes(50, Works::filled, x -> x.ice(0));
        tell(19, "Takes the point of steam.");
        Checks.yes(84, () -> steamed(700), x -> x.ice(0) > 0 ? x.divide(0, 'l') : 0);
        tell(19, "Returns its temperature.");
        Checks.yes(978, Works::filled, x -> x.steam(0, 700));
        Checks.yes(1014, Works::filled, x -> x.steam(0, 800));
        tell(20, "Returns the temperature of steam.");
        Checks.yes(993, Works::fresh, x -> x.boiling(740));
        tell(20, "Returns the temperature.");
        Checks.yes(1000, Works::fresh, x -> x.boiling(759));
    }

    private static Meniscus steamed(int pressure) {
        Meniscus x = Works.filled();
        x.steam(0, pressure);
        return x;
    }

    private static void divisions() {
        tell(21, "Divides an instrument.");
        Checks.yes(1000, Works::pointed, x -> x.divide(0, 'l') > 0 ? x.readsAt(0, 135) : 0);
        // The bulb creeps by 6 thousandths at most, and all grows by 14 at least: steam is never lower than ice.
        tell(21, "Returns how many places there are from the point of ice to that of steam, below 0 if it is lower.");
        Checks.yes(85, Works::pointed, x -> x.divide(0, 'l'));
        Checks.yes(85, Works::pointed, x -> x.divide(0, 'v'));
        tell(22, "Returns what an instrument reads at a level.");
        Checks.yes(11, Works::divided, x -> x.readsAt(0, 51));
        // Neither the places of a broken thread nor the level that a keeper keeps.
        Checks.yes(11, Works::full, x -> x.readsAt(0, 51));
        tell(22, "Returns the temperature.");
        Checks.yes(-588, Works::divided, x -> x.readsAt(0, 0));
    }

    private static void baths() {
        tell(23, "Puts an instrument into a bath, dipped up to a place.");
        Checks.yes(1, Works::divided, x -> x.bath(0, 1000, 0) > 0 ? x.tests(0) : 0);
        tell(23, "Returns its reading.");
        Checks.yes(988, Works::divided, x -> x.bath(0, 1000, 0));
        Checks.yes(-305, Works::divided, x -> x.bath(0, -300, 200));
        tell(24, "Returns the error of the last reading.");
        Checks.yes(-3, Works::tested, x -> x.bath(0, 3, 200) == 0 ? x.error(0) : 0);
        Checks.yes(-4, () -> TermsOfReadings.withErrors(8, 7, -4), x -> x.error(0));
        Checks.yes(0, () -> TermsOfReadings.withErrors(8, 6, -4), x -> x.error(0));
        tell(24, "Returns the error.");
        Checks.yes(0, Works::tested, x -> x.error(0));
        tell(25, "Returns how many readings are kept.");
        Checks.yes(0, Works::divided, x -> x.tests(0));
        Checks.yes(3, Works::tested, x -> x.tests(0));
        tell(25, "Returns their number.");
        Meniscus x = Works.divided();
        for (int n = 1; n <= 10; n++) {
            x.bath(0, 0, 200);
            Checks.due("tests", Math.min(n, 8), () -> x.tests(0));
        }
        tell(26, "Begins a test.");
        Checks.yes(0, Works::tested, y -> y.begin(0) > 0 ? y.tests(0) : -1);
        tell(26, "Returns how many readings were kept.");
        Checks.due("begin", 8, () -> x.begin(0));
        Checks.due("begin", 0, () -> x.begin(0));
        Checks.yes(0, Works::made, y -> y.begin(0));
    }

    private static void worstAndMean() {
        tell(27, "Returns the greatest error, without its sign, of those that are kept.");
        Checks.yes(7, () -> TermsOfReadings.withErrors(4, 0, -7), x -> x.worst(0));
        Checks.yes(7, () -> TermsOfReadings.withErrors(4, 2, 7), x -> x.worst(0));
        tell(27, "Returns the error.");
        Checks.yes(0, Works::tested, x -> x.worst(0));
        tell(40, "Returns the mean error of the readings that are kept, with their signs.");
        Checks.yes(-2.25, () -> TermsOfReadings.withErrors(4, 0, -9), x -> x.meanError(0));
        Checks.yes(2.25, () -> TermsOfReadings.withErrors(4, 2, 9), x -> x.meanError(0));
        Checks.yes(0.0, Works::tested, x -> x.meanError(0));
        tell(40, "Returns the sum divided by their number, both converted to double.");
        Checks.yes(-1.0 / 3.0, () -> TermsOfReadings.withErrors(3, 0, -1), x -> x.meanError(0));
        Checks.yes(2.0 / 7.0, () -> TermsOfReadings.withErrors(7, 6, 2), x -> x.meanError(0));
        Checks.yes(-11.0, () -> TermsOfReadings.withErrors(1, 0, -11), x -> x.meanError(0));
    }

    private static void grades() {
        tell(28, "Returns the class.");
        Checks.yes('A', Works::tested, x -> x.grade(0));
        tell(28, "Returns 'A', 'B', 'C' or 'X'.");
        char[] due = {'A', 'A', 'B', 'B', 'C', 'C', 'X'};
        int[] errors = {0, 2, 3, 5, 6, 10, 11};
        for (int i = 0; i < errors.length; i++) {
            int error = errors[i];
            Checks.yes(due[i], () -> TermsOfReadings.withErrors(3, 2, error), x -> x.grade(0));
        }
    }

    private static void certificates() {
        tell(29, "Gives a certificate, in place of another one.");
        Meniscus x = Works.certified();
        x.days(100);
        x.certify(0);
        x.days(360);
        Checks.due("by the second one", true, () -> x.isCertified(0));
        x.days(1);
        Checks.due("a day behind", false, () -> x.isCertified(0));
        Checks.due("a third one", 821, () -> x.certify(0));
        Checks.due("by the third one", true, () -> x.isCertified(0));
        tell(29, "Returns the last day on which it holds.");
        Checks.yes(360, Works::tested, y -> y.certify(0));
        Checks.yes(121, () -> Works.tested('s'), y -> y.days(1) > 0 ? y.certify(0) : 0);
        tell(30, "Tells whether a certificate holds.");
        Checks.yes(true, Works::certified, y -> y.isCertified(0));
        Checks.yes(true, Works::certified, y -> y.begin(0) > 0 && y.isCertified(0));
        tell(30, "Returns true if so.");
        Checks.yes(false, Works::tested, y -> y.isCertified(0));
        Checks.yes(false, Works::made, y -> y.isCertified(0));
    }

    private static void brokenThreads() {
        tell(31, "Breaks a thread, in place of another break.");
        Checks.yes(11, Works::broken, x -> x.breakThread(0, 1) > 0 ? x.bath(0, 0, 200) : 0);
        Checks.yes(235, Works::broken, x -> x.breakThread(0, 20) > 0 ? x.bath(0, 0, 200) : 0);
        tell(31, "Returns the gap before, 0 for none.");
        Checks.yes(0, Works::filled, x -> x.breakThread(0, 20));
        Checks.yes(7, Works::broken, x -> x.breakThread(0, 20));
        Checks.yes(0, Works::broken, x -> x.bath(0, -200, 200) < 0 ? x.breakThread(0, 20) : -1);
        tell(32, "Tells whether a thread is broken.");
        Checks.yes(true, Works::broken, x -> x.isBroken(0));
        Checks.yes(true, Works::filled, x -> x.breakThread(0, 1) == 0 && x.isBroken(0));
        tell(32, "Returns true if so.");
        Checks.yes(false, Works::made, x -> x.isBroken(0));
        Checks.yes(false, Works::certified, x -> x.isBroken(0));
        Checks.yes(false, Works::broken, x -> x.bath(0, -200, 200) > 0 || x.isBroken(0));
    }

    private static void keepers() {
        tell(33, "Makes an instrument a keeper, or not; what it kept is gone.");
        String none = Checks.thrown(java.util.NoSuchElementException.class);
        Checks.yes(1000, Works::keeper, x -> x.bath(0, 0, 200));
        Checks.yes(0, Works::keeper, x -> x.keep(0, true) ? x.bath(0, 0, 200) : -1);
        Checks.yes(0, Works::keeper, x -> x.keep(0, false) ? x.bath(0, 0, 200) : -1);
        Checks.yes(none, Works::keeper, x -> x.keep(0, true) ? x.shake(0) : -1);
        Checks.yes(none, Works::keeper, x -> x.keep(0, false) && !x.keep(0, true) ? x.shake(0) : -1);
        tell(33, "Returns whether it was.");
        Checks.yes(false, Works::made, x -> x.keep(0, true));
        Checks.yes(false, Works::made, x -> x.keep(0, false));
        Checks.yes(true, Works::keeper, x -> x.keep(0, true));
        Checks.yes(true, Works::keeper, x -> x.keep(0, false));
        Checks.yes(false, Works::keeper, x -> x.keep(0, false) && x.keep(0, false));
        tell(34, "Shakes a keeper.");
        Checks.yes(0, Works::keeper, x -> x.shake(0) > 0 ? x.bath(0, 0, 200) : -1);
        Checks.yes(true, Works::keeper, x -> x.shake(0) > 0 && x.keep(0, true));
        tell(34, "Returns the greatest level that it had.");
        Checks.yes(135, Works::keeper, x -> x.shake(0));
        Checks.yes(135, Works::keeper, x -> x.bath(0, 0, 200) > 0 ? x.shake(0) : -1);
        Checks.yes(178, Works::keeper, x -> x.bath(0, 1500, 200) > 0 ? x.shake(0) : -1);
        Checks.yes(135, Works::full, x -> x.bath(0, 0, 200) > 0 ? x.shake(0) : -1);
    }

    private static void sums() {
        tell(35, "Puts a height right.");
        Checks.yes(7579, Works::fresh, x -> x.barometer(7600, 20, 9800, 5));
        tell(35, "Returns the height.");
        Checks.yes(6060, Works::fresh, x -> x.barometer(6000, 0, 9807, 1));
        tell(36, "Returns the stock of mercury.");
        Checks.yes(9500, Works::filled, Meniscus::stock);
        tell(36, "Returns how much.");
        Checks.yes(0, Works::fresh, Meniscus::stock);
        tell(37, "Returns how much mercury was spilt.");
        Checks.yes(50500, Works::smashed, Meniscus::spilt);
        tell(37, "Returns how much.");
        Checks.yes(0, Works::filled, Meniscus::spilt);
        Checks.yes(0, () -> Works.thin(10000, 'h', 's', 7), x -> x.smash(0) > 0 ? x.spilt() : -1);
    }

    private static void checksum() {
        tell(38, "Returns a sum over the works.");
        Checks.yes(sum(2000, 50500, 0, 0, 0, 0, 9500, 0), Works::tested, Meniscus::checksum);
        tell(38, "Returns 7 at first, then for each tube 31 times itself plus the volume up to 200;");
        Checks.yes(sum(0, 0), Works::fresh, Meniscus::checksum);
        Checks.yes(sum(410, 0, 0), Works::tube, Meniscus::checksum);
        Checks.yes(sum(200, 400, 600, 800, 1000, 1200, 1400, 1600, 0, 0), Works::eightTubes, Meniscus::checksum);
        tell(38, "then for each instrument 31 times itself plus what is in it, then 31 times itself plus what it has "
                + "crept,");
        Checks.yes(sum(2000, 0, 5, 60000, 1), Works::made, x -> x.days(1) > 0 ? x.checksum() : 0);
        Checks.yes(sum(2000, 50500, 5, 9500, 1), Works::filled, x -> x.days(1) > 0 ? x.checksum() : 0);
        tell(38, "then for each reading that is kept, the oldest one first, 31 times itself plus it;");
        Supplier<Meniscus> nine = () -> {
            Meniscus x = Works.divided();
            x.bath(0, 3, 200);
            x.bath(0, 1000, 200);
            x.bath(0, -300, 200);
            for (int n = 0; n < 5; n++) {
                x.bath(0, 0, 200);
            }
            x.bath(0, 1100, 200);
            return x;
        };
        Checks.yes(sum(2000, 50500, 0, 1000, -305, 0, 0, 0, 0, 0, 1105, 9500, 0), nine, Meniscus::checksum);
        Checks.yes(sum(2000, 50500, 0, 9500, 0), nine, x -> x.begin(0) > 0 ? x.checksum() : 0);
        tell(38, "then 31 times itself plus the stock, then 31 times itself plus the day.");
        Checks.yes(sum(99999, 0), Works::fresh, x -> x.buy(99999) > 0 ? x.checksum() : 0);
        Checks.yes(sum(0, 999), Works::fresh, x -> x.days(999) > 0 ? x.checksum() : 0);
    }

    /** It goes far around 2 to the 64th here. */
    private static void checksumOfAll() {
        tell(38, "Returns a sum over the works.");
        Meniscus x = Works.sixTested();
        for (int i = 0; i < 6; i++) {
            x.bath(i, 100 * i, 200);
            x.bath(i, -30, 200);
        }
        BigInteger sum = BigInteger.valueOf(7);
        for (int t = 0; t < 8; t++) {
            sum = next(sum, 200);
        }
        int[] readings = {0, 105, 200, 305, 400, 505};
        for (int i = 0; i < 6; i++) {
            sum = next(next(sum, 5020), 0);
            sum = next(next(next(sum, 0), 0), 0);
            sum = next(next(sum, readings[i]), -23);
        }
        sum = next(next(sum, 99999 - 6 * 5020), 0);
        Checks.due("checksum", sum.longValue(), x::checksum);
    }

    private static BigInteger next(BigInteger sum, int part) {
        return sum.multiply(BigInteger.valueOf(31)).add(BigInteger.valueOf(part));
    }

    private static long sum(int... parts) {
        BigInteger sum = BigInteger.valueOf(7);
        for (int part : parts) {
            sum = next(sum, part);
        }
        return sum.longValue();
    }

    private static void shares() {
        tell(39, "Returns the share of instruments whose certificate holds.");
        Meniscus x = Works.sixTested();
        Checks.due("none of 6", 0.0f, x::certifiedShare);
        for (int i = 0; i < 6; i++) {
            x.certify(i);
            x.days(1);
            float due = (float) (i + 1) / (float) 6;
            Checks.due((i + 1) + " of 6", due, x::certifiedShare);
        }
        x.smash(5);
        Checks.due("5 of 6, one smashed", (float) 5 / (float) 6, x::certifiedShare);
        x.days(354);
        Checks.due("on the last day of the first", (float) 5 / (float) 6, x::certifiedShare);
        x.days(1);
        Checks.due("a day behind", (float) 4 / (float) 6, x::certifiedShare);
        x.days(999);
        Checks.due("none of 6 any more", 0.0f, x::certifiedShare);
        tell(39, "Returns their number divided by that of all, both converted to float.");
        Checks.yes(1.0f, Works::certified, Meniscus::certifiedShare);
        Checks.yes(0.0f, Works::made, Meniscus::certifiedShare);
        Checks.yes((float) 1 / (float) 3, () -> {
            Meniscus y = Works.certified();
            for (int t = 1; t < 3; t++) {
                y.draw(1, 0);
                y.make(t, 1000, 's');
            }
            return y;
        }, Meniscus::certifiedShare);
    }

    /** Nothing that the face offers makes it false. */
    private static void sound() {
        tell(41, "Tells whether the stock, the mercury in instruments, and what was spilt are what was bought; bulbs have "
                + "crept from 0 to what they will; at most 8 readings are kept; and no tube is used twice.");
        Meniscus x = Works.sixDivided();
        x.smash(5);
        for (int n = 0; n < 10; n++) {
            for (int i = 0; i < 5; i++) {
                x.bath(i, n, 200);
            }
            x.days(n + 1);
            Checks.due("by day " + n, true, x::isSound);
        }
        x.days(999);
        x.buy(5);
        x.smash(0);
        Checks.due("behind all", true, x::isSound);
        Meniscus y = Works.wide('s');
        y.days(999);
        for (int n = 0; n < 10; n++) {
            y.bath(0, 3000, 0);
            Checks.due("heated", true, y::isSound);
        }
        tell(41, "Returns true if so.");
        Checks.yes(true, Works::fresh, Meniscus::isSound);
        Checks.yes(true, Works::full, Meniscus::isSound);
        Checks.yes(true, Works::sixMade, Meniscus::isSound);
        Checks.yes(true, () -> Works.thin(50000, 's', 's', 200), Meniscus::isSound);
    }
}
