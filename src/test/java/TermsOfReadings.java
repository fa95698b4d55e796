import java.util.NoSuchElementException;
import java.util.function.Supplier;

/** The terms of points, readings, baths, heat, barometers and mercury, sentence by sentence. */
final class TermsOfReadings {
    private static final Class<IllegalArgumentException> ARGUMENT = IllegalArgumentException.class;
    private static final Class<UnsupportedOperationException> UNSUPPORTED = UnsupportedOperationException.class;
    private static final Class<NoSuchElementException> NONE = NoSuchElementException.class;

    private TermsOfReadings() {
    }

    static void all() {
        pointOfIce();
        pointOfSteam();
        dippedWholly();
        divisions();
        pointsAnew();
        readingsByLength();
        readingsByVolume();
        brokenThreads();
        joinedThreads();
        keepers();
        brokenThreadsOfKeepers();
        baths();
        readingsThatAreKept();
        testsAnew();
        classes();
        certificates();
        lastDays();
        certificatesHeatedOrSmashed();
        heat();
        barometerOfDegrees();
        barometerOfGravityAndBore();
        mercury();
        smashedOnes();
    }

    private static void pointOfIce() {
        Document.tell("Points", "The point of ice is the level at 0.");
        for (int place : new int[] {0, 1, 50, 200}) {
            Checks.yes(place, () -> Works.thin(10000, 'h', 's', place), x -> x.ice(0));
        }
        Meniscus x = Works.thin(10000, 's', 's', 100);
        x.days(2);
        Checks.due("ice, crept by 6", 106, () -> x.ice(0));
    }

    private static void pointOfSteam() {
        Document.tell("Points", "Steam has, by a pressure of 700 to 800,");
        Checks.range(700, 800, ARGUMENT, Works::fresh, (x, pressure) -> x.boiling(pressure));
        Checks.range(700, 800, ARGUMENT, Works::filled, (x, pressure) -> x.steam(0, pressure));

        Document.tell("Points", "a temperature of 1000 and 37 hundredths, cut towards 0, of the pressure less 760;");
        int[][] rows = {{700, 978}, {701, 979}, {730, 989}, {757, 999}, {758, 1000}, {759, 1000}, {760, 1000},
            {761, 1000}, {762, 1000}, {763, 1001}, {765, 1001}, {766, 1002}, {799, 1014}, {800, 1014}};
        for (int[] row : rows) {
            Checks.yes(row[1], Works::fresh, x -> x.boiling(row[0]));
            Checks.yes(row[1], Works::filled, x -> x.steam(0, row[0]));
        }

        Document.tell("Points", "the point of steam is the level at that.");
        int[][] places = {{700, 84}, {760, 85}, {800, 87}};
        for (int[] row : places) {
            Checks.yes(row[1], Works::divided, x -> x.steam(0, row[0]) > 0 ? x.divide(0, 'l') : 0);
        }
    }

    private static void dippedWholly() {
        Document.tell("Points", "Dipped wholly for both.");
        for (int air : new int[] {-300, 200, 3000}) {
            Meniscus x = Works.thin(10000, 'h', 's', 100);
            x.air(air);
            Checks.due("ice, air of " + air, 100, () -> x.ice(0));
            Meniscus y = Works.filled();
            y.air(air);
            y.ice(0);
            y.steam(0, 760);
            Checks.due("places, air of " + air, 85, () -> y.divide(0, 'l'));
        }
    }

    private static void divisions() {
        Document.tell("Points", "An instrument with both, unlike, can be divided");
        Checks.yes(85, Works::pointed, x -> x.divide(0, 'l'));
        Checks.no(UNSUPPORTED, Works::made, x -> x.divide(0, 'l'));
        Checks.no(UNSUPPORTED, Works::filled, x -> x.divide(0, 'l'));
        Checks.no(UNSUPPORTED, () -> with(Works.filled(), 'i'), x -> x.divide(0, 'l'));
        Checks.no(UNSUPPORTED, () -> with(Works.filled(), 's'), x -> x.divide(0, 'l'));
        // 1000 of mercury are 17 more at 1000: of 18 for a place none, of 17 for a place one.
        Checks.no(UNSUPPORTED, () -> small(18), x -> x.divide(0, 'l'));
        Checks.no(UNSUPPORTED, () -> small(18), x -> x.divide(0, 'v'));
        Checks.yes(1, () -> small(17), x -> x.divide(0, 'l'));
        Checks.yes(1, () -> small(17), x -> x.divide(0, 'v'));
        Checks.yes(1000, () -> small(17), x -> x.divide(0, 'l') > 0 ? x.readsAt(0, 1) : 0);
        Checks.yes(200000, () -> small(17), x -> x.divide(0, 'v') > 0 ? x.readsAt(0, 200) : 0);

        Document.tell("Points", "by 'l' length or 'v' volume,");
        Checks.kinds("lv", Works::pointed, (x, kind) -> x.divide(0, kind));
        Checks.yes(357, () -> uneven('l'), x -> x.readsAt(0, 60));
        Checks.yes(400, () -> uneven('v'), x -> x.readsAt(0, 60));

        Document.tell("Points", "also anew;");
        Meniscus x = uneven('l');
        Checks.due("divide by volume", 140, () -> x.divide(0, 'v'));
        Checks.due("readsAt by volume", 400, () -> x.readsAt(0, 60));
        Checks.due("divide by length", 140, () -> x.divide(0, 'l'));
        Checks.due("readsAt by length", 357, () -> x.readsAt(0, 60));
        Checks.due("divide by length again", 140, () -> x.divide(0, 'l'));
        Checks.due("readsAt by length again", 357, () -> x.readsAt(0, 60));
    }

    /** Takes the point of ice or of steam. */
    private static Meniscus with(Meniscus x, char point) {
        if (point == 'i') {
            x.ice(0);
        } else {
            x.steam(0, 760);
        }
        return x;
    }

    /** Its points are 0 and 17 of a tube of that bore. */
    private static Meniscus small(int bore) {
        Meniscus x = new Meniscus();
        x.draw(bore, 0);
        x.make(0, 1000, 'h');
        x.buy(1000);
        x.fill(0, 'm', 0);
        x.ice(0);
        x.steam(0, 760);
        return x;
    }

    /** 2 for a step, but 4 from 50 to 60; its points are 10 and 150, and the volumes up to them 20 and 320. */
    private static Meniscus uneven(char kind) {
        Meniscus x = new Meniscus();
        x.draw(2, 0);
        x.section(0, 5, 4);
        x.make(0, 20000, 's');
        x.buy(50000);
        x.fill(0, 'm', 10);
        x.ice(0);
        x.steam(0, 760);
        x.divide(0, kind);
        return x;
    }

    private static void pointsAnew() {
        Document.tell("Points", "a point that is taken anew ends its division.");
        for (char point : new char[] {'i', 's'}) {
            Supplier<Meniscus> setup = () -> with(Works.divided(), point);
            Checks.no(UNSUPPORTED, setup, x -> x.readsAt(0, 50));
            Checks.no(UNSUPPORTED, setup, x -> x.bath(0, 0, 200));
            Checks.yes(85, setup, x -> x.divide(0, 'l'));
            Meniscus x = setup.get();
            x.divide(0, 'v');
            Checks.due("readsAt, divided anew", 1000, () -> x.readsAt(0, 135));
        }
        Meniscus x = Works.sixDivided();
        x.ice(2);
        Checks.due("readsAt of another one", 1000, () -> x.readsAt(3, 105));
        Checks.due("a pressure that is refused", Checks.thrown(ARGUMENT), () -> x.steam(3, 801));
        Checks.due("readsAt behind that", 1000, () -> x.readsAt(3, 105));
        // From 110 to 196; by a creep of 10 there is no point of steam any more.
        Meniscus y = Works.thin(5000, 'h', 'm', 110);
        y.ice(0);
        y.steam(0, 760);
        y.divide(0, 'l');
        y.days(999);
        Checks.due("steam without a level", Checks.thrown(NONE), () -> y.steam(0, 760));
        Checks.due("readsAt behind that", 1000, () -> y.readsAt(0, 196));
        Meniscus z = Works.sunken();
        Checks.due("ice without a level", Checks.thrown(NONE), () -> z.ice(0));
        Checks.due("readsAt behind that", 1000, () -> z.readsAt(0, 37));
    }

    private static void readingsByLength() {
        Document.tell("Readings", "An instrument that is divided reads of a level: the temperature of steam as the point "
                + "was taken,");
        int[][] rows = {{700, 978, 134}, {760, 1000, 135}, {800, 1014, 137}};
        for (int[] row : rows) {
            Supplier<Meniscus> setup = () -> {
                Meniscus x = Works.filled();
                x.steam(0, row[0]);
                x.ice(0);
                x.divide(0, 'l');
                x.boiling(750);
                return x;
            };
            Checks.yes(row[1], setup, x -> x.readsAt(0, row[2]));
            Checks.yes(row[1], setup, x -> x.bath(0, row[1], 200));
        }
        Checks.no(UNSUPPORTED, Works::pointed, x -> x.readsAt(0, 50));

        Document.tell("Readings", "times how far the level is above the point of ice, divided by how far the point of "
                + "steam is, cut towards 0;");
        int[][] places = {{0, -588}, {48, -23}, {49, -11}, {50, 0}, {51, 11}, {52, 23}, {134, 988}, {135, 1000},
            {136, 1011}, {200, 1764}};
        for (int[] place : places) {
            Checks.yes(place[1], Works::divided, x -> x.readsAt(0, place[0]));
        }
        Document.tell("Readings", "Its error is that less the temperature.");
        Checks.yes(-12, Works::divided, x -> x.bath(0, 1000, 0) == 988 ? x.error(0) : null);
        Checks.yes(5, Works::divided, x -> x.bath(0, 1100, 200) == 1105 ? x.error(0) : null);
        Checks.yes(-9, Works::divided, x -> x.bath(0, -2, 200) == -11 ? x.error(0) : null);
        Checks.yes(0, Works::divided, x -> x.bath(0, 0, 200) == 0 ? x.error(0) : null);
    }

    private static void readingsByVolume() {
        Document.tell("Readings", "by 'v' how far in volumes.");
        int[][] places = {{0, -66}, {9, -6}, {10, 0}, {11, 6}, {50, 266}, {51, 280}, {60, 400}, {61, 406}, {150, 1000},
            {200, 1333}};
        for (int[] place : places) {
            Checks.yes(place[1], () -> uneven('v'), x -> x.readsAt(0, place[0]));
        }
        // Half of the volume between is at 75.
        Checks.yes(500, () -> uneven('v'), x -> x.readsAt(0, 75));
        Checks.yes(464, () -> uneven('l'), x -> x.readsAt(0, 75));
    }

    private static void brokenThreads() {
        Document.tell("Readings", "A thread that was broken, which is of no meaning for points and levels,");
        Checks.yes(50, Works::broken, x -> x.level(0, 0, 200));
        Checks.yes(134, Works::broken, x -> x.level(0, 1000, 0));
        Checks.yes(50, Works::broken, x -> x.ice(0));
        Checks.yes(85, Works::broken, x -> x.ice(0) + x.steam(0, 760) > 0 ? x.divide(0, 'l') : 0);

        Document.tell("Readings", "reads at a level that is 1 to 20 places more, as told,");
        Checks.range(1, 20, ARGUMENT, Works::divided, (x, gap) -> x.breakThread(0, gap));
        int[][] gaps = {{1, 11}, {2, 23}, {7, 82}, {19, 223}, {20, 235}};
        for (int[] gap : gaps) {
            Checks.yes(gap[1], () -> brokenBy(gap[0]), x -> x.bath(0, 0, 200));
        }

        Document.tell("Readings", "200 at most,");
        // At 1600 it stands at 187.
        int[][] high = {{11, 1741}, {12, 1752}, {13, 1764}, {14, 1764}, {20, 1764}};
        for (int[] gap : high) {
            Checks.yes(gap[1], () -> brokenBy(gap[0]), x -> x.bath(0, 1600, 200));
        }
    }

    private static Meniscus brokenBy(int gap) {
        Meniscus x = Works.divided();
        x.breakThread(0, gap);
        return x;
    }

    private static void joinedThreads() {
        Document.tell("Readings", "until it is joined by a bath of -200 or colder in which it has a level, ahead of its "
                + "reading.");
        Checks.yes(-129, Works::broken, x -> x.bath(0, -199, 200));
        Checks.yes(-211, Works::broken, x -> x.bath(0, -200, 200));
        Checks.yes(-211, Works::broken, x -> x.bath(0, -201, 200));
        for (int temperature : new int[] {-199, 0, 1500, -200, -201, -300}) {
            Meniscus x = Works.broken();
            x.bath(0, temperature, 200);
            Checks.due("isBroken behind " + temperature, temperature > -200, () -> x.isBroken(0));
            Checks.due("reading behind " + temperature, temperature > -200 ? 82 : 0, () -> x.bath(0, 0, 200));
        }
        // It stands at 10 at 0, and has no level at -200.
        Meniscus x = PointsTest.even();
        x.ice(0);
        x.steam(0, 760);
        x.divide(0, 'l');
        x.breakThread(0, 3);
        Checks.due("a bath without a level", Checks.thrown(NONE), () -> x.bath(0, -200, 200));
        Checks.due("isBroken behind that", true, () -> x.isBroken(0));
        Checks.due("a level at -10", 1, () -> x.level(0, -100, 200));
        Checks.due("isBroken behind that", true, () -> x.isBroken(0));
        // Points and levels at -200 join nothing.
        Meniscus y = Works.broken();
        y.level(0, -200, 200);
        y.air(-300);
        Checks.due("isBroken behind a level", true, () -> y.isBroken(0));
    }

    private static void keepers() {
        Document.tell("Readings", "A keeper reads at the greatest level that it had in a bath since it was made one or "
                + "shaken, this one included;");
        Meniscus x = Works.divided();
        x.bath(0, 1500, 200);
        x.keep(0, true);
        Checks.due("the first bath", 0, () -> x.bath(0, 0, 200));
        Checks.due("a greater one", 1000, () -> x.bath(0, 1000, 200));
        Checks.due("a less one", 1000, () -> x.bath(0, 999, 200));
        Checks.due("a cold one", 1000, () -> x.bath(0, -300, 200));
        Checks.due("its error", 1300, () -> x.error(0));
        Checks.due("a greater one", 1011, () -> x.bath(0, 1012, 200));
        Checks.due("a bath that is refused", Checks.thrown(NONE), () -> x.bath(0, 3000, 200));
        Checks.due("a level is no bath", 178, () -> x.level(0, 1500, 200));
        Checks.due("a less one", 1011, () -> x.bath(0, 0, 200));
        Checks.due("readsAt is of the level that is told", 0, () -> x.readsAt(0, 50));
        Checks.due("shake", 136, () -> x.shake(0));
        Checks.due("a cold one", -305, () -> x.bath(0, -300, 200));
        Checks.due("a greater one, out in the air", 988, () -> x.bath(0, 1000, 0));
        Checks.due("keep", true, () -> x.keep(0, true));
        Checks.due("a less one", 0, () -> x.bath(0, 0, 200));
        x.bath(0, 1000, 200);
        x.keep(0, false);
        Checks.due("no keeper", 0, () -> x.bath(0, 0, 200));
        x.keep(0, true);
        Checks.due("a keeper again", 0, () -> x.bath(0, 0, 200));
        // A level of 0 is a level that is kept.
        Meniscus y = Works.wide('s');
        y.keep(0, true);
        y.bath(0, 0, 200);
        Checks.due("shake, 0", 0, () -> y.shake(0));
        Checks.due("shake, none", Checks.thrown(NONE), () -> y.shake(0));
    }

    private static void brokenThreadsOfKeepers() {
        Document.tell("Readings", "the places of a broken thread are added to that.");
        Meniscus x = Works.keeper();
        x.breakThread(0, 7);
        Checks.due("bath, 142", 1082, () -> x.bath(0, 0, 200));
        Checks.due("bath, no more than 142", 1082, () -> x.bath(0, 500, 200));
        Checks.due("shake, without those", 135, () -> x.shake(0));
        Checks.due("bath, 57", 82, () -> x.bath(0, 0, 200));
        Checks.due("shake, without those", 50, () -> x.shake(0));
        x.bath(0, 1600, 200);
        x.breakThread(0, 20);
        Checks.due("bath, 200 at most", 1764, () -> x.bath(0, 0, 200));
        Checks.due("bath, joined, 187", 1611, () -> x.bath(0, -200, 200));
        Checks.due("shake, 187", 187, () -> x.shake(0));
    }

    private static void baths() {
        Document.tell("Baths", "A bath has a temperature; an instrument is put into it up to a place, and answers its "
                + "reading.");
        int[][] rows = {{1000, 200, 1000}, {1000, 135, 1000}, {1000, 100, 1000}, {1000, 60, 988}, {1000, 0, 988},
            {-300, 200, -305}, {0, 0, 0}, {500, 200, 494}};
        for (int[] row : rows) {
            Checks.yes(row[2], Works::divided, x -> x.bath(0, row[0], row[1]));
        }
    }

    private static void readingsThatAreKept() {
        Document.tell("Baths", "Its last 8 readings are kept with their temperatures, the oldest one being lost "
                + "otherwise;");
        Meniscus x = Works.divided();
        x.bath(0, 1000, 0);
        for (int n = 1; n <= 7; n++) {
            x.bath(0, n, 200);
        }
        Checks.due("tests", 8, () -> x.tests(0));
        Checks.due("worst, the oldest of 8", 12, () -> x.worst(0));
        Checks.due("meanError of 8", -5.0, () -> x.meanError(0));
        x.bath(0, 0, 200);
        Checks.due("tests", 8, () -> x.tests(0));
        Checks.due("worst, the oldest lost", 7, () -> x.worst(0));
        Checks.due("meanError of 1 to 7, and 0", -3.5, () -> x.meanError(0));
        Checks.due("error of the last", 0, () -> x.error(0));
        x.bath(0, -300, 200);
        Checks.due("meanError of 2 to 7, 0 and 5", -4.0, () -> x.meanError(0));
        for (int n = 0; n < 6; n++) {
            x.bath(0, 0, 200);
        }
        Checks.due("worst, still there", 5, () -> x.worst(0));
        x.bath(0, 0, 200);
        Checks.due("worst, the eighth of them", 5, () -> x.worst(0));
        x.bath(0, 0, 200);
        Checks.due("worst, lost", 0, () -> x.worst(0));
        Checks.due("a bath that is refused", Checks.thrown(NONE), () -> x.bath(0, 3000, 200));
        Checks.due("tests", 8, () -> x.tests(0));
    }

    private static void testsAnew() {
        Document.tell("Baths", "a test begins them anew.");
        Meniscus x = Works.divided();
        for (int n = 0; n < 9; n++) {
            x.bath(0, 11, 200);
        }
        x.begin(0);
        Checks.due("tests", 0, () -> x.tests(0));
        Checks.due("error", Checks.thrown(NONE), () -> x.error(0));
        x.bath(0, 1, 200);
        x.bath(0, 1, 200);
        Checks.due("tests", 2, () -> x.tests(0));
        Checks.due("worst", 1, () -> x.worst(0));
        Checks.due("grade", Checks.thrown(UNSUPPORTED), () -> x.grade(0));
        x.bath(0, 1, 200);
        Checks.due("meanError", -1.0, () -> x.meanError(0));
        Checks.due("grade", 'A', () -> x.grade(0));
    }

    private static void classes() {
        Document.tell("Baths", "It has a class by the greatest error in them, without its sign,");
        for (int at = 0; at < 8; at++) {
            for (int error : new int[] {-6, 6}) {
                int place = at;
                Checks.yes('C', () -> withErrors(8, place, error), x -> x.grade(0));
            }
        }
        Meniscus lost = withErrors(3, 0, -11);
        for (int n = 0; n < 6; n++) {
            lost.bath(0, 0, 200);
        }
        Checks.due("grade, the greatest one lost", 'A', () -> lost.grade(0));

        Document.tell("Baths", "if there are 3 or more:");
        Checks.no(UNSUPPORTED, Works::divided, x -> x.grade(0));
        Checks.no(UNSUPPORTED, () -> withErrors(1, 0, 0), x -> x.grade(0));
        Checks.no(UNSUPPORTED, () -> withErrors(2, 0, 0), x -> x.grade(0));
        Checks.yes('A', () -> withErrors(3, 0, 0), x -> x.grade(0));
        Checks.yes('A', () -> withErrors(4, 0, 0), x -> x.grade(0));

        Document.tell("Baths", "'A' up to 2, 'B' up to 5, 'C' up to 10, 'X' above.");
        char[] due = {'A', 'A', 'A', 'B', 'B', 'B', 'C', 'C', 'C', 'C', 'C', 'X'};
        for (int error = 0; error <= 11; error++) {
            int above = error;
            Checks.yes(due[error], () -> withErrors(3, 1, above), x -> x.grade(0));
            Checks.yes(due[error], () -> withErrors(3, 1, -above), x -> x.grade(0));
        }
        Checks.yes('X', () -> Works.wide('h'), x -> x.bath(0, 3000, 0) + x.bath(0, 0, 0) + x.bath(0, 0, 0) > 0
                ? x.grade(0) : ' ');
    }

    /** So many readings, all without an error but the one told, counted from 0, with an error of -11 to 11. */
    static Meniscus withErrors(int readings, int at, int error) {
        Meniscus x = Works.divided();
        for (int n = 0; n < readings; n++) {
            if (n == at && error > 0) {
                x.breakThread(0, 1);
            }
            // From 0 to 11 it reads 0, and 11 if it is broken.
            int right = n >= at && error > 0 ? 11 : 0;
            x.bath(0, n == at ? right - error : right, 200);
        }
        return x;
    }

    private static void certificates() {
        Document.tell("Baths", "A certificate is given for a class but 'X', with the day;");
        int[] errors = {0, 2, 3, 5, 6, 10};
        for (int error : errors) {
            Checks.yes(360, () -> withErrors(3, 0, error), x -> x.certify(0));
            Checks.yes(360, () -> withErrors(3, 0, -error), x -> x.certify(0));
        }
        Checks.no(UNSUPPORTED, () -> withErrors(3, 0, 11), x -> x.certify(0));
        Checks.no(UNSUPPORTED, () -> withErrors(3, 0, -11), x -> x.certify(0));
        for (char glass : new char[] {'h', 's'}) {
            Meniscus x = Works.tested(glass);
            int days = glass == 'h' ? 360 : 120;
            x.days(7);
            Checks.due("certify on day 7", 7 + days, () -> x.certify(0));
            x.days(999);
            Checks.due("certify on day 1006", 1006 + days, () -> x.certify(0));
            Checks.due("isCertified", true, () -> x.isCertified(0));
        }
    }

    private static void lastDays() {
        Document.tell("Baths", "it holds up to the day that is 360 later for hard, 120 for soft glass, that last day "
                + "included,");
        for (char glass : new char[] {'h', 's'}) {
            int last = glass == 'h' ? 360 : 120;
            Meniscus x = Works.certified(glass);
            Checks.due("on the first day", true, () -> x.isCertified(0));
            x.days(last - 1);
            Checks.due("a day ahead of the last", true, () -> x.isCertified(0));
            x.days(1);
            Checks.due("on the last day", true, () -> x.isCertified(0));
            x.days(1);
            Checks.due("a day behind", false, () -> x.isCertified(0));
            x.days(999);
            Checks.due("long behind", false, () -> x.isCertified(0));
        }
        Meniscus x = Works.tested();
        for (int n = 0; n < 10; n++) {
            x.days(999);
        }
        x.days(9);
        Checks.due("a last day beyond all days", 10359, () -> x.certify(0));
        Checks.due("on the day 9999", true, () -> x.isCertified(0));
    }

    private static void certificatesHeatedOrSmashed() {
        Document.tell("Baths", "but no more as soon as the bulb was heated above 2000 by a bath, or smashed.");
        for (char glass : new char[] {'h', 's'}) {
            Checks.yes(true, () -> Works.wideCertified(glass), x -> x.bath(0, 2000, 200) > 0 && x.isCertified(0));
            Checks.yes(false, () -> Works.wideCertified(glass), x -> x.bath(0, 2001, 200) < 0 || x.isCertified(0));
            Checks.yes(false, () -> Works.wideCertified(glass), x -> x.bath(0, 3000, 0) < 0 || x.isCertified(0));
            Checks.yes(true, () -> Works.wideCertified(glass), x -> x.level(0, 3000, 200) > 0 && x.isCertified(0));
            Checks.yes(false, () -> Works.wideCertified(glass), x -> x.smash(0) < 0 || x.isCertified(0));
        }
        Meniscus refused = Works.certified();
        Checks.due("a bath without a level", Checks.thrown(NONE), () -> refused.bath(0, 3000, 200));
        Checks.due("a bath that is refused", Checks.thrown(ARGUMENT), () -> refused.bath(0, 3000, 201));
        Checks.due("isCertified behind that", true, () -> refused.isCertified(0));
        Meniscus cooled = Works.wideCertified('h');
        cooled.bath(0, 2001, 200);
        cooled.bath(0, 0, 200);
        Checks.due("isCertified, cold again", false, () -> cooled.isCertified(0));
        Meniscus smashed = Works.smashed();
        Checks.due("certify behind a smash", 360, () -> smashed.certify(0));
        Checks.due("isCertified behind that", false, () -> smashed.isCertified(0));
    }

    private static void heat() {
        Document.tell("Heat", "By a bath above 2000 what a bulb has crept is halved, cut, behind the reading.");
        Supplier<Meniscus> crept = () -> {
            Meniscus x = Works.wide('s');
            x.days(2);
            return x;
        };
        Checks.yes(30, crept, x -> x.bath(0, 2000, 200) > 0 ? x.crept(0) : -1);
        Checks.yes(15, crept, x -> x.bath(0, 2001, 200) > 0 ? x.crept(0) : -1);
        Checks.yes(15, crept, x -> x.bath(0, 3000, 0) > 0 ? x.crept(0) : -1);
        Checks.yes(30, crept, x -> x.level(0, 3000, 200) > 0 ? x.crept(0) : -1);
        // 1800 and 30 less 300 are 76 places; 15 of it less would be 75.
        Checks.yes(2054, crept, x -> x.bath(0, 2001, 200));
        Meniscus x = crept.get();
        x.bath(0, 2001, 200);
        Checks.due("a bath behind the halving", 2027, () -> x.bath(0, 2001, 200));
        for (int due : new int[] {7, 3, 1, 0, 0}) {
            Checks.due("crept", due, () -> x.crept(0));
            x.bath(0, 2500, 200);
        }
        x.days(1);
        Checks.due("crept, by a day anew", 15, () -> x.crept(0));
        Meniscus y = Works.divided();
        y.days(1);
        Checks.due("a bath without a level", Checks.thrown(NONE), () -> y.bath(0, 3000, 200));
        Checks.due("crept behind that", 5, () -> y.crept(0));
    }

    private static void barometer(int height, int degrees, int gravity, int bore, int due) {
        Checks.yes(due, Works::fresh, x -> x.barometer(height, degrees, gravity, bore));
    }

    private static void barometerOfDegrees() {
        Document.tell("Barometers", "A height, 6000 to 8000, in tenths, is put right once:");
        Checks.range(6000, 8000, ARGUMENT, Works::fresh, (x, height) -> x.barometer(height, 0, 9807, 1));
        barometer(6000, 0, 9807, 60, 6001);
        barometer(8000, 0, 9807, 60, 8001);

        Document.tell("Barometers", "less 18 hundred-thousandths of it for each degree, -20 to 40, cut towards 0;");
        Checks.range(-20, 40, ARGUMENT, Works::fresh, (x, degrees) -> x.barometer(7600, degrees, 9807, 1));
        barometer(7600, 0, 9807, 60, 7601);
        barometer(7600, 20, 9807, 60, 7574);
        barometer(7600, -20, 9807, 60, 7628);
        barometer(6000, 1, 9807, 60, 6000);
        barometer(6000, -1, 9807, 60, 6002);
        barometer(8000, 25, 9807, 60, 7965);
        barometer(8000, 40, 9807, 60, 7944);
        // 33.99984 less.
        barometer(6746, 28, 9807, 60, 6714);
        barometer(7999, 40, 9807, 60, 7943);
    }

    private static void barometerOfGravityAndBore() {
        Document.tell("Barometers", "then times the gravity, 9780 to 9832, divided by 9807, cut;");
        Checks.range(9780, 9832, ARGUMENT, Works::fresh, (x, gravity) -> x.barometer(7600, 0, gravity, 1));
        barometer(7600, 0, 9780, 60, 7580);
        barometer(7600, 0, 9806, 60, 7600);
        barometer(7600, 0, 9808, 60, 7601);
        barometer(7600, 0, 9832, 60, 7620);
        // First by the degrees: 7025 by 9800 are 7019.99; the other way round it would be one more.
        barometer(7000, -20, 9800, 60, 7020);
        barometer(7000, -7, 9800, 60, 7003);

        Document.tell("Barometers", "then 60 divided by the bore, 1 to 60, cut, more.");
        Checks.range(1, 60, ARGUMENT, Works::fresh, (x, bore) -> x.barometer(7600, 0, 9807, bore));
        int[][] bores = {{1, 60}, {2, 30}, {7, 8}, {8, 7}, {29, 2}, {30, 2}, {31, 1}, {59, 1}, {60, 1}};
        for (int[] bore : bores) {
            barometer(7600, 0, 9807, bore[0], 7600 + bore[1]);
            // It is added behind the gravity.
            barometer(7600, 0, 9780, bore[0], 7579 + bore[1]);
        }
    }

    private static void mercury() {
        Document.tell("Terms", "Mercury is bought;");
        Meniscus x = Works.sixMade();
        Checks.due("buy", 100000, () -> x.buy(1));
        Checks.due("stock", 100000, x::stock);

        Document.tell("Terms", "what is in instruments comes from the stock;");
        x.fill(0, 'm', 0);
        Checks.due("stock", 95000, x::stock);
        x.fill(1, 's', 0);
        Checks.due("stock, spirit is none", 95000, x::stock);
        Supplier<Meniscus> scarce = () -> {
            Meniscus y = Works.tube();
            y.make(0, 1000, 'h');
            y.buy(1100);
            return y;
        };
        Checks.yes(1100, scarce, y -> y.fill(0, 'm', 50));
        Checks.yes(0, scarce, y -> y.fill(0, 'm', 50) > 0 ? y.stock() : -1);
        Checks.no(UNSUPPORTED, scarce, y -> y.fill(0, 'm', 51));
        Checks.yes(1103, scarce, y -> y.fill(0, 's', 51));

        Document.tell("Terms", "mercury in one that is smashed is spilt;");
        x.smash(0);
        Checks.due("spilt", 5000, x::spilt);
        Checks.due("stock", 95000, x::stock);
        x.smash(1);
        x.smash(2);
        Checks.due("spilt, of spirit and of nothing", 5000, x::spilt);
        x.fill(3, 'm', 1);
        x.smash(3);
        Checks.due("spilt, of two", 10001, x::spilt);
        Checks.due("stock", 89999, x::stock);
    }

    private static void smashedOnes() {
        Document.tell("Terms", "it is not filled any more,");
        Checks.yes(0, Works::smashed, x -> x.inside(0));
        Checks.no(UNSUPPORTED, Works::smashed, x -> x.level(0, 0, 200));
        Checks.no(UNSUPPORTED, Works::smashed, x -> x.ice(0));
        Checks.no(UNSUPPORTED, Works::smashed, x -> x.steam(0, 760));
        Checks.no(UNSUPPORTED, Works::smashed, x -> x.divide(0, 'l'));
        Checks.no(UNSUPPORTED, Works::smashed, x -> x.bath(0, 0, 200));
        Checks.no(UNSUPPORTED, Works::smashed, x -> x.breakThread(0, 1));
        Checks.no(UNSUPPORTED, Works::smashed, x -> x.fill(0, 'm', 50));

        Document.tell("Terms", "but it stays divided,");
        Checks.yes(1000, Works::smashed, x -> x.readsAt(0, 135));
        Checks.yes(-588, Works::smashed, x -> x.readsAt(0, 0));

        Document.tell("Terms", "and its readings are kept.");
        Meniscus x = Works.divided();
        for (int n = 0; n < 3; n++) {
            x.bath(0, n, 200);
        }
        x.smash(0);
        Checks.due("tests", 3, () -> x.tests(0));
        Checks.due("error", -2, () -> x.error(0));
        Checks.due("worst", 2, () -> x.worst(0));
        Checks.due("meanError", -1.0, () -> x.meanError(0));
        Checks.due("grade", 'A', () -> x.grade(0));
        Checks.due("begin", 3, () -> x.begin(0));
        Checks.due("tests", 0, () -> x.tests(0));
    }
}
