import java.util.NoSuchElementException;

/** The terms of tubes, instruments, levels and burettes, sentence by sentence. */
final class TermsOfGlass {
    private static final Class<IndexOutOfBoundsException> INDEX = IndexOutOfBoundsException.class;
    private static final Class<IllegalArgumentException> ARGUMENT = IllegalArgumentException.class;
    private static final Class<UnsupportedOperationException> UNSUPPORTED = UnsupportedOperationException.class;
    private static final Class<IllegalStateException> STATE = IllegalStateException.class;
    private static final Class<NoSuchElementException> NONE = NoSuchElementException.class;

    private TermsOfGlass() {
    }

    static void all() {
        object();
        correctionsOnce();
        tubes();
        boresOfATube();
        volumesAndThreads();
        instruments();
        whatItWillCreep();
        creepOfEachDay();
        creepAtFirst();
        fills();
        temperatures();
        growth();
        growthCut();
        restAndCreep();
        greatestPlace();
        noLevel();
        outInTheAir();
        outInTheAirCut();
        levelTakenAgain();
        burettes();
    }

    private static void object() {
        Document.tell("An object is used", "An object is used for at most 512 calls after it has been made; "
                + "what later calls answer is free.");
        Meniscus x = Works.tube();
        for (int call = 3; call < 512; call++) {
            x.volume(0, call % 201);
        }
        Checks.due("the call 512", 410, () -> x.volume(0, 200));
    }

    private static void correctionsOnce() {
        Document.tell("Terms", "A correction is applied once.");
        Meniscus x = Works.filled();
        for (int n = 0; n < 3; n++) {
            Checks.due("level, of the stem", 134, () -> x.level(0, 1000, 0));
            Checks.due("barometer", 7579, () -> x.barometer(7600, 20, 9800, 5));
        }
        Checks.due("level, wholly dipped behind that", 135, () -> x.level(0, 1000, 200));
        // Nothing that an answer could tell.
        Document.tell("Terms", "The class is not thread-safe.");
    }

    private static void tubes() {
        Document.tell("Tubes", "At most 8 are numbered from 0,");
        Meniscus x = new Meniscus();
        for (int number = 0; number < 8; number++) {
            Checks.due("draw", number, () -> x.draw(1, 0));
        }
        Checks.due("draw, a ninth", Checks.thrown(STATE), () -> x.draw(1, 0));
        Checks.due("bore of the last", 1, () -> x.bore(7, 0));
        Checks.due("bore of a ninth", Checks.thrown(INDEX), () -> x.bore(8, 0));

        Document.tell("Tubes", "each of 20 sections, numbered from 0,");
        Checks.range(0, 19, ARGUMENT, Works::tube, (y, section) -> y.bore(0, section));
        Checks.range(0, 19, ARGUMENT, Works::tube, (y, section) -> y.section(0, section, 7));

        Document.tell("Tubes", "of 10 steps each;");
        Checks.yes(100, Works::tube, y -> y.volume(0, 50));
        Checks.yes(103, Works::tube, y -> y.volume(0, 51));
        Checks.yes(130, Works::tube, y -> y.volume(0, 60));
        Checks.yes(132, Works::tube, y -> y.volume(0, 61));

        Document.tell("Tubes", "its places are 0 at the bulb up to 200.");
        Checks.yes(0, Works::tube, y -> y.volume(0, 0));
        Checks.yes(410, Works::tube, y -> y.volume(0, 200));
        Checks.range(0, 200, ARGUMENT, Works::tube, (y, place) -> y.volume(0, place));
    }

    private static void boresOfATube() {
        Document.tell("Tubes", "A tube is drawn with a bore, 1 to 40, and a taper, -2 to 2:");
        Checks.range(1, 40, ARGUMENT, Works::fresh, (x, bore) -> x.draw(bore, 0));
        Checks.range(-2, 2, ARGUMENT, Works::fresh, (x, taper) -> x.draw(20, taper));

        Document.tell("Tubes", "the section k has the bore and k times the taper,");
        for (int taper = -2; taper <= 2; taper++) {
            Meniscus x = new Meniscus();
            x.draw(20 - 10 * Math.min(taper, 0), taper);
            for (int k = 0; k < 20; k++) {
                int section = k;
                int due = (taper < 0 ? 20 - 10 * taper : 20) + k * taper;
                Checks.due("bore(0, " + k + ") by " + taper, due, () -> x.bore(0, section));
            }
        }

        Document.tell("Tubes", "but 1 to 60;");
        int[][] rows = {{3, -1, 2, 1}, {3, -1, 3, 1}, {3, -1, 19, 1}, {4, -2, 1, 2}, {4, -2, 2, 1}, {1, -2, 19, 1},
            {40, 2, 9, 58}, {40, 2, 10, 60}, {40, 2, 11, 60}, {40, 2, 19, 60}, {40, 1, 19, 59}};
        for (int[] row : rows) {
            Meniscus x = new Meniscus();
            x.draw(row[0], row[1]);
            Checks.due("bore of " + java.util.Arrays.toString(row), row[3], () -> x.bore(0, row[2]));
        }

        Document.tell("Tubes", "each section can be told anew, 1 to 60.");
        Checks.range(1, 60, ARGUMENT, Works::tube, (x, bore) -> x.section(0, 7, bore));
        Meniscus x = Works.tube();
        for (int k = 0; k < 20; k++) {
            int section = k;
            Checks.due("section, widest", k == 5 ? 3 : 2, () -> x.section(0, section, 60));
            Checks.due("section, anew", 60, () -> x.section(0, section, 41 + section));
        }
        for (int k = 0; k < 20; k++) {
            int section = k;
            Checks.due("bore of a section told anew", 41 + k, () -> x.bore(0, section));
        }
    }

    private static void volumesAndThreads() {
        Document.tell("Tubes", "The volume up to a place is the sum of the bores of all steps ahead of it.");
        Meniscus x = new Meniscus();
        x.draw(3, 2);
        int sum = 0;
        for (int p = 0; p <= 200; p++) {
            int place = p;
            Checks.due("volume up to " + p, sum, () -> x.volume(0, place));
            sum += 3 + 2 * (p / 10);
        }

        Document.tell("Tubes", "A thread of a volume that begins at a place ends at the first place up to which there "
                + "is as much or more than that behind the volume up to where it begins.");
        // place, volume, the end: 2 for each step, but 3 from 50 to 60.
        int[][] rows = {{0, 1, 1}, {0, 2, 1}, {0, 3, 2}, {0, 4, 2}, {0, 100, 50}, {0, 101, 51}, {0, 103, 51},
            {0, 104, 52}, {45, 10, 50}, {45, 11, 51}, {55, 15, 60}, {55, 16, 61}, {55, 17, 61}, {55, 18, 62},
            {199, 1, 200}, {199, 2, 200}, {0, 410, 200}, {60, 280, 200}, {190, 20, 200}};
        for (int[] row : rows) {
            Checks.yes(row[2], Works::tube, y -> y.thread(0, row[0], row[1]));
        }
        Checks.no(NONE, Works::tube, y -> y.thread(0, 0, 411));
        Checks.no(NONE, Works::tube, y -> y.thread(0, 190, 21));
        Checks.no(NONE, Works::tube, y -> y.thread(0, 200, 1));
    }

    private static void instruments() {
        Document.tell("Instruments", "At most 6 are numbered from 0,");
        Meniscus x = Works.eightTubes();
        for (int number = 0; number < 6; number++) {
            int tube = 7 - number;
            Checks.due("make", number, () -> x.make(tube, 1000, 'h'));
        }
        Checks.due("make, a seventh", Checks.thrown(STATE), () -> x.make(0, 1000, 'h'));
        Checks.due("crept of the last", 0, () -> x.crept(5));
        Checks.due("crept of a seventh", Checks.thrown(INDEX), () -> x.crept(6));

        Document.tell("Instruments", "each of a tube, which is used by that for good,");
        Checks.no(UNSUPPORTED, Works::made, y -> y.make(0, 50000, 'h'));
        Checks.no(UNSUPPORTED, Works::made, y -> y.section(0, 0, 3));
        Checks.no(UNSUPPORTED, Works::smashed, y -> y.make(0, 50000, 'h'));
        Checks.no(UNSUPPORTED, Works::smashed, y -> y.section(0, 0, 3));
        Checks.yes(50050, Works::made, y -> y.fill(0, 's', 5));

        Document.tell("Instruments", "with a bulb, 1000 to 50000,");
        Checks.range(1000, 50000, ARGUMENT, Works::tube, (y, bulb) -> y.make(0, bulb, 'h'));
        Checks.range(1000, 50000, ARGUMENT, Works::tube, (y, bulb) -> y.make(0, bulb, 's'));

        Document.tell("Instruments", "of 'h' hard or 's' soft glass.");
        Checks.kinds("hs", Works::tube, (y, glass) -> y.make(0, 1000, glass));
    }

    private static void whatItWillCreep() {
        Document.tell("Instruments", "The bulb creeps: of what it will be less, 2 thousandths of the bulb for hard, "
                + "6 for soft glass, cut,");
        int[][] rows = {{1000, 2, 6}, {1166, 2, 6}, {1167, 2, 7}, {1333, 2, 7}, {1334, 2, 8}, {1499, 2, 8},
            {1500, 3, 9}, {1999, 3, 11}, {49999, 99, 299}, {50000, 100, 300}};
        for (int[] row : rows) {
            Meniscus x = new Meniscus();
            x.draw(1, 0);
            x.draw(1, 0);
            x.make(0, row[0], 'h');
            x.make(1, row[0], 's');
            x.days(999);
            Checks.due("crept of hard " + row[0], row[1], () -> x.crept(0));
            Checks.due("crept of soft " + row[0], row[2], () -> x.crept(1));
        }
    }

    private static void creepOfEachDay() {
        Document.tell("Instruments", "it becomes less in each day, smashed or not, by a twentieth, rounded up, of what "
                + "is still to come;");
        // 100 to come: 5 of each of 100, 95, 90 and 85, 4 of 80 (just a twentieth), 76, 72, 68 and 64, 3 of 60 ..
        int[] crept = {5, 10, 15, 20, 24, 28, 32, 36, 40, 43, 46, 49, 52, 55, 58, 61, 63, 65, 67, 69, 71, 73, 75, 77,
            79, 81, 82, 83};
        Meniscus x = new Meniscus();
        for (int t = 0; t < 3; t++) {
            x.draw(1, 0);
            x.make(t, 50000, 'h');
        }
        x.fill(1, 's', 0);
        x.smash(1);
        x.smash(2);
        for (int day = 1; day <= crept.length; day++) {
            x.days(1);
            int due = crept[day - 1];
            Checks.due("crept by day " + day, due, () -> x.crept(0));
            Checks.due("crept, smashed, by day " + day, due, () -> x.crept(1));
            Checks.due("crept, smashed empty, by day " + day, due, () -> x.crept(2));
            int days = day;
            Checks.yes(due, Works::made, y -> y.days(days) > 0 ? y.crept(0) : -1);
        }
        x.days(16);
        Checks.due("crept, 1 still to come", 99, () -> x.crept(0));
        x.days(1);
        Checks.due("crept, all", 100, () -> x.crept(0));
        x.days(1);
        Checks.due("crept, no more than all", 100, () -> x.crept(0));
    }

    private static void creepAtFirst() {
        Document.tell("Instruments", "creeping is 0 at first.");
        Meniscus x = Works.eightTubes();
        x.make(0, 50000, 's');
        Checks.due("crept(0)", 0, () -> x.crept(0));
        x.days(500);
        x.make(1, 50000, 's');
        Checks.due("crept of a later one", 0, () -> x.crept(1));
        x.days(1);
        Checks.due("crept of it by a day", 15, () -> x.crept(1));
    }

    private static void fills() {
        Document.tell("Instruments", "Filled with mercury 'm' or spirit 's',");
        Checks.kinds("ms", Works::made, (x, liquid) -> x.fill(0, liquid, 50));

        Document.tell("Instruments", "so much is in it that at 0 degrees it stands at a place told: the bulb less what "
                + "it has crept, and the volume up to that place.");
        for (int days = 0; days <= 40; days += 20) {
            int later = days;
            int crept = days == 0 ? 0 : days == 20 ? 69 : 95;
            for (int place : new int[] {0, 1, 50, 199, 200}) {
                Meniscus x = Works.made();
                Checks.answer(() -> x.days(later));
                Checks.due("fill behind " + days, 50000 - crept + 10 * place, () -> x.fill(0, 's', place));
                Checks.due("level at 0", place, () -> x.level(0, 0, 200));
                Checks.due("inside(0)", 50000 - crept + 10 * place, () -> x.inside(0));
            }
        }

        Document.tell("Instruments", "It is filled once.");
        for (char liquid : new char[] {'m', 's'}) {
            Checks.no(UNSUPPORTED, Works::filled, x -> x.fill(0, liquid, 0));
            Checks.no(UNSUPPORTED, Works::smashed, x -> x.fill(0, liquid, 0));
        }
    }

    private static void temperatures() {
        Document.tell("Levels", "Temperatures are tenths of a degree, -300 to 3000.");
        Checks.range(-300, 3000, ARGUMENT, Works::fresh, (x, temperature) -> x.air(temperature));
        Checks.range(-300, 3000, ARGUMENT, Works::filled, (x, temperature) -> x.level(0, temperature, 200));
        Checks.range(-300, 3000, ARGUMENT, Works::divided, (x, temperature) -> x.bath(0, temperature, 200));
        // 100 degrees of mercury are 18 thousandths.
        Checks.yes(135, Works::filled, x -> x.level(0, 1000, 200));
        Checks.yes(24, Works::filled, x -> x.level(0, -300, 200));
    }

    private static void growth() {
        Document.tell("Levels", "What is in an instrument grows with each tenth by 18 millionths of it for mercury, "
                + "110 for spirit, the bulb by 1 for hard, 3 for soft glass:");
        // 10050 by 18 or 110 millionths times 100 are 18 or 110; 10000 by 1 or 3 times 100 are 1 or 3.
        Checks.yes(67, () -> Works.thin(10000, 'h', 'm', 50), x -> x.level(0, 100, 200));
        Checks.yes(65, () -> Works.thin(10000, 's', 'm', 50), x -> x.level(0, 100, 200));
        Checks.yes(159, () -> Works.thin(10000, 'h', 's', 50), x -> x.level(0, 100, 200));
        Checks.yes(157, () -> Works.thin(10000, 's', 's', 50), x -> x.level(0, 100, 200));
        Checks.yes(33, () -> Works.thin(10000, 'h', 'm', 50), x -> x.level(0, -100, 200));
        Checks.yes(35, () -> Works.thin(10000, 's', 'm', 50), x -> x.level(0, -100, 200));
    }

    private static void growthCut() {
        Document.tell("Levels", "it times the temperature times that, divided by 1000000, cut towards 0 once.");
        // 10100 of mercury at -100 are 18.18 less, 10000 of hard glass just 1.
        Checks.yes(83, () -> Works.thin(10000, 'h', 'm', 100), x -> x.level(0, -100, 200));
        // 10000 of mercury at -50 are just 9 less, 9900 of hard glass 0.495.
        Checks.yes(91, () -> Works.thin(9900, 'h', 'm', 100), x -> x.level(0, -50, 200));
        // 10100 of mercury at 50 are 9.09 more, 10000 of hard glass 0.5.
        Checks.yes(109, () -> Works.thin(10000, 'h', 'm', 100), x -> x.level(0, 50, 200));
        // 10100 of mercury at 99 are 17.998 more, 10000 of hard glass 0.99.
        Checks.yes(117, () -> Works.thin(10000, 'h', 'm', 100), x -> x.level(0, 99, 200));
        // 1001 of mercury at 333 are 5.999994 more.
        Checks.yes(6, () -> Works.thin(1000, 'h', 'm', 1), x -> x.level(0, 333, 200));
        // 50000 of spirit at 1900: a product of 10450000000.
        Meniscus x = new Meniscus();
        x.draw(40, 2);
        x.make(0, 50000, 'h');
        x.fill(0, 's', 0);
        Checks.due("level, 10355 in a tube of 10900", 190, () -> x.level(0, 1900, 200));
    }

    private static void restAndCreep() {
        Document.tell("Levels", "The rest that is in the tube is what is in it, and its growth, less the bulb, as it was "
                + "made, its growth, and as much more as it has crept.");
        Meniscus x = Works.thin(10000, 's', 's', 100);
        int[] crept = {3, 6, 9, 12, 15};
        for (int more : crept) {
            x.days(1);
            Checks.due("level, crept by " + more, 100 + more, () -> x.level(0, 0, 200));
        }
        x.days(999);
        Checks.due("level, crept by 60", 160, () -> x.level(0, 0, 200));
        // 10100 of spirit are 111 more at 100, the bulb 3: 100, 60 and 108 are too much; at 30 it is 33 and 0.
        Checks.due("level, crept and warm", 193, () -> x.level(0, 30, 200));
        Checks.due("level, crept and too warm", Checks.thrown(NONE), () -> x.level(0, 100, 200));
        // The bulb as it was made, 50000, grows by 150 at 1000; less its creep of 300 it would be 149.
        Meniscus y = new Meniscus();
        y.draw(5, 0);
        y.make(0, 50000, 's');
        y.buy(99999);
        y.days(999);
        y.fill(0, 'm', 0);
        Checks.due("level, of 894 less 150", 148, () -> y.level(0, 1000, 200));
    }

    private static void greatestPlace() {
        Document.tell("Levels", "The level is the greatest place up to which the volume is that or less;");
        // 50500 at -1, 0, 1, 11 and 12 are 0.9 less, 0, 0.9, 9.999 and 10.9 more; the bulb changes by less than 1.
        int[][] rows = {{-2, 49}, {-1, 50}, {0, 50}, {1, 50}, {11, 50}, {12, 51}};
        for (int[] row : rows) {
            Checks.yes(row[1], Works::filled, x -> x.level(0, row[0], 200));
        }
        // Uneven bores, 2 for a step but 3 from 50 to 60: 96 and 127 of spirit, and what the bulb creeps by each day.
        int[][] days = {{2, 49, 59}, {4, 50, 60}, {6, 50, 61}, {8, 51, 62}, {10, 52, 63}, {12, 52, 64}, {14, 53, 65},
            {16, 54, 66}, {18, 54, 67}, {20, 55, 68}, {21, 55, 69}, {22, 56, 69}};
        Meniscus x = Works.tube();
        x.draw(2, 0);
        x.section(1, 5, 3);
        for (int i = 0; i < 2; i++) {
            x.make(i, 20000, 'h');
            x.fill(i, 's', i == 0 ? 48 : 59);
        }
        for (int[] day : days) {
            x.days(1);
            Checks.due("level, 96 and " + day[0], day[1], () -> x.level(0, 0, 200));
            Checks.due("level, 127 and " + day[0], day[2], () -> x.level(1, 0, 200));
        }
    }

    private static void noLevel() {
        Document.tell("Levels", "there is none if the rest is below 0, or above the volume up to 200.");
        // 1000 of mercury are 0.99 less at -55, 1.008 less at -56.
        Checks.yes(0, () -> Works.thin(1000, 'h', 'm', 0), x -> x.level(0, -55, 200));
        Checks.no(NONE, () -> Works.thin(1000, 'h', 'm', 0), x -> x.level(0, -56, 200));
        // 1200 of mercury are 0.99 more at 46, 1.02 more at 47.
        Checks.yes(200, () -> Works.thin(1000, 'h', 'm', 200), x -> x.level(0, 46, 200));
        Checks.no(NONE, () -> Works.thin(1000, 'h', 'm', 200), x -> x.level(0, 47, 200));
        Checks.no(NONE, () -> Works.thin(50000, 'h', 's', 0), x -> x.level(0, -300, 0));
        // Filled up to 0 with a creep of 300, of which heat left 150.
        Checks.no(NONE, Works::sunken, x -> x.level(0, 0, 200));
        Checks.no(NONE, () -> Works.thin(50000, 'h', 's', 200), x -> x.level(0, 3000, 0));
    }

    private static void outInTheAir() {
        Document.tell("Levels", "If it is dipped up to a place only, the volume beyond that place up to the level is out "
                + "in the air:");
        // 100 of spirit in the tube at 0, the air at 1200: 0.132 of what is out is more.
        int[][] rows = {{0, 113}, {1, 113}, {25, 109}, {50, 106}, {84, 102}, {92, 101}, {93, 100}, {99, 100},
            {100, 100}, {101, 100}, {200, 100}};
        for (int[] row : rows) {
            Meniscus x = Works.thin(10000, 'h', 's', 100);
            x.air(1200);
            Checks.due("level, dipped up to " + row[0], row[1], () -> x.level(0, 0, row[0]));
        }
        // The rest is 5350, but the volume up to 107 is 5320: 450 of it less at 770 above the air, not 453.
        Meniscus y = tapered();
        y.air(230);
        Checks.due("level, 4900", 100, () -> y.level(0, 1000, 0));

        Document.tell("Levels", "then the rest is less by that volume times 18 or 110, times the temperature less that "
                + "of the air, 200 at first,");
        Checks.yes(102, () -> Works.thin(10000, 'h', 's', 100), x -> x.level(0, 0, 0));
        Checks.yes(100, () -> Works.thin(10000, 'h', 'm', 100), x -> x.level(0, 0, 0));
        int[][] airs = {{200, 102}, {3000, 133}, {0, 100}, {-300, 97}};
        for (int[] air : airs) {
            Meniscus x = Works.thin(10000, 'h', 's', 100);
            x.air(air[0]);
            Checks.due("level, spirit, air of " + air[0], air[1], () -> x.level(0, 0, 0));
        }
        int[][] mercury = {{200, 100}, {3000, 105}, {1000, 101}, {-300, 100}};
        for (int[] air : mercury) {
            Meniscus x = Works.thin(10000, 'h', 'm', 100);
            x.air(air[0]);
            Checks.due("level, mercury, air of " + air[0], air[1], () -> x.level(0, 0, 0));
        }
    }

    /** Bores of 40 up to 58, then 60; 5350 of spirit in it at 1000. */
    private static Meniscus tapered() {
        Meniscus x = new Meniscus();
        x.draw(40, 2);
        x.make(0, 50000, 's');
        x.fill(0, 's', 0);
        return x;
    }

    private static void outInTheAirCut() {
        Document.tell("Levels", "divided by 1000000, cut towards 0,");
        // 200 of spirit out: 0.022 for each tenth.
        int[][] rows = {{-45, 200}, {-46, 199}, {-90, 199}, {-91, 198}, {0, 200}, {45, 200}};
        for (int[] row : rows) {
            Meniscus x = Works.thin(1000, 'h', 's', 200);
            x.air(row[0]);
            Checks.due("level, air of " + row[0], row[1], () -> x.level(0, 0, 0));
        }
        // 63 of spirit: 9.99999 and 19.99998 more.
        int[][] justBelow = {{1443, 72}, {2886, 82}};
        for (int[] row : justBelow) {
            Meniscus x = Works.thin(1000, 'h', 's', 63);
            x.air(row[0]);
            Checks.due("level, air of " + row[0], row[1], () -> x.level(0, 0, 0));
        }
        Meniscus x = Works.thin(1000, 'h', 's', 200);
        x.air(46);
        Checks.due("level, 1 too much by the air", Checks.thrown(NONE), () -> x.level(0, 0, 0));
        // 1350 of mercury at 1000: 19.44 less of 1359.
        Checks.yes(134, Works::filled, y -> y.level(0, 1000, 0));
    }

    private static void levelTakenAgain() {
        Document.tell("Levels", "and the level is taken again by that, once.");
        // 5350 of spirit, 107 places; 468 less; 99 places. A second time would make 426 less, and 100 places.
        Meniscus x = tapered();
        Checks.due("level, wholly dipped", 107, () -> x.level(0, 1000, 200));
        Checks.due("level, not dipped", 99, () -> x.level(0, 1000, 0));
        // 420 are out, 36 less; 180 are out, 15 less.
        Checks.due("level, dipped up to 100", 106, () -> x.level(0, 1000, 100));
        Checks.due("level, dipped up to 104", 107, () -> x.level(0, 1000, 104));
    }

    private static void burettes() {
        Document.tell("Burettes", "What a tube delivers from a place to a lower one, in seconds, is the volume between,");
        Checks.yes(410, Works::tube, x -> x.deliver(0, 200, 0, 60));
        Checks.yes(50, Works::tube, x -> x.deliver(0, 60, 40, 999));
        Checks.yes(3, Works::tube, x -> x.deliver(0, 51, 50, 60));
        Checks.yes(2, Works::tube, x -> x.deliver(0, 50, 49, 60));
        Checks.no(ARGUMENT, Works::tube, x -> x.deliver(0, 60, 60, 60));
        Checks.no(ARGUMENT, Works::tube, x -> x.deliver(0, 60, 61, 60));

        Document.tell("Burettes", "less what clings to it: to each step between there clings 1 for each 10 seconds, "
                + "begun ones counted whole, by which the seconds are fewer than 60,");
        int[][] clings = {{1, 6}, {9, 6}, {10, 5}, {11, 5}, {19, 5}, {20, 4}, {21, 4}, {29, 4}, {30, 3}, {31, 3},
            {39, 3}, {40, 2}, {41, 2}, {49, 2}, {50, 1}, {51, 1}, {59, 1}, {60, 0}, {61, 0}, {70, 0}, {999, 0}};
        for (int[] row : clings) {
            Checks.yes(20 * (8 - row[1]), Works::eightTubes, x -> x.deliver(7, 45, 25, row[0]));
            Checks.yes(8 - row[1], Works::eightTubes, x -> x.deliver(7, 11, 10, row[0]));
        }

        Document.tell("Burettes", "but no more than its bore.");
        for (int bore = 1; bore <= 7; bore++) {
            int tube = bore - 1;
            Checks.yes(Math.max(0, 200 * (bore - 6)), Works::eightTubes, x -> x.deliver(tube, 200, 0, 1));
            Checks.yes(Math.max(0, 200 * (bore - 3)), Works::eightTubes, x -> x.deliver(tube, 200, 0, 30));
        }
        // 10 steps of bore 2, to which 2 cling, and 10 of bore 3, to which 3 cling at most.
        int[][] rows = {{59, 30}, {45, 10}, {30, 0}, {10, 0}, {1, 0}};
        for (int[] row : rows) {
            Checks.yes(row[1], Works::tube, x -> x.deliver(0, 60, 40, row[0]));
        }
    }
}
