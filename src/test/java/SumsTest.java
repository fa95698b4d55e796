import java.util.NoSuchElementException;

/** Promises 35 to 41: barometers and sums; and the document's example. */
public final class SumsTest {
    private static final Class<IndexOutOfBoundsException> INDEX = IndexOutOfBoundsException.class;
    private static final Class<IllegalArgumentException> ARGUMENT = IllegalArgumentException.class;
    private static final Class<NoSuchElementException> NONE = NoSuchElementException.class;

    /** Of baths of 200 to 900: the places 67, 75, 84, 92, 101, 110, 118 and 127 on a scale from 50 to 135. */
    private static final int[] READINGS = {200, 294, 400, 494, 600, 705, 800, 905};

    public static void main(String[] args) {
        promise35Barometer();
        promise36Stock();
        promise37Spilt();
        promise38Checksum();
        promise39CertifiedShare();
        promise40MeanError();
        promise41IsSound();
        exampleOfTheDocument();
        Checks.end();
    }

    private static void promise35Barometer() {
        Meniscus x = new Meniscus();
        // height, degrees, gravity, bore, the height that is due
        int[][] rows = {{7600, 20, 9800, 5, 7579}, {7600, 0, 9807, 60, 7601}, {7600, 0, 9807, 1, 7660},
            {7600, 0, 9807, 31, 7601}, {7600, -20, 9807, 30, 7629}, {6000, -20, 9780, 60, 6005},
            {8000, 40, 9832, 60, 7964}, {6001, 1, 9807, 59, 6001}, {8000, 25, 9807, 60, 7965},
            {6000, -1, 9807, 60, 6002}};
        for (int[] row : rows) {
            Checks.due("barometer" + java.util.Arrays.toString(row), row[4],
                    () -> x.barometer(row[0], row[1], row[2], row[3]));
        }
        int[][] wrong = {{5999, 0, 9800, 5}, {8001, 0, 9800, 5}, {7600, -21, 9800, 5}, {7600, 41, 9800, 5},
            {7600, 0, 9779, 5}, {7600, 0, 9833, 5}, {7600, 0, 9800, 0}, {7600, 0, 9800, 61}};
        for (int[] row : wrong) {
            Checks.refused("barometer" + java.util.Arrays.toString(row), ARGUMENT, x,
                    () -> x.barometer(row[0], row[1], row[2], row[3]));
        }
    }

    private static void promise36Stock() {
        Meniscus x = new Meniscus();
        x.buy(99999);
        x.buy(1);
        Checks.due("stock()", 100000, x::stock);
        x.draw(1, 0);
        x.make(0, 1000, 'h');
        x.fill(0, 'm', 0);
        Checks.due("stock()", 99000, x::stock);
        x.smash(0);
        Checks.due("stock()", 99000, x::stock);
    }

    private static void promise37Spilt() {
        Meniscus x = new Meniscus();
        x.buy(99999);
        for (int t = 0; t < 3; t++) {
            x.draw(1, 0);
            x.make(t, 1000, 'h');
        }
        x.fill(0, 'm', 1);
        x.fill(1, 'm', 2);
        x.fill(2, 's', 3);
        Checks.due("spilt()", 0, x::spilt);
        x.smash(0);
        Checks.due("spilt()", 1001, x::spilt);
        x.smash(1);
        Checks.due("spilt()", 2003, x::spilt);
        x.smash(2);
        Checks.due("spilt, spirit is none", 2003, x::spilt);
    }

    private static void promise38Checksum() {
        Meniscus x = new Meniscus();
        Checks.due("checksum()", 6727L, x::checksum);
        x.draw(2, 0);
        x.draw(10, 0);
        long tubes = (7L * 31 + 400) * 31 + 2000;
        Checks.due("checksum of tubes", tubes * 31 * 31, x::checksum);
        x.make(1, 50000, 'h');
        x.make(0, 1000, 's');
        x.buy(60000);
        x.days(3);
        x.fill(0, 'm', 50);
        x.ice(0);
        x.steam(0, 760);
        x.divide(0, 'l');
        long bulb = (tubes * 31 + 50485) * 31 + 15;
        long other = 31 * 31 * bulb + 3;
        Checks.due("checksum of instruments", (other * 31 + 9515) * 31 + 3, x::checksum);
        for (int temperature = 0; temperature <= 900; temperature += 100) {
            x.bath(0, temperature, 200);
        }
        // The two oldest ones, of 0 and 100, are lost.
        long readings = bulb;
        for (int reading : READINGS) {
            readings = readings * 31 + reading;
        }
        long sum = ((readings * 31 * 31 + 3) * 31 + 9515) * 31 + 3;
        Checks.due("checksum of readings", sum, x::checksum);
        x.smash(0);
        long broken = tubes * 31 * 31 + 15;
        for (int reading : READINGS) {
            broken = broken * 31 + reading;
        }
        sum = ((broken * 31 * 31 + 3) * 31 + 9515) * 31 + 3;
        Checks.due("checksum, smashed", sum, x::checksum);
    }

    private static void promise39CertifiedShare() {
        Meniscus x = new Meniscus();
        Checks.refused("certifiedShare, no instruments", NONE, x, x::certifiedShare);
        x.buy(99999);
        x.buy(99999);
        for (int t = 0; t < 3; t++) {
            x.draw(10, 0);
            x.make(t, 50000, t == 0 ? 'h' : 's');
            x.fill(t, 'm', 50);
            x.ice(t);
            x.steam(t, 760);
            x.divide(t, 'l');
            for (int i = 0; i < 3; i++) {
                x.bath(t, 0, 200);
            }
        }
        Checks.due("certifiedShare()", 0.0f, x::certifiedShare);
        x.certify(0);
        Checks.due("certifiedShare()", 1.0f / 3.0f, x::certifiedShare);
        x.certify(1);
        Checks.due("certifiedShare()", 2.0f / 3.0f, x::certifiedShare);
        x.certify(2);
        x.smash(2);
        Checks.due("certifiedShare, smashed ones counted", 2.0f / 3.0f, x::certifiedShare);
        x.certify(2);
        Checks.due("certifiedShare, given behind a smash", 2.0f / 3.0f, x::certifiedShare);
        x.days(121);
        Checks.due("certifiedShare, one ended", 1.0f / 3.0f, x::certifiedShare);
    }

    private static void promise40MeanError() {
        Meniscus x = new Meniscus();
        x.draw(10, 0);
        x.make(0, 50000, 'h');
        x.buy(99999);
        x.fill(0, 'm', 50);
        x.ice(0);
        x.steam(0, 760);
        x.divide(0, 'l');
        Checks.refused("meanError, none", NONE, x, () -> x.meanError(0));
        x.bath(0, -300, 200);
        Checks.due("meanError of -5", -5.0, () -> x.meanError(0));
        x.bath(0, 0, 200);
        Checks.due("meanError of -5, 0", -2.5, () -> x.meanError(0));
        x.breakThread(0, 1);
        x.bath(0, 0, 200);
        Checks.due("meanError of -5, 0, 11", 2.0, () -> x.meanError(0));
        x.bath(0, 2, 200);
        x.bath(0, 2, 200);
        x.bath(0, 3, 200);
        Checks.due("meanError of -5, 0, 11, 9, 9, 8", 32.0 / 6.0, () -> x.meanError(0));
        x.smash(0);
        Checks.due("meanError, smashed", 32.0 / 6.0, () -> x.meanError(0));
        x.begin(0);
        Checks.refused("meanError, begun anew", NONE, x, () -> x.meanError(0));
        Checks.refused("meanError(1)", INDEX, x, () -> x.meanError(1));
        Checks.refused("meanError(-1)", INDEX, x, () -> x.meanError(-1));
    }

    /** The face lets nobody make works that are not sound, so it is asked behind all that moves mercury. */
    private static void promise41IsSound() {
        Meniscus x = new Meniscus();
        x.buy(99999);
        x.buy(50000);
        for (int t = 0; t < 6; t++) {
            x.draw(40, 2);
            x.make(t, 20000, t % 2 == 0 ? 'h' : 's');
            x.fill(t, t < 4 ? 'm' : 's', 100);
            Checks.due("isSound, filled " + t, true, x::isSound);
            x.ice(t);
            x.steam(t, 700);
            x.divide(t, 'v');
        }
        for (int n = 0; n < 30; n++) {
            x.days(30);
            for (int t = 0; t < 6; t++) {
                int it = t;
                Checks.answer(() -> x.bath(it, 2500, 200));
            }
            Checks.due("isSound, heated", true, x::isSound);
        }
        for (int t = 0; t < 6; t++) {
            x.smash(t);
            Checks.due("isSound, smashed " + t, true, x::isSound);
        }
    }

    private static void exampleOfTheDocument() {
        Meniscus x = new Meniscus();
        Object[][] rows = {{0, c(() -> x.draw(2, 0))}, {2, c(() -> x.section(0, 5, 3))}, {3, c(() -> x.bore(0, 5))},
            {130, c(() -> x.volume(0, 60))}, {54, c(() -> x.thread(0, 45, 20))}, {5, c(() -> x.widest(0))},
            {10, c(() -> x.deliver(0, 60, 40, 45))}, {0, c(() -> x.make(0, 20000, 'h'))},
            {30000, c(() -> x.buy(30000))}, {20020, c(() -> x.fill(0, 'm', 10))}, {20020, c(() -> x.inside(0))},
            {9980, c(x::stock)}, {175, c(() -> x.level(0, 1000, 200))}, {200, c(() -> x.air(250))},
            {173, c(() -> x.level(0, 1000, 20))}, {993, c(() -> x.boiling(740))}, {10, c(() -> x.ice(0))},
            {993, c(() -> x.steam(0, 740))}, {164, c(() -> x.divide(0, 'v'))}, {558, c(() -> x.readsAt(0, 100))},
            {499, c(() -> x.bath(0, 500, 200))}, {-1, c(() -> x.error(0))}, {243, c(() -> x.bath(0, 250, 200))},
            {898, c(() -> x.bath(0, 900, 200))}, {3, c(() -> x.tests(0))}, {7, c(() -> x.worst(0))},
            {'C', c(() -> x.grade(0))}, {360, c(() -> x.certify(0))}, {true, c(() -> x.isCertified(0))},
            {40, c(() -> x.days(40))}, {40, c(() -> x.crept(0))}, {0, c(() -> x.breakThread(0, 7))},
            {658, c(() -> x.bath(0, 500, 200))}, {true, c(() -> x.isBroken(0))},
            {"throws NoSuchElementException", c(() -> x.bath(0, -200, 200))}, {false, c(() -> x.keep(0, true))},
            {1057, c(() -> x.bath(0, 900, 200))}, {178, c(() -> x.shake(0))}, {61.0, c(() -> x.meanError(0))},
            {5, c(() -> x.begin(0))}, {1.0f, c(x::certifiedShare)}, {7579, c(() -> x.barometer(7600, 20, 9800, 5))},
            {20020, c(() -> x.smash(0))}, {20020, c(x::spilt)}, {579395527L, c(x::checksum)}, {true, c(x::isSound)}};
        for (int i = 0; i < rows.length; i++) {
            Checks.due("the example's row " + i, rows[i][0], (Checks.Call) rows[i][1]);
        }
    }

    private static Checks.Call c(Checks.Call call) {
        return call;
    }
}
