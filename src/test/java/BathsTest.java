import java.util.NoSuchElementException;

/** Promises 23 to 34: baths, readings, certificates, broken threads and keepers. */
public final class BathsTest {
    private static final Class<IndexOutOfBoundsException> INDEX = IndexOutOfBoundsException.class;
    private static final Class<IllegalArgumentException> ARGUMENT = IllegalArgumentException.class;
    private static final Class<UnsupportedOperationException> UNSUPPORTED = UnsupportedOperationException.class;
    private static final Class<NoSuchElementException> NONE = NoSuchElementException.class;

    public static void main(String[] args) {
        promise23Bath();
        promise23HeatHalvesTheCreep();
        promise24Error();
        promise25Tests();
        promise26Begin();
        promise27Worst();
        promise28Grade();
        promise29Certify();
        promise29CertifyNot();
        promise30IsCertified();
        promise30CertificatesThatEnd();
        promise30CertificatesOfSmashedOnes();
        promise31BreakThread();
        promise31BrokenThreadsRead();
        promise32IsBroken();
        promise33Keep();
        promise34Shake();
        Checks.end();
    }

    /** A tube of bore 10, and mercury in 50000 of that glass: it stands at 50 at 0, and is divided by length. */
    private static Meniscus divided(char glass) {
        Meniscus x = new Meniscus();
        x.draw(10, 0);
        x.make(0, 50000, glass);
        x.buy(60000);
        x.fill(0, 'm', 50);
        x.ice(0);
        x.steam(0, 760);
        x.divide(0, 'l');
        return x;
    }

    /** It has as many readings with an error of 0 as told: at 0 degrees it stands at the point of ice. */
    private static Meniscus tested(char glass, int baths) {
        Meniscus x = divided(glass);
        for (int i = 0; i < baths; i++) {
            x.bath(0, 0, 200);
        }
        return x;
    }

    private static void promise23Bath() {
        Meniscus x = new Meniscus();
        x.draw(10, 0);
        x.make(0, 50000, 'h');
        x.buy(60000);
        Checks.refused("bath, empty", UNSUPPORTED, x, () -> x.bath(0, 0, 200));
        Checks.refused("bath(0, 3001, 200), empty", ARGUMENT, x, () -> x.bath(0, 3001, 200));
        x.fill(0, 'm', 50);
        Checks.refused("bath, not divided", UNSUPPORTED, x, () -> x.bath(0, 0, 200));
        x.ice(0);
        x.steam(0, 760);
        Checks.due("divide(0, 'l')", 85, () -> x.divide(0, 'l'));
        Checks.refused("bath(1, 3001, 201)", INDEX, x, () -> x.bath(1, 3001, 201));
        Checks.refused("bath(-1, 0, 200)", INDEX, x, () -> x.bath(-1, 0, 200));
        Checks.refused("bath(0, 3001, 200)", ARGUMENT, x, () -> x.bath(0, 3001, 200));
        Checks.refused("bath(0, -301, 200)", ARGUMENT, x, () -> x.bath(0, -301, 200));
        Checks.refused("bath(0, 0, 201)", ARGUMENT, x, () -> x.bath(0, 0, 201));
        Checks.refused("bath(0, 0, -1)", ARGUMENT, x, () -> x.bath(0, 0, -1));
        Checks.refused("bath, no level", NONE, x, () -> x.bath(0, 3000, 200));
        Checks.due("bath(0, 1000, 200)", 1000, () -> x.bath(0, 1000, 200));
        Checks.due("bath(0, 1000, 0): 134 in the air", 988, () -> x.bath(0, 1000, 0));
        Checks.due("bath(0, 0, 200)", 0, () -> x.bath(0, 0, 200));
        // 243 are left: 26 places below the point of ice.
        Checks.due("bath(0, -300, 200)", -305, () -> x.bath(0, -300, 200));
        x.smash(0);
        Checks.refused("bath, smashed", UNSUPPORTED, x, () -> x.bath(0, 0, 200));
    }

    private static void promise23HeatHalvesTheCreep() {
        Meniscus x = new Meniscus();
        x.draw(20, 0);
        x.make(0, 50000, 's');
        x.buy(60000);
        x.fill(0, 'm', 0);
        x.ice(0);
        x.steam(0, 760);
        Checks.due("divide(0, 'l')", 37, () -> x.divide(0, 'l'));
        x.days(1);
        Checks.due("bath(0, 2000, 200): 1515", 2027, () -> x.bath(0, 2000, 200));
        Checks.due("crept, at 2000", 15, () -> x.crept(0));
        // 50000 grow by 1800.9, the bulb by 300.1; 15 more by its creep, as the bath begins.
        Checks.due("bath(0, 2001, 200): 1515", 2027, () -> x.bath(0, 2001, 200));
        Checks.due("crept, above 2000, cut", 7, () -> x.crept(0));
        Checks.due("level of that, behind", 0, () -> x.level(0, 0, 200));
        x.days(1);
        Checks.due("crept, 15 of the 293 to come", 22, () -> x.crept(0));
        Checks.refused("a bath that is refused heats nothing", ARGUMENT, x, () -> x.bath(0, 3000, 201));
        Checks.due("level is no bath", 113, () -> x.level(0, 3000, 200));
        Checks.due("crept behind it", 22, () -> x.crept(0));
    }

    private static void promise24Error() {
        Meniscus x = divided('h');
        Checks.refused("error, none", NONE, x, () -> x.error(0));
        x.bath(0, 1000, 200);
        Checks.due("error(0)", 0, () -> x.error(0));
        x.bath(0, 1000, 0);
        Checks.due("error below 0", -12, () -> x.error(0));
        for (int i = 0; i < 8; i++) {
            x.bath(0, 0, 200);
        }
        x.bath(0, -300, 200);
        Checks.due("error of the last of more than 8", -5, () -> x.error(0));
        x.smash(0);
        Checks.due("error, smashed", -5, () -> x.error(0));
        x.begin(0);
        Checks.refused("error, begun anew", NONE, x, () -> x.error(0));
        Checks.refused("error(1)", INDEX, x, () -> x.error(1));
        Checks.refused("error(-1)", INDEX, x, () -> x.error(-1));
    }

    private static void promise25Tests() {
        Meniscus x = divided('h');
        for (int n = 0; n <= 8; n++) {
            Checks.due("tests(0)", n, () -> x.tests(0));
            x.bath(0, 0, 200);
        }
        Checks.due("tests, 8 at most", 8, () -> x.tests(0));
        x.smash(0);
        Checks.due("tests, smashed", 8, () -> x.tests(0));
        Checks.refused("tests(1)", INDEX, x, () -> x.tests(1));
        Checks.refused("tests(-1)", INDEX, x, () -> x.tests(-1));
    }

    private static void promise26Begin() {
        Meniscus x = tested('h', 5);
        Checks.due("begin(0)", 5, () -> x.begin(0));
        Checks.due("tests(0)", 0, () -> x.tests(0));
        Checks.due("begin(0)", 0, () -> x.begin(0));
        x.bath(0, 1000, 0);
        Checks.due("worst, of the new one", 12, () -> x.worst(0));
        Checks.refused("begin(1)", INDEX, x, () -> x.begin(1));
        Checks.refused("begin(-1)", INDEX, x, () -> x.begin(-1));
    }

    private static void promise27Worst() {
        Meniscus x = divided('h');
        Checks.refused("worst, none", NONE, x, () -> x.worst(0));
        x.bath(0, 0, 200);
        Checks.due("worst(0)", 0, () -> x.worst(0));
        x.bath(0, -300, 200);
        Checks.due("worst, without its sign", 5, () -> x.worst(0));
        x.bath(0, 1000, 0);
        Checks.due("worst, -12 of 3", 12, () -> x.worst(0));
        for (int i = 0; i < 7; i++) {
            x.bath(0, 0, 200);
        }
        Checks.due("worst, the second one lost", 12, () -> x.worst(0));
        x.bath(0, 0, 200);
        Checks.due("worst, the third one lost", 0, () -> x.worst(0));
        Checks.refused("worst(1)", INDEX, x, () -> x.worst(1));
        Checks.refused("worst(-1)", INDEX, x, () -> x.worst(-1));
    }

    /**
     * At 0 it reads 0 for ever; of a temperature t near to 0 it reads as of 50, so that the error is -t.
     * (A place of this scale is 11.76 wide.)
     */
    private static void promise28Grade() {
        int[][] rows = {{0, 'A'}, {2, 'A'}, {3, 'B'}, {5, 'B'}, {6, 'C'}, {10, 'C'}, {11, 'X'}};
        for (int[] row : rows) {
            Meniscus x = divided('h');
            x.bath(0, 0, 200);
            x.bath(0, row[0], 200);
            Checks.refused("grade of 2", UNSUPPORTED, x, () -> x.grade(0));
            x.bath(0, 0, 200);
            Checks.due("worst(0)", row[0], () -> x.worst(0));
            Checks.due("grade by " + row[0], (char) row[1], () -> x.grade(0));
            x.smash(0);
            Checks.due("grade, smashed", (char) row[1], () -> x.grade(0));
        }
        Meniscus y = divided('h');
        Checks.refused("grade of none", UNSUPPORTED, y, () -> y.grade(0));
        Checks.refused("grade(1)", INDEX, y, () -> y.grade(1));
        Checks.refused("grade(-1)", INDEX, y, () -> y.grade(-1));
    }

    private static void promise29Certify() {
        Meniscus x = tested('h', 3);
        x.days(7);
        Checks.due("certify, hard", 367, () -> x.certify(0));
        x.days(20);
        Checks.due("certify, in place of another one", 387, () -> x.certify(0));
        x.days(360);
        Checks.due("isCertified by the later one", true, () -> x.isCertified(0));
        Meniscus y = tested('s', 3);
        y.bath(0, 10, 200);
        Checks.due("grade(0)", 'C', () -> y.grade(0));
        Checks.due("certify, soft", 120, () -> y.certify(0));
    }

    private static void promise29CertifyNot() {
        Meniscus x = tested('h', 2);
        Checks.refused("certify, 2 readings", UNSUPPORTED, x, () -> x.certify(0));
        x.bath(0, 11, 200);
        Checks.refused("certify, class X", UNSUPPORTED, x, () -> x.certify(0));
        Checks.refused("certify(1)", INDEX, x, () -> x.certify(1));
        Checks.refused("certify(-1)", INDEX, x, () -> x.certify(-1));
        Meniscus y = tested('h', 3);
        y.certify(0);
        y.bath(0, 11, 200);
        Checks.refused("certify, class X, behind another one", UNSUPPORTED, y, () -> y.certify(0));
        Checks.due("isCertified by the other one", true, () -> y.isCertified(0));
    }

    private static void promise30IsCertified() {
        Meniscus x = tested('h', 3);
        Checks.due("isCertified, none", false, () -> x.isCertified(0));
        x.certify(0);
        Checks.due("isCertified, first day", true, () -> x.isCertified(0));
        x.begin(0);
        x.days(360);
        Checks.due("isCertified, last day", true, () -> x.isCertified(0));
        x.days(1);
        Checks.due("isCertified, a day behind", false, () -> x.isCertified(0));
        Meniscus y = tested('s', 3);
        y.certify(0);
        y.days(120);
        Checks.due("isCertified, soft, last day", true, () -> y.isCertified(0));
        y.days(1);
        Checks.due("isCertified, soft, a day behind", false, () -> y.isCertified(0));
        Checks.refused("isCertified(1)", INDEX, y, () -> y.isCertified(1));
        Checks.refused("isCertified(-1)", INDEX, y, () -> y.isCertified(-1));
    }

    private static void promise30CertificatesThatEnd() {
        Meniscus x = new Meniscus();
        x.draw(20, 0);
        x.make(0, 50000, 's');
        x.buy(60000);
        x.fill(0, 'm', 0);
        x.ice(0);
        x.steam(0, 760);
        x.divide(0, 'v');
        for (int i = 0; i < 3; i++) {
            x.bath(0, 0, 200);
        }
        x.certify(0);
        x.bath(0, 2000, 200);
        Checks.due("isCertified, heated up to 2000", true, () -> x.isCertified(0));
        x.level(0, 2001, 200);
        Checks.due("isCertified, a level above 2000", true, () -> x.isCertified(0));
        x.bath(0, 2001, 200);
        Checks.due("isCertified, heated above 2000", false, () -> x.isCertified(0));
        x.begin(0);
        for (int i = 0; i < 3; i++) {
            x.bath(0, 0, 200);
        }
        Checks.due("certify behind the heat", 120, () -> x.certify(0));
        Checks.due("isCertified, given behind the heat", true, () -> x.isCertified(0));
        x.smash(0);
        Checks.due("isCertified, smashed", false, () -> x.isCertified(0));
    }

    private static void promise30CertificatesOfSmashedOnes() {
        Meniscus x = tested('h', 3);
        x.smash(0);
        Checks.due("isCertified, smashed, none given", false, () -> x.isCertified(0));
        Checks.due("certify, smashed", 360, () -> x.certify(0));
        Checks.due("isCertified, given behind the smash", false, () -> x.isCertified(0));
        x.days(40);
        Checks.due("certify, smashed, anew", 400, () -> x.certify(0));
        Checks.due("isCertified, given anew behind the smash", false, () -> x.isCertified(0));
        Meniscus y = tested('s', 3);
        y.certify(0);
        y.smash(0);
        y.certify(0);
        Checks.due("isCertified, given ahead of the smash and behind it", false, () -> y.isCertified(0));
        y.days(1);
        Checks.due("isCertified, a day behind the smash", false, () -> y.isCertified(0));
    }

    private static void promise31BreakThread() {
        Meniscus x = divided('h');
        Checks.refused("breakThread(0, 0)", ARGUMENT, x, () -> x.breakThread(0, 0));
        Checks.refused("breakThread(0, 21)", ARGUMENT, x, () -> x.breakThread(0, 21));
        Checks.refused("breakThread(1, 21)", INDEX, x, () -> x.breakThread(1, 21));
        Checks.refused("breakThread(-1, 1)", INDEX, x, () -> x.breakThread(-1, 1));
        Checks.due("breakThread(0, 1)", 0, () -> x.breakThread(0, 1));
        Checks.due("breakThread(0, 20)", 1, () -> x.breakThread(0, 20));
        Checks.due("breakThread(0, 20)", 20, () -> x.breakThread(0, 20));
        x.draw(1, 0);
        x.make(1, 1000, 'h');
        Checks.refused("breakThread of an empty one", UNSUPPORTED, x, () -> x.breakThread(1, 1));
        Checks.refused("breakThread(1, 0), empty", ARGUMENT, x, () -> x.breakThread(1, 0));
        x.smash(0);
        Checks.refused("breakThread, smashed", UNSUPPORTED, x, () -> x.breakThread(0, 1));
    }

    private static void promise31BrokenThreadsRead() {
        Meniscus x = divided('h');
        x.breakThread(0, 7);
        Checks.due("bath, 7 places more: 82 of 85", 964, () -> x.bath(0, 882, 200));
        Checks.due("bath at 0, 7 places more", 82, () -> x.bath(0, 0, 200));
        Checks.due("level, of no meaning", 50, () -> x.level(0, 0, 200));
        // At 1600 it stands at 187 (1374 and 500), and reads at 194.
        Checks.due("bath(0, 1600, 200)", 1694, () -> x.bath(0, 1600, 200));
        x.breakThread(0, 20);
        Checks.due("bath(0, 1600, 200), 200 at most", 1764, () -> x.bath(0, 1600, 200));
        Checks.due("bath(0, -199, 200)", 23, () -> x.bath(0, -199, 200));
        Checks.due("isBroken(0)", true, () -> x.isBroken(0));
        // 50500 shrinks by 181.8, the bulb by 10: 329 are left, 18 places below the point of ice.
        Checks.due("bath(0, -200, 200), joined ahead", -211, () -> x.bath(0, -200, 200));
        Checks.due("isBroken(0)", false, () -> x.isBroken(0));
        Checks.due("breakThread(0, 3)", 0, () -> x.breakThread(0, 3));
    }

    private static void promise32IsBroken() {
        Meniscus x = PointsTest.even();
        Checks.due("isBroken(0)", false, () -> x.isBroken(0));
        x.breakThread(0, 5);
        Checks.due("isBroken(0)", true, () -> x.isBroken(0));
        x.ice(0);
        x.steam(0, 760);
        Checks.refused("a bath that is not divided", UNSUPPORTED, x, () -> x.bath(0, -200, 200));
        x.divide(0, 'l');
        Checks.refused("a bath without a level joins nothing", NONE, x, () -> x.bath(0, -200, 200));
        Checks.due("isBroken(0)", true, () -> x.isBroken(0));
        x.smash(0);
        Checks.due("isBroken, smashed", true, () -> x.isBroken(0));
        Checks.refused("isBroken(1)", INDEX, x, () -> x.isBroken(1));
        Checks.refused("isBroken(-1)", INDEX, x, () -> x.isBroken(-1));
    }

    private static void promise33Keep() {
        Meniscus x = divided('h');
        x.bath(0, 1500, 200);
        Checks.due("keep(0, true)", false, () -> x.keep(0, true));
        Checks.due("bath, nothing kept of the time ahead", 1000, () -> x.bath(0, 1000, 200));
        Checks.due("bath, the greatest kept", 1000, () -> x.bath(0, 0, 200));
        Checks.due("error(0)", 1000, () -> x.error(0));
        Checks.due("bath, greater", 1105, () -> x.bath(0, 1100, 200));
        Checks.due("level of a keeper", 50, () -> x.level(0, 0, 200));
        Checks.due("keep(0, true), anew", true, () -> x.keep(0, true));
        Checks.due("bath, what it kept is gone", 0, () -> x.bath(0, 0, 200));
        x.bath(0, 1000, 200);
        x.breakThread(0, 4);
        Checks.due("bath, 4 places above the greatest", 1047, () -> x.bath(0, 0, 200));
        Checks.due("bath, joined, but still the greatest", 1000, () -> x.bath(0, -200, 200));
        Checks.due("keep(0, false)", true, () -> x.keep(0, false));
        Checks.due("bath, no keeper", 0, () -> x.bath(0, 0, 200));
        Checks.due("keep(0, false)", false, () -> x.keep(0, false));
        x.smash(0);
        Checks.due("keep, smashed", false, () -> x.keep(0, true));
        Checks.refused("keep(1, true)", INDEX, x, () -> x.keep(1, true));
        Checks.refused("keep(-1, true)", INDEX, x, () -> x.keep(-1, true));
    }

    private static void promise34Shake() {
        Meniscus x = divided('h');
        Checks.refused("shake, no keeper", UNSUPPORTED, x, () -> x.shake(0));
        x.keep(0, true);
        Checks.refused("shake, nothing kept", NONE, x, () -> x.shake(0));
        x.bath(0, 1000, 200);
        x.bath(0, 0, 200);
        x.breakThread(0, 9);
        x.bath(0, 500, 200);
        Checks.due("shake, without the places of the break", 135, () -> x.shake(0));
        Checks.refused("shake, nothing kept", NONE, x, () -> x.shake(0));
        x.bath(0, 0, 200);
        x.level(0, 1000, 200);
        Checks.due("shake, a level is no bath", 50, () -> x.shake(0));
        x.bath(0, 0, 200);
        x.smash(0);
        Checks.due("shake, smashed", 50, () -> x.shake(0));
        x.keep(0, false);
        Checks.refused("shake, no keeper", UNSUPPORTED, x, () -> x.shake(0));
        Checks.refused("shake(1)", INDEX, x, () -> x.shake(1));
        Checks.refused("shake(-1)", INDEX, x, () -> x.shake(-1));
    }
}
