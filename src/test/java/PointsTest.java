import java.util.NoSuchElementException;

/** Promises 18 to 22: points and scales. */
public final class PointsTest {
    private static final Class<IndexOutOfBoundsException> INDEX = IndexOutOfBoundsException.class;
    private static final Class<IllegalArgumentException> ARGUMENT = IllegalArgumentException.class;
    private static final Class<UnsupportedOperationException> UNSUPPORTED = UnsupportedOperationException.class;
    private static final Class<NoSuchElementException> NONE = NoSuchElementException.class;

    public static void main(String[] args) {
        promise18Ice();
        promise19Steam();
        promise20Boiling();
        promise21Divide();
        promise21DivideOfAlikePoints();
        promise22ReadsAt();
        promise22ReadsAtByVolume();
        Checks.end();
    }

    /** A tube of bore 10, and mercury in 50000 of hard glass: 10 at 0, 95 at 1000. */
    static Meniscus even() {
        Meniscus x = new Meniscus();
        x.draw(10, 0);
        x.make(0, 50000, 'h');
        x.buy(60000);
        x.fill(0, 'm', 10);
        return x;
    }

    private static void promise18Ice() {
        Meniscus x = even();
        Checks.due("ice(0)", 10, () -> x.ice(0));
        x.days(999);
        x.air(3000);
        Checks.due("ice(0), crept by 100", 20, () -> x.ice(0));
        x.draw(1, 0);
        x.make(1, 50000, 's');
        Checks.refused("ice of an empty one", UNSUPPORTED, x, () -> x.ice(1));
        x.fill(1, 's', 0);
        x.days(999);
        Checks.refused("ice of one with no level", NONE, x, () -> x.ice(1));
        Checks.refused("ice(2)", INDEX, x, () -> x.ice(2));
        Checks.refused("ice(-1)", INDEX, x, () -> x.ice(-1));
        x.smash(1);
        Checks.refused("ice of a smashed one", UNSUPPORTED, x, () -> x.ice(1));
        Meniscus y = even();
        y.breakThread(0, 9);
        Checks.due("ice of a broken thread", 10, () -> y.ice(0));
    }

    private static void promise19Steam() {
        Meniscus x = even();
        Checks.due("steam(0, 760)", 1000, () -> x.steam(0, 760));
        Checks.due("steam(0, 700)", 978, () -> x.steam(0, 700));
        Checks.due("steam(0, 800)", 1014, () -> x.steam(0, 800));
        Checks.refused("steam(0, 699)", ARGUMENT, x, () -> x.steam(0, 699));
        Checks.refused("steam(0, 801)", ARGUMENT, x, () -> x.steam(0, 801));
        Checks.refused("steam(1, 801)", INDEX, x, () -> x.steam(1, 801));
        Checks.refused("steam(-1, 760)", INDEX, x, () -> x.steam(-1, 760));
        x.ice(0);
        Checks.due("places at 1014", 86, () -> x.divide(0, 'l'));
        Checks.due("readsAt(0, 96)", 1014, () -> x.readsAt(0, 96));
        x.steam(0, 700);
        Checks.refused("readsAt, a point anew", UNSUPPORTED, x, () -> x.readsAt(0, 96));
        Checks.due("places at 978", 83, () -> x.divide(0, 'l'));
        Checks.due("readsAt(0, 93)", 978, () -> x.readsAt(0, 93));
        x.draw(1, 0);
        x.make(1, 50000, 's');
        Checks.refused("steam of an empty one", UNSUPPORTED, x, () -> x.steam(1, 760));
        Checks.refused("steam(1, 801)", ARGUMENT, x, () -> x.steam(1, 801));
        x.fill(1, 's', 0);
        Checks.refused("steam of one with no level", NONE, x, () -> x.steam(1, 760));
        Meniscus y = even();
        y.ice(0);
        y.steam(0, 760);
        y.divide(0, 'l');
        y.days(999);
        y.draw(1, 0);
        Checks.due("a pressure that is refused leaves the division", "throws IllegalArgumentException",
                () -> y.steam(0, 801));
        Checks.due("readsAt(0, 95)", 1000, () -> y.readsAt(0, 95));
    }

    private static void promise20Boiling() {
        Meniscus x = new Meniscus();
        int[][] rows = {{700, 978}, {733, 991}, {740, 993}, {757, 999}, {758, 1000}, {760, 1000}, {762, 1000},
            {763, 1001}, {800, 1014}};
        for (int[] row : rows) {
            Checks.due("boiling(" + row[0] + ")", row[1], () -> x.boiling(row[0]));
        }
        Checks.refused("boiling(699)", ARGUMENT, x, () -> x.boiling(699));
        Checks.refused("boiling(801)", ARGUMENT, x, () -> x.boiling(801));
    }

    private static void promise21Divide() {
        Meniscus x = even();
        Checks.refused("divide without points", UNSUPPORTED, x, () -> x.divide(0, 'l'));
        x.ice(0);
        Checks.refused("divide without steam", UNSUPPORTED, x, () -> x.divide(0, 'l'));
        x.steam(0, 760);
        Checks.refused("divide(1, 'x')", INDEX, x, () -> x.divide(1, 'x'));
        Checks.refused("divide(-1, 'l')", INDEX, x, () -> x.divide(-1, 'l'));
        Checks.refused("divide(0, 'm')", ARGUMENT, x, () -> x.divide(0, 'm'));
        Checks.due("divide(0, 'l')", 85, () -> x.divide(0, 'l'));
        Checks.due("divide(0, 'v'), anew", 85, () -> x.divide(0, 'v'));
        x.ice(0);
        Checks.refused("readsAt, a point anew", UNSUPPORTED, x, () -> x.readsAt(0, 10));
        Checks.due("divide(0, 'l'), anew", 85, () -> x.divide(0, 'l'));
        x.smash(0);
        Checks.refused("divide, smashed", UNSUPPORTED, x, () -> x.divide(0, 'l'));
        Checks.refused("divide(0, 'x'), smashed", ARGUMENT, x, () -> x.divide(0, 'x'));
        Checks.due("readsAt, smashed but divided", 1000, () -> x.readsAt(0, 95));
        Meniscus y = even();
        y.steam(0, 760);
        Checks.refused("divide without ice", UNSUPPORTED, y, () -> y.divide(0, 'l'));
        y.draw(1, 0);
        y.make(1, 1000, 'h');
        Checks.refused("divide of an empty one", UNSUPPORTED, y, () -> y.divide(1, 'v'));
    }

    private static void promise21DivideOfAlikePoints() {
        Meniscus x = new Meniscus();
        x.draw(40, 0);
        x.make(0, 1000, 'h');
        x.buy(9999);
        x.fill(0, 'm', 0);
        x.ice(0);
        x.steam(0, 760);
        Checks.refused("divide, both points at 0", UNSUPPORTED, x, () -> x.divide(0, 'l'));
    }

    private static void promise22ReadsAt() {
        Meniscus x = even();
        x.ice(0);
        x.steam(0, 740);
        Checks.refused("readsAt, not divided", UNSUPPORTED, x, () -> x.readsAt(0, 10));
        Checks.refused("readsAt(0, 201), not divided", ARGUMENT, x, () -> x.readsAt(0, 201));
        Checks.due("divide(0, 'l')", 84, () -> x.divide(0, 'l'));
        Checks.due("readsAt(0, 10)", 0, () -> x.readsAt(0, 10));
        Checks.due("readsAt(0, 94)", 993, () -> x.readsAt(0, 94));
        Checks.due("readsAt(0, 11)", 11, () -> x.readsAt(0, 11));
        Checks.due("readsAt(0, 0), cut towards 0 from -118.2", -118, () -> x.readsAt(0, 0));
        Checks.due("readsAt(0, 200)", 2246, () -> x.readsAt(0, 200));
        Checks.refused("readsAt(0, -1)", ARGUMENT, x, () -> x.readsAt(0, -1));
        Checks.refused("readsAt(0, 201)", ARGUMENT, x, () -> x.readsAt(0, 201));
        Checks.refused("readsAt(1, 201)", INDEX, x, () -> x.readsAt(1, 201));
        Checks.refused("readsAt(-1, 0)", INDEX, x, () -> x.readsAt(-1, 0));
        x.breakThread(0, 20);
        Checks.due("readsAt is of the level that is told", 993, () -> x.readsAt(0, 94));
    }

    private static void promise22ReadsAtByVolume() {
        Meniscus x = new Meniscus();
        x.draw(2, 0);
        x.section(0, 5, 4);
        x.make(0, 20000, 's');
        x.buy(50000);
        x.fill(0, 'm', 10);
        // At 1000 the mercury grows by 360, the bulb by 60: 320 are left, 150 places.
        x.ice(0);
        x.steam(0, 760);
        Checks.due("divide(0, 'v')", 140, () -> x.divide(0, 'v'));
        Checks.due("readsAt(0, 60): 120 of 300", 400, () -> x.readsAt(0, 60));
        Checks.due("divide(0, 'l')", 140, () -> x.divide(0, 'l'));
        Checks.due("readsAt(0, 60): 50 of 140", 357, () -> x.readsAt(0, 60));
        Meniscus y = new Meniscus();
        y.draw(1, 0);
        y.make(0, 4000, 's');
        y.buy(50000);
        y.fill(0, 'm', 10);
        // At 1000 it is 10, and 72 less 12 more; then the bulb creeps by 24, ahead of the point of ice.
        y.steam(0, 760);
        y.days(999);
        Checks.due("ice(0)", 34, () -> y.ice(0));
        Checks.due("divide(0, 'l')", 36, () -> y.divide(0, 'l'));
    }
}
