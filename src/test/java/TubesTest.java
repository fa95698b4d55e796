/** Promises 1 to 8: a new object, and tubes. */
public final class TubesTest {
    private static final Class<IndexOutOfBoundsException> INDEX = IndexOutOfBoundsException.class;
    private static final Class<IllegalArgumentException> ARGUMENT = IllegalArgumentException.class;
    private static final Class<UnsupportedOperationException> UNSUPPORTED = UnsupportedOperationException.class;

    public static void main(String[] args) {
        promise1NewObject();
        promise2Draw();
        promise3Section();
        promise4Bore();
        promise5Volume();
        promise6Thread();
        promise7Widest();
        promise8Deliver();
        Checks.end();
    }

    private static void promise1NewObject() {
        Meniscus x = new Meniscus();
        Checks.due("stock()", 0, x::stock);
        Checks.due("spilt()", 0, x::spilt);
        Checks.due("isSound()", true, x::isSound);
        Checks.due("checksum()", 31L * 31 * 7, x::checksum);
        Checks.refused("widest(0)", INDEX, x, () -> x.widest(0));
        Checks.refused("inside(0)", INDEX, x, () -> x.inside(0));
        Checks.due("air(0)", 200, () -> x.air(0));
        Checks.due("days(1)", 1, () -> x.days(1));
        Meniscus y = new Meniscus();
        Checks.due("another object's stock", 5, () -> x.buy(5));
        Checks.due("stock()", 0, y::stock);
        Checks.due("days(1)", 1, () -> y.days(1));
    }

    private static void promise2Draw() {
        Meniscus x = new Meniscus();
        Checks.refused("draw(0, 0)", ARGUMENT, x, () -> x.draw(0, 0));
        Checks.refused("draw(41, 0)", ARGUMENT, x, () -> x.draw(41, 0));
        Checks.refused("draw(1, -3)", ARGUMENT, x, () -> x.draw(1, -3));
        Checks.refused("draw(1, 3)", ARGUMENT, x, () -> x.draw(1, 3));
        Checks.due("draw(1, -2)", 0, () -> x.draw(1, -2));
        Checks.due("draw(40, 2)", 1, () -> x.draw(40, 2));
        Checks.due("draw(10, -1)", 2, () -> x.draw(10, -1));
        Checks.due("draw(41, 0)", "throws IllegalArgumentException", () -> x.draw(41, 0));
        Checks.due("draw(7, 1)", 3, () -> x.draw(7, 1));
        for (int number = 4; number < 8; number++) {
            Checks.due("draw(1, 0)", number, () -> x.draw(1, 0));
        }
        Checks.refused("draw(1, 0)", IllegalStateException.class, x, () -> x.draw(1, 0));
        Checks.refused("draw(0, 0) when there are 8", ARGUMENT, x, () -> x.draw(0, 0));
        Checks.due("bore(0, 0)", 1, () -> x.bore(0, 0));
        Checks.due("bore(0, 19)", 1, () -> x.bore(0, 19));
        Checks.due("bore(1, 0)", 40, () -> x.bore(1, 0));
        Checks.due("bore(1, 9)", 58, () -> x.bore(1, 9));
        Checks.due("bore(1, 10)", 60, () -> x.bore(1, 10));
        Checks.due("bore(1, 19)", 60, () -> x.bore(1, 19));
        Checks.due("bore(2, 8)", 2, () -> x.bore(2, 8));
        Checks.due("bore(2, 9)", 1, () -> x.bore(2, 9));
        Checks.due("bore(2, 10)", 1, () -> x.bore(2, 10));
        Checks.due("bore(3, 19)", 26, () -> x.bore(3, 19));
    }

    private static void promise3Section() {
        Meniscus x = new Meniscus();
        x.draw(2, 0);
        Checks.refused("section(-1, 0, 1)", INDEX, x, () -> x.section(-1, 0, 1));
        Checks.refused("section(1, 0, 1)", INDEX, x, () -> x.section(1, 0, 1));
        Checks.refused("section(8, 20, 0)", INDEX, x, () -> x.section(8, 20, 0));
        Checks.refused("section(0, -1, 1)", ARGUMENT, x, () -> x.section(0, -1, 1));
        Checks.refused("section(0, 20, 1)", ARGUMENT, x, () -> x.section(0, 20, 1));
        Checks.refused("section(0, 0, 0)", ARGUMENT, x, () -> x.section(0, 0, 0));
        Checks.refused("section(0, 0, 61)", ARGUMENT, x, () -> x.section(0, 0, 61));
        Checks.due("section(0, 19, 60)", 2, () -> x.section(0, 19, 60));
        Checks.due("section(0, 19, 1)", 60, () -> x.section(0, 19, 1));
        Checks.due("section(0, 0, 3)", 2, () -> x.section(0, 0, 3));
        Checks.due("bore(0, 19)", 1, () -> x.bore(0, 19));
        Checks.due("bore(0, 0)", 3, () -> x.bore(0, 0));
        Checks.due("bore(0, 1)", 2, () -> x.bore(0, 1));
        x.make(0, 1000, 'h');
        Checks.refused("section of a used tube", UNSUPPORTED, x, () -> x.section(0, 0, 3));
        Checks.refused("section(0, 0, 0) of it", ARGUMENT, x, () -> x.section(0, 0, 0));
        x.smash(0);
        Checks.refused("section, smashed", UNSUPPORTED, x, () -> x.section(0, 0, 3));
    }

    private static void promise4Bore() {
        Meniscus x = new Meniscus();
        x.draw(5, 1);
        Checks.due("bore(0, 0)", 5, () -> x.bore(0, 0));
        Checks.due("bore(0, 19)", 24, () -> x.bore(0, 19));
        Checks.refused("bore(-1, -1)", INDEX, x, () -> x.bore(-1, -1));
        Checks.refused("bore(1, 0)", INDEX, x, () -> x.bore(1, 0));
        Checks.refused("bore(8, 0)", INDEX, x, () -> x.bore(8, 0));
        Checks.refused("bore(0, -1)", ARGUMENT, x, () -> x.bore(0, -1));
        Checks.refused("bore(0, 20)", ARGUMENT, x, () -> x.bore(0, 20));
    }

    private static void promise5Volume() {
        Meniscus x = new Meniscus();
        x.draw(2, 0);
        x.section(0, 5, 3);
        Checks.due("volume(0, 0)", 0, () -> x.volume(0, 0));
        Checks.due("volume(0, 1)", 2, () -> x.volume(0, 1));
        Checks.due("volume(0, 50)", 100, () -> x.volume(0, 50));
        Checks.due("volume(0, 51)", 103, () -> x.volume(0, 51));
        Checks.due("volume(0, 60)", 130, () -> x.volume(0, 60));
        Checks.due("volume(0, 61)", 132, () -> x.volume(0, 61));
        Checks.due("volume(0, 200)", 410, () -> x.volume(0, 200));
        Checks.refused("volume(1, -1)", INDEX, x, () -> x.volume(1, -1));
        Checks.refused("volume(-1, 0)", INDEX, x, () -> x.volume(-1, 0));
        Checks.refused("volume(0, -1)", ARGUMENT, x, () -> x.volume(0, -1));
        Checks.refused("volume(0, 201)", ARGUMENT, x, () -> x.volume(0, 201));
    }

    private static void promise6Thread() {
        Meniscus x = new Meniscus();
        x.draw(2, 0);
        x.section(0, 5, 3);
        Checks.due("thread(0, 45, 20)", 54, () -> x.thread(0, 45, 20));
        Checks.due("thread(0, 0, 1)", 1, () -> x.thread(0, 0, 1));
        Checks.due("thread(0, 0, 2)", 1, () -> x.thread(0, 0, 2));
        Checks.due("thread(0, 0, 3)", 2, () -> x.thread(0, 0, 3));
        Checks.due("thread(0, 0, 410)", 200, () -> x.thread(0, 0, 410));
        Checks.due("thread(0, 199, 1)", 200, () -> x.thread(0, 199, 1));
        Class<java.util.NoSuchElementException> none = java.util.NoSuchElementException.class;
        Checks.refused("thread(0, 0, 411)", none, x, () -> x.thread(0, 0, 411));
        Checks.refused("thread(0, 200, 1)", none, x, () -> x.thread(0, 200, 1));
        Checks.refused("thread(0, 0, 99999)", none, x, () -> x.thread(0, 0, 99999));
        Checks.refused("thread(0, 0, 100000)", ARGUMENT, x, () -> x.thread(0, 0, 100000));
        Checks.refused("thread(0, 0, 0)", ARGUMENT, x, () -> x.thread(0, 0, 0));
        Checks.refused("thread(0, -1, 1)", ARGUMENT, x, () -> x.thread(0, -1, 1));
        Checks.refused("thread(0, 201, 1)", ARGUMENT, x, () -> x.thread(0, 201, 1));
        Checks.refused("thread(1, 201, 0)", INDEX, x, () -> x.thread(1, 201, 0));
    }

    private static void promise7Widest() {
        Meniscus x = new Meniscus();
        x.draw(2, 0);
        x.draw(1, 1);
        x.draw(40, 2);
        Checks.due("widest, all alike", 0, () -> x.widest(0));
        Checks.due("widest, growing", 19, () -> x.widest(1));
        Checks.due("widest, alike at the limit", 10, () -> x.widest(2));
        x.section(0, 7, 3);
        x.section(0, 9, 3);
        Checks.due("widest, two alike", 7, () -> x.widest(0));
        Checks.refused("widest(3)", INDEX, x, () -> x.widest(3));
        Checks.refused("widest(-1)", INDEX, x, () -> x.widest(-1));
        Checks.refused("widest(8)", INDEX, x, () -> x.widest(8));
    }

    private static void promise8Deliver() {
        Meniscus x = new Meniscus();
        x.draw(2, 0);
        x.section(0, 5, 3);
        x.draw(10, 0);
        Checks.due("deliver(0, 60, 40, 45)", 10, () -> x.deliver(0, 60, 40, 45));
        Checks.due("deliver(0, 60, 40, 1)", 0, () -> x.deliver(0, 60, 40, 1));
        int[][] clings = {{1, 6}, {9, 6}, {10, 5}, {49, 2}, {50, 1}, {51, 1}, {59, 1}, {60, 0}, {61, 0}, {999, 0}};
        for (int[] row : clings) {
            Checks.due("deliver(1, 200, 199, " + row[0] + ")", 10 - row[1], () -> x.deliver(1, 200, 199, row[0]));
            Checks.due("deliver(1, 200, 0, " + row[0] + ")", 200 * (10 - row[1]), () -> x.deliver(1, 200, 0, row[0]));
        }
        Checks.refused("deliver(2, 300, 0, 0)", INDEX, x, () -> x.deliver(2, 300, 0, 0));
        Checks.refused("deliver(-1, 2, 1, 1)", INDEX, x, () -> x.deliver(-1, 2, 1, 1));
        Checks.refused("deliver(0, 201, 1, 1)", ARGUMENT, x, () -> x.deliver(0, 201, 1, 1));
        Checks.refused("deliver(0, 5, -1, 1)", ARGUMENT, x, () -> x.deliver(0, 5, -1, 1));
        Checks.refused("deliver(0, 5, 5, 1)", ARGUMENT, x, () -> x.deliver(0, 5, 5, 1));
        Checks.refused("deliver(0, 5, 6, 1)", ARGUMENT, x, () -> x.deliver(0, 5, 6, 1));
        Checks.refused("deliver(0, 5, 4, 0)", ARGUMENT, x, () -> x.deliver(0, 5, 4, 0));
        Checks.refused("deliver(0, 5, 4, 1000)", ARGUMENT, x, () -> x.deliver(0, 5, 4, 1000));
    }
}
