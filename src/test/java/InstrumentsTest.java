import java.util.NoSuchElementException;

/** Promises 9 to 17: instruments, their fills and their levels. */
public final class InstrumentsTest {
    private static final Class<IndexOutOfBoundsException> INDEX = IndexOutOfBoundsException.class;
    private static final Class<IllegalArgumentException> ARGUMENT = IllegalArgumentException.class;
    private static final Class<UnsupportedOperationException> UNSUPPORTED = UnsupportedOperationException.class;
    private static final Class<NoSuchElementException> NONE = NoSuchElementException.class;

    public static void main(String[] args) {
        promise9Make();
        promise10Buy();
        promise11Fill();
        promise12Smash();
        promise13Inside();
        promise14Crept();
        promise15Days();
        promise16Air();
        promise17Level();
        promise17LevelOfSpirit();
        promise17LevelsThatAreNone();
        Checks.end();
    }

    private static void promise9Make() {
        Meniscus x = new Meniscus();
        for (int t = 0; t < 8; t++) {
            x.draw(1, 0);
        }
        Checks.refused("make(8, 0, 'x')", INDEX, x, () -> x.make(8, 0, 'x'));
        Checks.refused("make(-1, 1000, 'h')", INDEX, x, () -> x.make(-1, 1000, 'h'));
        Checks.refused("make(0, 999, 'h')", ARGUMENT, x, () -> x.make(0, 999, 'h'));
        Checks.refused("make(0, 50001, 'h')", ARGUMENT, x, () -> x.make(0, 50001, 'h'));
        Checks.refused("make(0, 1000, 'm')", ARGUMENT, x, () -> x.make(0, 1000, 'm'));
        Checks.due("make(3, 1000, 'h')", 0, () -> x.make(3, 1000, 'h'));
        Checks.refused("make of a used tube", UNSUPPORTED, x, () -> x.make(3, 1000, 'h'));
        Checks.refused("make(3, 999, 'h')", ARGUMENT, x, () -> x.make(3, 999, 'h'));
        x.smash(0);
        Checks.refused("make of a smashed one's tube", UNSUPPORTED, x, () -> x.make(3, 1000, 'h'));
        Checks.due("make(0, 50000, 's')", 1, () -> x.make(0, 50000, 's'));
        for (int number = 2; number < 6; number++) {
            int tube = number + 2;
            Checks.due("make(" + tube + ", 1000, 's')", number, () -> x.make(tube, 1000, 's'));
        }
        Checks.refused("make, a seventh", IllegalStateException.class, x, () -> x.make(1, 1000, 'h'));
        Checks.refused("make, a seventh of a used tube", UNSUPPORTED, x, () -> x.make(3, 1000, 'h'));
        Checks.refused("make, a seventh of no glass", ARGUMENT, x, () -> x.make(1, 1000, 'x'));
        Checks.due("section of a tube that is not used", 1, () -> x.section(1, 0, 2));
    }

    private static void promise10Buy() {
        Meniscus x = new Meniscus();
        Checks.refused("buy(0)", ARGUMENT, x, () -> x.buy(0));
        Checks.refused("buy(-1)", ARGUMENT, x, () -> x.buy(-1));
        Checks.refused("buy(100000)", ARGUMENT, x, () -> x.buy(100000));
        Checks.due("buy(1)", 1, () -> x.buy(1));
        Checks.due("buy(99999)", 100000, () -> x.buy(99999));
    }

    private static void promise11Fill() {
        Meniscus x = new Meniscus();
        for (int t = 0; t < 4; t++) {
            x.draw(2, 0);
            x.make(t, 20000, 'h');
        }
        Checks.refused("fill(4, 'x', 201)", INDEX, x, () -> x.fill(4, 'x', 201));
        Checks.refused("fill(-1, 'm', 0)", INDEX, x, () -> x.fill(-1, 'm', 0));
        Checks.refused("fill(0, 'h', 0)", ARGUMENT, x, () -> x.fill(0, 'h', 0));
        Checks.refused("fill(0, 's', -1)", ARGUMENT, x, () -> x.fill(0, 's', -1));
        Checks.refused("fill(0, 's', 201)", ARGUMENT, x, () -> x.fill(0, 's', 201));
        x.buy(20019);
        Checks.refused("fill, 1 less in stock", UNSUPPORTED, x, () -> x.fill(0, 'm', 10));
        x.buy(1);
        Checks.due("fill, all of the stock", 20020, () -> x.fill(0, 'm', 10));
        Checks.due("stock()", 0, x::stock);
        Checks.refused("fill of a filled one", UNSUPPORTED, x, () -> x.fill(0, 's', 10));
        Checks.refused("fill of a filled one with nothing", ARGUMENT, x, () -> x.fill(0, 'x', 10));
        Checks.due("fill with spirit, no stock", 20400, () -> x.fill(1, 's', 200));
        Checks.due("stock()", 0, x::stock);
        x.days(2);
        Checks.due("fill of one that crept by 4", 19996, () -> x.fill(2, 's', 0));
        Checks.due("level(2, 0, 200)", 0, () -> x.level(2, 0, 200));
        x.smash(3);
        Checks.refused("fill of a smashed one", UNSUPPORTED, x, () -> x.fill(3, 's', 0));
        x.smash(1);
        Checks.refused("fill of one smashed behind its fill", UNSUPPORTED, x, () -> x.fill(1, 's', 0));
    }

    private static void promise12Smash() {
        Meniscus x = new Meniscus();
        for (int t = 0; t < 3; t++) {
            x.draw(1, 0);
            x.make(t, 1000 + t, 's');
        }
        x.buy(5000);
        x.fill(0, 'm', 5);
        x.fill(1, 's', 5);
        Checks.due("smash of mercury", 1005, () -> x.smash(0));
        Checks.due("spilt()", 1005, x::spilt);
        Checks.due("stock()", 3995, x::stock);
        Checks.due("isSound()", true, x::isSound);
        Checks.due("smash of spirit", 1006, () -> x.smash(1));
        Checks.due("smash of an empty one", 0, () -> x.smash(2));
        Checks.due("spilt()", 1005, x::spilt);
        Checks.refused("smash again", UNSUPPORTED, x, () -> x.smash(0));
        Checks.refused("smash again, empty", UNSUPPORTED, x, () -> x.smash(2));
        Checks.refused("smash(3)", INDEX, x, () -> x.smash(3));
        Checks.refused("smash(-1)", INDEX, x, () -> x.smash(-1));
        Checks.refused("level of a smashed one", UNSUPPORTED, x, () -> x.level(1, 0, 200));
        Checks.refused("ice of a smashed one", UNSUPPORTED, x, () -> x.ice(1));
        Checks.refused("steam of a smashed one", UNSUPPORTED, x, () -> x.steam(1, 760));
        Checks.refused("breakThread of a smashed one", UNSUPPORTED, x, () -> x.breakThread(1, 5));
    }

    private static void promise13Inside() {
        Meniscus x = new Meniscus();
        x.draw(1, 0);
        x.make(0, 1000, 'h');
        Checks.due("inside, empty", 0, () -> x.inside(0));
        x.fill(0, 's', 7);
        Checks.due("inside, filled", 1007, () -> x.inside(0));
        x.days(10);
        Checks.due("inside, crept", 1007, () -> x.inside(0));
        x.smash(0);
        Checks.due("inside, smashed", 0, () -> x.inside(0));
        Checks.refused("inside(1)", INDEX, x, () -> x.inside(1));
        Checks.refused("inside(-1)", INDEX, x, () -> x.inside(-1));
        Checks.refused("inside(6)", INDEX, x, () -> x.inside(6));
    }

    private static void promise14Crept() {
        Meniscus x = new Meniscus();
        for (int t = 0; t < 4; t++) {
            x.draw(1, 0);
        }
        x.make(0, 50000, 's');
        x.make(1, 50000, 'h');
        x.make(2, 1499, 's');
        Checks.due("crept at first", 0, () -> x.crept(0));
        x.smash(1);
        x.days(1);
        Checks.due("crept, soft, 1 day: 15 of 300", 15, () -> x.crept(0));
        Checks.due("crept, hard and smashed, 1 day: 5 of 100", 5, () -> x.crept(1));
        Checks.due("crept, 1 of 8", 1, () -> x.crept(2));
        x.days(1);
        Checks.due("crept, 15 more, rounded up from 14.25", 30, () -> x.crept(0));
        Checks.due("crept, 5 more, rounded up from 4.75", 10, () -> x.crept(1));
        x.make(3, 1000, 'h');
        Checks.due("crept of a new one", 0, () -> x.crept(3));
        x.days(5);
        Checks.due("crept, 8 at most: 1499 times 6 thousandths, cut", 7, () -> x.crept(2));
        Checks.due("crept, hard: 2 of 2", 2, () -> x.crept(3));
        x.days(999);
        Checks.due("crept, all", 300, () -> x.crept(0));
        Checks.due("crept, all", 100, () -> x.crept(1));
        Checks.due("crept, all", 8, () -> x.crept(2));
        Checks.refused("crept(4)", INDEX, x, () -> x.crept(4));
        Checks.refused("crept(-1)", INDEX, x, () -> x.crept(-1));
    }

    private static void promise15Days() {
        Meniscus x = new Meniscus();
        x.draw(1, 0);
        x.make(0, 50000, 's');
        Checks.refused("days(0)", ARGUMENT, x, () -> x.days(0));
        Checks.refused("days(1000)", ARGUMENT, x, () -> x.days(1000));
        for (int n = 1; n <= 10; n++) {
            Checks.due("days(999)", 999 * n, () -> x.days(999));
        }
        Checks.refused("days(10), to 10000", IllegalStateException.class, x, () -> x.days(10));
        Checks.refused("days(1000), beyond", ARGUMENT, x, () -> x.days(1000));
        Checks.due("days(9)", 9999, () -> x.days(9));
        Checks.refused("days(1)", IllegalStateException.class, x, () -> x.days(1));
    }

    private static void promise16Air() {
        Meniscus x = new Meniscus();
        Checks.due("air(-300)", 200, () -> x.air(-300));
        Checks.due("air(3000)", -300, () -> x.air(3000));
        Checks.refused("air(-301)", ARGUMENT, x, () -> x.air(-301));
        Checks.refused("air(3001)", ARGUMENT, x, () -> x.air(3001));
        Checks.due("air(0)", 3000, () -> x.air(0));
    }

    private static void promise17Level() {
        Meniscus x = new Meniscus();
        x.draw(10, 0);
        x.make(0, 50000, 'h');
        Checks.refused("level, empty", UNSUPPORTED, x, () -> x.level(0, 0, 200));
        Checks.refused("level(0, 3001, 200)", ARGUMENT, x, () -> x.level(0, 3001, 200));
        x.buy(99999);
        x.fill(0, 'm', 50);
        Checks.refused("level(1, 3001, 201)", INDEX, x, () -> x.level(1, 3001, 201));
        Checks.refused("level(0, -301, 0)", ARGUMENT, x, () -> x.level(0, -301, 0));
        Checks.refused("level(0, 3001, 0)", ARGUMENT, x, () -> x.level(0, 3001, 0));
        Checks.refused("level(0, 0, -1)", ARGUMENT, x, () -> x.level(0, 0, -1));
        Checks.refused("level(0, 0, 201)", ARGUMENT, x, () -> x.level(0, 0, 201));
        Checks.due("level(0, 0, 200)", 50, () -> x.level(0, 0, 200));
        Checks.due("level(0, 0, 50)", 50, () -> x.level(0, 0, 50));
        // 50500 grows by 909, the bulb by 50: 1359 are left.
        Checks.due("level(0, 1000, 200)", 135, () -> x.level(0, 1000, 200));
        // 1350 out in the air, by 18 millionths times 800: 19 less.
        Checks.due("level(0, 1000, 0)", 134, () -> x.level(0, 1000, 0));
        // 50500 shrinks by 272.7, the bulb by 15: 243 are left.
        Checks.due("level(0, -300, 200)", 24, () -> x.level(0, -300, 200));
        // 240 out in the air, by 18 millionths times -500: 2 more, cut towards 0.
        Checks.due("level(0, -300, 0)", 24, () -> x.level(0, -300, 0));
        Checks.due("level(0, 1000, 135), nothing out", 135, () -> x.level(0, 1000, 135));
        x.air(3000);
        // 1350 out, by 18 millionths times -2000: 48 more.
        Checks.due("level(0, 1000, 0), warm air", 140, () -> x.level(0, 1000, 0));
        Checks.due("level(0, 1000, 200), warm air", 135, () -> x.level(0, 1000, 200));
        x.air(1000);
        Checks.due("level(0, 1000, 0), air alike", 135, () -> x.level(0, 1000, 0));
        x.days(1);
        Checks.due("level, crept by 5", 50, () -> x.level(0, 0, 200));
        x.days(1);
        Checks.due("level, crept by 10", 51, () -> x.level(0, 0, 200));
    }

    private static void promise17LevelOfSpirit() {
        Meniscus x = new Meniscus();
        x.draw(40, 2);
        x.make(0, 50000, 's');
        x.fill(0, 's', 0);
        // 50000 grows by 5500, the bulb by 150: 5350 are left, 400 + 420 + .. + 560 (of 9 sections) are 4320.
        Checks.due("level(0, 1000, 200)", 107, () -> x.level(0, 1000, 200));
        // 107 places are 5320: by 110 millionths times 800 those are 468 less; 4882 are left.
        Checks.due("level(0, 1000, 0)", 99, () -> x.level(0, 1000, 0));
        // 50 places are 2200: 3120 are out, 274 less; 5076 are left.
        Checks.due("level(0, 1000, 50)", 102, () -> x.level(0, 1000, 50));
    }

    private static void promise17LevelsThatAreNone() {
        Meniscus x = new Meniscus();
        x.draw(1, 0);
        x.make(0, 50000, 'h');
        x.fill(0, 's', 0);
        Checks.refused("level(0, -1, 200)", NONE, x, () -> x.level(0, -1, 200));
        Checks.due("level(0, 0, 200)", 0, () -> x.level(0, 0, 200));
        // At 36 it is 198 less 1; at 37, 203 less 1.
        Checks.due("level(0, 36, 200)", 197, () -> x.level(0, 36, 200));
        Checks.refused("level(0, 37, 200)", NONE, x, () -> x.level(0, 37, 200));
        x.air(3000);
        // 197 out, by 110 millionths times -2964: 64 more, which is too much.
        Checks.refused("level(0, 36, 0), too high in the air", NONE, x, () -> x.level(0, 36, 0));
        Checks.refused("level(0, 37, 0), none ahead of the air", NONE, x, () -> x.level(0, 37, 0));
        Meniscus y = new Meniscus();
        y.draw(1, 0);
        y.make(0, 1000, 'h');
        y.fill(0, 's', 200);
        Checks.due("level(0, 0, 200), just full", 200, () -> y.level(0, 0, 200));
        y.air(3000);
        Checks.refused("level(0, 0, 100), 33 too full by the air", NONE, y, () -> y.level(0, 0, 100));
        Checks.due("level(0, 0, 199), too little is out", 200, () -> y.level(0, 0, 199));
        y.air(-300);
        Checks.due("level(0, 0, 0), less by the air", 194, () -> y.level(0, 0, 0));
    }
}
