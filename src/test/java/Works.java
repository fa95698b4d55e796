/** Works to begin a test with. */
final class Works {
    private Works() {
    }

    static Meniscus fresh() {
        return new Meniscus();
    }

    /** The tube of the document's example: 400 and 10 more by its section 5. */
    static Meniscus tube() {
        Meniscus x = new Meniscus();
        x.draw(2, 0);
        x.section(0, 5, 3);
        return x;
    }

    static Meniscus eightTubes() {
        Meniscus x = new Meniscus();
        for (int t = 0; t < 8; t++) {
            x.draw(1 + t, 0);
        }
        return x;
    }

    /** A tube of bore 10, 50000 of hard glass, nothing in it, and enough mercury. */
    static Meniscus made() {
        return made('h');
    }

    static Meniscus made(char glass) {
        Meniscus x = new Meniscus();
        x.draw(10, 0);
        x.make(0, 50000, glass);
        x.buy(60000);
        return x;
    }

    /** It stands at 50 at 0: 500 are in the tube. */
    static Meniscus filled() {
        return filled('h');
    }

    static Meniscus filled(char glass) {
        Meniscus x = made(glass);
        x.fill(0, 'm', 50);
        return x;
    }

    static Meniscus pointed() {
        Meniscus x = filled();
        x.ice(0);
        x.steam(0, 760);
        return x;
    }

    /** By length, from 50 to 135 for hard glass, from 50 to 125 for soft: near to 0 it reads 0 up to 11 tenths. */
    static Meniscus divided() {
        return divided('h');
    }

    static Meniscus divided(char glass) {
        Meniscus x = filled(glass);
        x.ice(0);
        x.steam(0, 760);
        x.divide(0, 'l');
        return x;
    }

    /** Its errors are 0. */
    static Meniscus tested(char glass) {
        Meniscus x = divided(glass);
        for (int i = 0; i < 3; i++) {
            x.bath(0, 0, 200);
        }
        return x;
    }

    static Meniscus tested() {
        return tested('h');
    }

    static Meniscus certified(char glass) {
        Meniscus x = tested(glass);
        x.certify(0);
        return x;
    }

    static Meniscus certified() {
        return certified('h');
    }

    static Meniscus smashed() {
        Meniscus x = tested();
        x.smash(0);
        return x;
    }

    static Meniscus broken() {
        Meniscus x = certified();
        x.breakThread(0, 7);
        return x;
    }

    /** A certified one that kept the level 135 of a bath of 1000. */
    static Meniscus keeper() {
        Meniscus x = certified();
        x.keep(0, true);
        x.bath(0, 1000, 200);
        return x;
    }

    /** All that an instrument can hold at once, a day that is not 0 and air that is not 200. */
    static Meniscus full() {
        Meniscus x = keeper();
        x.breakThread(0, 3);
        x.days(7);
        x.air(150);
        x.draw(5, 1);
        return x;
    }

    /** Six instruments of a tube of bore 1 and 5000 of hard glass, filled up to 20, and two tubes more. */
    static Meniscus sixFilled() {
        Meniscus x = sixMade();
        for (int i = 0; i < 6; i++) {
            x.fill(i, 'm', 20);
        }
        return x;
    }

    static Meniscus sixMade() {
        Meniscus x = new Meniscus();
        x.buy(99999);
        for (int t = 0; t < 8; t++) {
            x.draw(1, 0);
        }
        for (int i = 0; i < 6; i++) {
            x.make(i, 5000, 'h');
        }
        return x;
    }

    /** Their scales are from 20 to 105. */
    static Meniscus sixDivided() {
        Meniscus x = sixFilled();
        for (int i = 0; i < 6; i++) {
            x.ice(i);
            x.steam(i, 760);
            x.divide(i, 'l');
        }
        return x;
    }

    static Meniscus sixTested() {
        Meniscus x = sixDivided();
        for (int i = 0; i < 6; i++) {
            for (int n = 0; n < 3; n++) {
                x.bath(i, 0, 200);
            }
        }
        return x;
    }

    static Meniscus sixKeepers() {
        Meniscus x = sixDivided();
        for (int i = 0; i < 6; i++) {
            x.keep(i, true);
            x.bath(i, 0, 200);
        }
        return x;
    }

    /** A tube of bore 1, so that the level tells the rest in it. */
    static Meniscus thin(int bulb, char glass, char liquid, int place) {
        Meniscus x = new Meniscus();
        x.draw(1, 0);
        x.make(0, bulb, glass);
        x.buy(99999);
        x.fill(0, liquid, place);
        return x;
    }

    /** A level at 0 alone: 50000 of spirit in a tube of 200. */
    static Meniscus levelless() {
        Meniscus x = thin(50000, 'h', 's', 0);
        x.ice(0);
        return x;
    }

    /** From 0 to 37 or 42: it has a level up to 3000, and reads 0 near to 0. */
    static Meniscus wide(char glass) {
        Meniscus x = new Meniscus();
        x.draw(20, 0);
        x.make(0, 50000, glass);
        x.buy(60000);
        x.fill(0, 'm', 0);
        x.ice(0);
        x.steam(0, 760);
        x.divide(0, 'l');
        return x;
    }

    /** A divided one that has no level at 0 any more, for heat took back half of what it had crept. */
    static Meniscus sunken() {
        Meniscus x = new Meniscus();
        x.draw(20, 0);
        x.make(0, 50000, 's');
        x.buy(60000);
        x.days(999);
        x.fill(0, 'm', 0);
        x.ice(0);
        x.steam(0, 760);
        x.divide(0, 'l');
        x.bath(0, 2001, 200);
        return x;
    }

    static Meniscus wideCertified(char glass) {
        Meniscus x = wide(glass);
        for (int i = 0; i < 3; i++) {
            x.bath(0, 0, 200);
        }
        x.certify(0);
        return x;
    }
}
