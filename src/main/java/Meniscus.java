import java.util.NoSuchElementException;

/** Tubes, thermometers, burettes and barometers, with their errors; the document names every rule. */
public final class Meniscus {
    private static final int MOST_TUBES = 8;
    private static final int MOST_INSTRUMENTS = 6;
    private static final int MOST_READINGS = 8;
    private static final int FEWEST_FOR_CLASS = 3;
    private static final int SECTIONS = 20;
    private static final int STEPS = 10;
    private static final int PLACES = SECTIONS * STEPS;
    private static final int WIDEST_BORE = 60;
    private static final int COLDEST = -300;
    private static final int HOTTEST = 3000;
    private static final int JOINING = -200;
    private static final int HEATING = 2000;
    private static final int LAST_DAY = 9999;
    private static final int MILLION = 1000000;
    private static final int NONE = -1;
    private static final char HARD = 'h';
    private static final char SOFT = 's';
    private static final char MERCURY = 'm';
    private static final char SPIRIT = 's';
    private static final char BY_LENGTH = 'l';
    private static final char BY_VOLUME = 'v';
    private static final char UNDIVIDED = ' ';

    private final Tube[] tubes = new Tube[MOST_TUBES];
    private final Instrument[] instruments = new Instrument[MOST_INSTRUMENTS];
    private int tubeCount;
    private int instrumentCount;
    private int airTemperature;
    private int day;
    private int stock;
    private int spilt;
    private int bought;

    public Meniscus() {
        airTemperature = 200;
    }

    // tubes

    public int draw(int bore, int taper) throws IllegalArgumentException, IllegalStateException {
        demandRange(bore, 1, 40);
        demandRange(taper, -2, 2);
        if (tubeCount >= tubes.length) {
            throw new IllegalStateException("no more tubes");
        }
        int number = tubeCount;
        tubes[number] = new Tube(bore, taper);
        tubeCount++;
        return number;
    }

    public int section(int tube, int section, int bore)
            throws IndexOutOfBoundsException, IllegalArgumentException, UnsupportedOperationException {
        Tube drawn = tubeNumbered(tube);
        demandRange(section, 0, SECTIONS - 1);
        demandRange(bore, 1, WIDEST_BORE);
        demandUnused(drawn);
        int before = drawn.boreOf(section);
        drawn.setBore(section, bore);
        return before;
    }

    public int bore(int tube, int section) throws IndexOutOfBoundsException, IllegalArgumentException {
        Tube drawn = tubeNumbered(tube);
        demandRange(section, 0, SECTIONS - 1);
        return drawn.boreOf(section);
    }

    public int volume(int tube, int place) throws IndexOutOfBoundsException, IllegalArgumentException {
        Tube drawn = tubeNumbered(tube);
        demandPlace(place);
        return drawn.volumeUpTo(place);
    }

    public int thread(int tube, int place, int volume)
            throws IndexOutOfBoundsException, IllegalArgumentException, NoSuchElementException {
        Tube drawn = tubeNumbered(tube);
        demandPlace(place);
        demandRange(volume, 1, 99999);
        int end = drawn.firstPlaceHolding(drawn.volumeUpTo(place) + volume);
        if (end == NONE) {
            throw new NoSuchElementException("the thread goes beyond the tube");
        }
        return end;
    }

    public int widest(int tube) throws IndexOutOfBoundsException {
        return tubeNumbered(tube).widestSection();
    }

    public int deliver(int tube, int from, int to, int seconds)
            throws IndexOutOfBoundsException, IllegalArgumentException {
        Tube drawn = tubeNumbered(tube);
        demandPlace(from);
        demandPlace(to);
        demandRange(seconds, 1, 999);
        if (to >= from) {
            throw new IllegalArgumentException("the second place is not lower");
        }
        int between = drawn.volumeUpTo(from) - drawn.volumeUpTo(to);
        return between - drawn.clinging(to, from, clingingToStep(seconds));
    }

    // instruments

    public int make(int tube, int bulb, char glass) throws IndexOutOfBoundsException, IllegalArgumentException,
            UnsupportedOperationException, IllegalStateException {
        Tube drawn = tubeNumbered(tube);
        demandRange(bulb, 1000, 50000);
        demandEither(glass, HARD, SOFT);
        demandUnused(drawn);
        if (instrumentCount >= instruments.length) {
            throw new IllegalStateException("no more instruments");
        }
        int number = instrumentCount;
        drawn.used = true;
        instruments[number] = new Instrument(tube, drawn, bulb, glass);
        instrumentCount++;
        return number;
    }

    public int buy(int amount) throws IllegalArgumentException {
        demandRange(amount, 1, 99999);
        bought += amount;
        stock += amount;
        return stock;
    }

    public int fill(int instrument, char liquid, int place)
            throws IndexOutOfBoundsException, IllegalArgumentException, UnsupportedOperationException {
        Instrument made = instrumentNumbered(instrument);
        demandEither(liquid, MERCURY, SPIRIT);
        demandPlace(place);
        if (made.filled || made.smashed) {
            throw new UnsupportedOperationException("it was filled or smashed");
        }
        int amount = made.roomUpTo(place);
        if (liquid == MERCURY) {
            takeFromStock(amount);
        }
        made.fillWith(liquid, amount);
        return amount;
    }

    public int smash(int instrument) throws IndexOutOfBoundsException, UnsupportedOperationException {
        Instrument made = instrumentNumbered(instrument);
        if (made.smashed) {
            throw new UnsupportedOperationException("it is smashed");
        }
        int lost = made.inside;
        spilt += made.mercuryInside();
        made.breakUp();
        return lost;
    }

    public int inside(int instrument) throws IndexOutOfBoundsException {
        return instrumentNumbered(instrument).inside;
    }

    public int crept(int instrument) throws IndexOutOfBoundsException {
        return instrumentNumbered(instrument).crept;
    }

    public int days(int days) throws IllegalArgumentException, IllegalStateException {
        demandRange(days, 1, 999);
        if (day + days > LAST_DAY) {
            throw new IllegalStateException("beyond the last day");
        }
        day += days;
        for (Instrument made : instruments) {
            if (made != null) {
                made.creep(days);
            }
        }
        return day;
    }

    public int air(int temperature) throws IllegalArgumentException {
        demandTemperature(temperature);
        int before = airTemperature;
        airTemperature = temperature;
        return before;
    }

    public int level(int instrument, int temperature, int place) throws IndexOutOfBoundsException,
            IllegalArgumentException, UnsupportedOperationException, NoSuchElementException {
        Instrument made = instrumentNumbered(instrument);
        demandTemperature(temperature);
        demandPlace(place);
        demandFilled(made);
        return levelFound(made, temperature, place);
    }

    // points and scales

    public int ice(int instrument)
            throws IndexOutOfBoundsException, UnsupportedOperationException, NoSuchElementException {
        Instrument made = instrumentNumbered(instrument);
        demandFilled(made);
        int place = levelFound(made, 0, PLACES);
        made.scale.putIce(place);
        return place;
    }

    public int steam(int instrument, int pressure) throws IndexOutOfBoundsException, IllegalArgumentException,
            UnsupportedOperationException, NoSuchElementException {
        Instrument made = instrumentNumbered(instrument);
        demandPressure(pressure);
        demandFilled(made);
        int temperature = steamAt(pressure);
        made.scale.putSteam(levelFound(made, temperature, PLACES), temperature);
        return temperature;
    }

    public int boiling(int pressure) throws IllegalArgumentException {
        demandPressure(pressure);
        return steamAt(pressure);
    }

    public int divide(int instrument, char kind)
            throws IndexOutOfBoundsException, IllegalArgumentException, UnsupportedOperationException {
        Instrument made = instrumentNumbered(instrument);
        demandEither(kind, BY_LENGTH, BY_VOLUME);
        demandFilled(made);
        if (!made.scale.hasUnlikePoints()) {
            throw new UnsupportedOperationException("it has not two unlike points");
        }
        made.scale.kind = kind;
        return made.scale.placesBetween();
    }

    public int readsAt(int instrument, int place)
            throws IndexOutOfBoundsException, IllegalArgumentException, UnsupportedOperationException {
        Instrument made = instrumentNumbered(instrument);
        demandPlace(place);
        demandDivided(made);
        return made.scale.readingAt(place);
    }

    // baths

    public int bath(int instrument, int temperature, int place) throws IndexOutOfBoundsException,
            IllegalArgumentException, UnsupportedOperationException, NoSuchElementException {
        Instrument made = instrumentNumbered(instrument);
        demandTemperature(temperature);
        demandPlace(place);
        demandFilled(made);
        demandDivided(made);
        return made.readInBath(temperature, levelFound(made, temperature, place));
    }

    public int error(int instrument) throws IndexOutOfBoundsException, NoSuchElementException {
        Readings kept = instrumentNumbered(instrument).readings;
        demandReadings(kept);
        return kept.newestError();
    }

    public int tests(int instrument) throws IndexOutOfBoundsException {
        return instrumentNumbered(instrument).readings.count;
    }

    public int begin(int instrument) throws IndexOutOfBoundsException {
        Readings kept = instrumentNumbered(instrument).readings;
        int before = kept.count;
        kept.count = 0;
        return before;
    }

    public int worst(int instrument) throws IndexOutOfBoundsException, NoSuchElementException {
        Readings kept = instrumentNumbered(instrument).readings;
        demandReadings(kept);
        return kept.greatestError();
    }

    public char grade(int instrument) throws IndexOutOfBoundsException, UnsupportedOperationException {
        Readings kept = instrumentNumbered(instrument).readings;
        demandEnoughForClass(kept);
        return classByError(kept.greatestError());
    }

    public int certify(int instrument) throws IndexOutOfBoundsException, UnsupportedOperationException {
        Instrument made = instrumentNumbered(instrument);
        demandEnoughForClass(made.readings);
        if (classByError(made.readings.greatestError()) == 'X') {
            throw new UnsupportedOperationException("no certificate for this class");
        }
        made.certificateEnd = day + (made.glass == HARD ? 360 : 120);
        return made.certificateEnd;
    }

    public boolean isCertified(int instrument) throws IndexOutOfBoundsException {
        return instrumentNumbered(instrument).holdsCertificateOn(day);
    }

    public int breakThread(int instrument, int gap)
            throws IndexOutOfBoundsException, IllegalArgumentException, UnsupportedOperationException {
        Instrument made = instrumentNumbered(instrument);
        demandRange(gap, 1, 20);
        demandFilled(made);
        int before = made.gap;
        made.gap = gap;
        return before;
    }

    public boolean isBroken(int instrument) throws IndexOutOfBoundsException {
        return instrumentNumbered(instrument).gap > 0;
    }

    public boolean keep(int instrument, boolean is) throws IndexOutOfBoundsException {
        Instrument made = instrumentNumbered(instrument);
        boolean before = made.keeper;
        made.keeper = is;
        made.greatestLevel = NONE;
        return before;
    }

    public int shake(int instrument)
            throws IndexOutOfBoundsException, UnsupportedOperationException, NoSuchElementException {
        Instrument made = instrumentNumbered(instrument);
        if (!made.keeper) {
            throw new UnsupportedOperationException("it is no keeper");
        }
        if (made.greatestLevel == NONE) {
            throw new NoSuchElementException("it kept no level");
        }
        int greatest = made.greatestLevel;
        made.greatestLevel = NONE;
        return greatest;
    }

    // barometers and sums

    public int barometer(int height, int degrees, int gravity, int bore) throws IllegalArgumentException {
        demandRange(height, 6000, 8000);
        demandRange(degrees, -20, 40);
        demandRange(gravity, 9780, 9832);
        demandRange(bore, 1, 60);
        int cold = height - height * 18 * degrees / 100000;
        return cold * gravity / 9807 + 60 / bore;
    }

    public int stock() {
        return stock;
    }

    public int spilt() {
        return spilt;
    }

    public long checksum() {
        long sum = 7;
        for (Tube drawn : tubes) {
            if (drawn != null) {
                sum = 31 * sum + drawn.volumeUpTo(PLACES);
            }
        }
        for (Instrument made : instruments) {
            if (made != null) {
                sum = made.addTo(sum);
            }
        }
        sum = 31 * sum + stock;
        return 31 * sum + day;
    }

    public float certifiedShare() throws NoSuchElementException {
        if (instrumentCount == 0) {
            throw new NoSuchElementException("there are no instruments");
        }
        int holding = 0;
        for (Instrument made : instruments) {
            if (made != null && made.holdsCertificateOn(day)) {
                holding++;
            }
        }
        return (float) holding / (float) instrumentCount;
    }

    public double meanError(int instrument) throws IndexOutOfBoundsException, NoSuchElementException {
        Readings kept = instrumentNumbered(instrument).readings;
        demandReadings(kept);
        return (double) kept.errorSum() / (double) kept.count;
    }

    public boolean isSound() {
        int mercury = stock + spilt;
        for (Instrument made : instruments) {
            if (made == null) {
                continue;
            }
            mercury += made.mercuryInside();
            if (!made.isInBounds() || instrumentsOfTube(made.tubeNumber) > 1) {
                return false;
            }
        }
        return mercury == bought;
    }

    private int instrumentsOfTube(int tubeNumber) {
        int found = 0;
        for (Instrument made : instruments) {
            if (made != null && made.tubeNumber == tubeNumber) {
                found++;
            }
        }
        return found;
    }

    private Tube tubeNumbered(int number) {
        if (number < 0 || number >= tubes.length || tubes[number] == null) {
            throw new IndexOutOfBoundsException("no such tube");
        }
        return tubes[number];
    }

    private Instrument instrumentNumbered(int number) {
        if (number < 0 || number >= instruments.length || instruments[number] == null) {
            throw new IndexOutOfBoundsException("no such instrument");
        }
        return instruments[number];
    }

    private int levelFound(Instrument made, int temperature, int place) {
        int level = made.levelAt(temperature, place, airTemperature);
        if (level == NONE) {
            throw new NoSuchElementException("it has no level");
        }
        return level;
    }

    private void takeFromStock(int amount) {
        if (amount > stock) {
            throw new UnsupportedOperationException("not as much mercury");
        }
        stock -= amount;
    }

    private static void demandRange(int value, int least, int most) {
        if (value < least || value > most) {
            throw new IllegalArgumentException("a number is out of range");
        }
    }

    private static void demandPlace(int place) {
        demandRange(place, 0, PLACES);
    }

    private static void demandTemperature(int temperature) {
        demandRange(temperature, COLDEST, HOTTEST);
    }

    private static void demandPressure(int pressure) {
        demandRange(pressure, 700, 800);
    }

    private static void demandEither(char given, char one, char other) {
        if (given != one && given != other) {
            throw new IllegalArgumentException("there is no such kind");
        }
    }

    private static void demandUnused(Tube drawn) {
        if (drawn.used) {
            throw new UnsupportedOperationException("the tube is used");
        }
    }

    private static void demandFilled(Instrument made) {
        if (!made.filled) {
            throw new UnsupportedOperationException("it is not filled");
        }
    }

    private static void demandDivided(Instrument made) {
        if (made.scale.kind == UNDIVIDED) {
            throw new UnsupportedOperationException("it is not divided");
        }
    }

    private static void demandReadings(Readings kept) {
        if (kept.count <= 0) {
            throw new NoSuchElementException("no reading is kept");
        }
    }

    private static void demandEnoughForClass(Readings kept) {
        if (kept.count < FEWEST_FOR_CLASS) {
            throw new UnsupportedOperationException("too few readings are kept");
        }
    }

    private static int steamAt(int pressure) {
        return 1000 + 37 * (pressure - 760) / 100;
    }

    private static int clingingToStep(int seconds) {
        return seconds < 60 ? (60 - seconds + 9) / 10 : 0;
    }

    private static char classByError(int greatest) {
        if (greatest <= 2) {
            return 'A';
        }
        if (greatest <= 5) {
            return 'B';
        }
        return greatest <= 10 ? 'C' : 'X';
    }

    /** A tube by the bores of its sections. */
    private static final class Tube {
        private final int[] bores = new int[SECTIONS];
        private boolean used;

        Tube(int bore, int taper) {
            for (int k = 0; k < bores.length; k++) {
                bores[k] = Math.max(1, Math.min(WIDEST_BORE, bore + k * taper));
            }
        }

        int boreOf(int section) {
            return section >= 0 && section < bores.length ? bores[section] : 0;
        }

        void setBore(int section, int bore) {
            if (section >= 0 && section < bores.length) {
                bores[section] = bore;
            }
        }

        int volumeUpTo(int place) {
            int volume = 0;
            for (int k = 0; k < bores.length; k++) {
                volume += bores[k] * stepsBelow(place, k);
            }
            return volume;
        }

        int firstPlaceHolding(int volume) {
            for (int place = 0; place <= PLACES; place++) {
                if (volumeUpTo(place) >= volume) {
                    return place;
                }
            }
            return NONE;
        }

        /** The greatest place up to which the volume is the rest or less, or NONE. */
        int lastPlaceWithin(long rest) {
            if (rest < 0 || rest > volumeUpTo(PLACES)) {
                return NONE;
            }
            int place = 0;
            while (place < PLACES && volumeUpTo(place + 1) <= rest) {
                place++;
            }
            return place;
        }

        int widestSection() {
            int widest = 0;
            for (int k = 1; k < bores.length; k++) {
                if (bores[k] > boreOf(widest)) {
                    widest = k;
                }
            }
            return widest;
        }

        int clinging(int lower, int upper, int perStep) {
            int clings = 0;
            for (int k = 0; k < bores.length; k++) {
                int steps = stepsBelow(upper, k) - stepsBelow(lower, k);
                clings += steps * Math.min(perStep, bores[k]);
            }
            return clings;
        }

        private static int stepsBelow(int place, int section) {
            return Math.max(0, Math.min(STEPS, place - section * STEPS));
        }
    }

    /** A bulb on a tube, with what is in it. */
    private static final class Instrument {
        private final int tubeNumber;
        private final Tube tube;
        private final int bulb;
        private final char glass;
        private final Scale scale;
        private final Readings readings = new Readings();
        private int crept;
        private boolean filled;
        private boolean smashed;
        private char liquid = ' ';
        private int inside;
        private int gap;
        private boolean keeper;
        private int greatestLevel = NONE;
        private int certificateEnd = NONE;

        Instrument(int tubeNumber, Tube tube, int bulb, char glass) {
            this.tubeNumber = tubeNumber;
            this.tube = tube;
            this.bulb = bulb;
            this.glass = glass;
            this.scale = new Scale(tube);
        }

        int creepsInAll() {
            return bulb * (glass == HARD ? 2 : 6) / 1000;
        }

        void creep(int days) {
            for (int i = 0; i < days; i++) {
                crept += (creepsInAll() - crept + 19) / 20;
            }
        }

        int roomUpTo(int place) {
            return bulb - crept + tube.volumeUpTo(place);
        }

        void fillWith(char newLiquid, int amount) {
            filled = true;
            liquid = newLiquid;
            inside = amount;
        }

        /** Points, readings and the break stay, for the document ends none of them by a smash. */
        void breakUp() {
            smashed = true;
            filled = false;
            inside = 0;
        }

        int mercuryInside() {
            return liquid == MERCURY ? inside : 0;
        }

        int levelAt(int temperature, int dipped, int airTemperature) {
            long rest = restInTube(temperature);
            int level = tube.lastPlaceWithin(rest);
            if (level <= dipped) {
                return level;
            }
            long outside = tube.volumeUpTo(level) - tube.volumeUpTo(dipped);
            return tube.lastPlaceWithin(rest - grown(outside, liquidGrowth(), temperature - airTemperature));
        }

        private long restInTube(int temperature) {
            long liquidThen = inside + grown(inside, liquidGrowth(), temperature);
            long bulbThen = bulb + grown(bulb, glassGrowth(), temperature);
            return liquidThen - bulbThen + crept;
        }

        private int liquidGrowth() {
            return liquid == MERCURY ? 18 : 110;
        }

        private int glassGrowth() {
            return glass == HARD ? 1 : 3;
        }

        private static long grown(long amount, int millionths, int degrees) {
            return amount * millionths * degrees / MILLION;
        }

        int readInBath(int temperature, int level) {
            if (temperature <= JOINING) {
                gap = 0;
            }
            int reading = scale.readingAt(Math.min(PLACES, levelShown(level) + gap));
            readings.append(reading, temperature);
            if (temperature > HEATING) {
                crept /= 2;
                certificateEnd = NONE;
            }
            return reading;
        }

        private int levelShown(int level) {
            if (!keeper) {
                return level;
            }
            greatestLevel = Math.max(greatestLevel, level);
            return greatestLevel;
        }

        /** Heat ends the certificate held then; a smashed bulb has none that holds, whenever it was given. */
        boolean holdsCertificateOn(int day) {
            return !smashed && day <= certificateEnd;
        }

        boolean isInBounds() {
            return crept >= 0 && crept <= creepsInAll() && readings.count <= MOST_READINGS;
        }

        long addTo(long sum) {
            long withBulb = 31 * (31 * sum + inside) + crept;
            return readings.addTo(withBulb);
        }
    }

    /** The two points of an instrument and how it is divided between them. */
    private static final class Scale {
        private final Tube tube;
        private int icePlace = NONE;
        private int steamPlace = NONE;
        private int steamTemperature;
        private char kind = UNDIVIDED;

        Scale(Tube tube) {
            this.tube = tube;
        }

        void putIce(int place) {
            icePlace = place;
            kind = UNDIVIDED;
        }

        void putSteam(int place, int temperature) {
            steamPlace = place;
            steamTemperature = temperature;
            kind = UNDIVIDED;
        }

        boolean hasUnlikePoints() {
            return icePlace != NONE && steamPlace != NONE && icePlace != steamPlace;
        }

        int placesBetween() {
            return steamPlace - icePlace;
        }

        int readingAt(int place) {
            int whole = farAboveIce(steamPlace);
            if (whole == 0) {
                return 0;
            }
            return steamTemperature * farAboveIce(place) / whole;
        }

        private int farAboveIce(int place) {
            if (kind == BY_VOLUME) {
                return tube.volumeUpTo(place) - tube.volumeUpTo(icePlace);
            }
            return place - icePlace;
        }
    }

    /** The readings that are kept, the oldest one first. */
    private static final class Readings {
        private final int[] values = new int[MOST_READINGS];
        private final int[] errors = new int[MOST_READINGS];
        private int count;

        void append(int reading, int temperature) {
            if (count >= MOST_READINGS) {
                loseOldest();
            }
            if (count >= 0 && count < MOST_READINGS) {
                values[count] = reading;
                errors[count] = reading - temperature;
                count++;
            }
        }

        private void loseOldest() {
            for (int i = 1; i < MOST_READINGS; i++) {
                values[i - 1] = values[i];
                errors[i - 1] = errors[i];
            }
            count = MOST_READINGS - 1;
        }

        int newestError() {
            return count > 0 && count <= MOST_READINGS ? errors[count - 1] : 0;
        }

        int greatestError() {
            int greatest = 0;
            for (int i = 0; i < MOST_READINGS && i < count; i++) {
                greatest = Math.max(greatest, Math.abs(errors[i]));
            }
            return greatest;
        }

        int errorSum() {
            int sum = 0;
            for (int i = 0; i < MOST_READINGS && i < count; i++) {
                sum += errors[i];
            }
            return sum;
        }

        long addTo(long sum) {
            long with = sum;
            for (int i = 0; i < MOST_READINGS && i < count; i++) {
                with = 31 * with + values[i];
            }
            return with;
        }
    }
}
