import java.lang.reflect.Array;
import java.lang.reflect.Field;

/** Promise 41: the face makes no works that are not sound, so these tests reach into the fields of the class. */
final class Sound {
    private static final String WORDS = "Tells whether the stock, the mercury in instruments, and what was spilt are what "
            + "was bought;";

    private Sound() {
    }

    static void all() throws Exception {
        mercury();
        creep();
        readings();
        tubes();
    }

    private static void tell(String words) {
        Document.tell(Document.promise(41), words);
    }

    private static Object get(Object owner, String name) throws Exception {
        return field(owner, name).get(owner);
    }

    private static Field field(Object owner, String name) throws Exception {
        Field field = owner.getClass().getDeclaredField(name);
        field.setAccessible(true);
        return field;
    }

    private static Object instrument(Meniscus x, int number) throws Exception {
        return Array.get(get(x, "instruments"), number);
    }

    /** The field becomes another one for the time of one answer. */
    private static void due(boolean due, Meniscus x, Object owner, String name, int value) throws Exception {
        Field field = field(owner, name);
        Object before = field.get(owner);
        field.set(owner, value);
        Checks.due("isSound with " + name + " of " + value + " in place of " + before, due, x::isSound);
        field.set(owner, before);
        Checks.due("isSound as it was", true, x::isSound);
    }

    /** Mercury in two of them, spirit in one, nothing in one, and one that was smashed. */
    private static Meniscus works() {
        Meniscus x = Works.sixMade();
        x.fill(0, 'm', 20);
        x.fill(1, 'm', 30);
        x.fill(2, 's', 20);
        x.fill(3, 'm', 40);
        x.smash(3);
        x.days(1);
        return x;
    }

    private static void mercury() throws Exception {
        tell(WORDS);
        Meniscus x = works();
        int stock = x.stock();
        due(false, x, x, "stock", stock - 1);
        due(false, x, x, "stock", stock + 1);
        due(false, x, x, "spilt", 5039);
        due(false, x, x, "spilt", 5041);
        due(false, x, x, "spilt", 0);
        due(false, x, instrument(x, 0), "inside", 5019);
        due(false, x, instrument(x, 1), "inside", 5031);
        due(true, x, instrument(x, 2), "inside", 0);
    }

    private static void creep() throws Exception {
        tell("bulbs have crept from 0 to what they will;");
        Meniscus x = works();
        for (int number = 0; number < 6; number++) {
            Object bulb = instrument(x, number);
            due(false, x, bulb, "crept", -1);
            due(true, x, bulb, "crept", 0);
            due(true, x, bulb, "crept", 10);
            due(false, x, bulb, "crept", 11);
        }
        Meniscus soft = Works.made('s');
        due(true, soft, instrument(soft, 0), "crept", 300);
        due(false, soft, instrument(soft, 0), "crept", 301);
    }

    private static void readings() throws Exception {
        tell("at most 8 readings are kept;");
        Meniscus x = Works.sixDivided();
        for (int number = 0; number < 6; number++) {
            Object kept = get(instrument(x, number), "readings");
            due(true, x, kept, "count", 8);
            due(false, x, kept, "count", 9);
        }
    }

    private static void tubes() throws Exception {
        tell("and no tube is used twice.");
        Meniscus x = works();
        due(false, x, instrument(x, 1), "tubeNumber", 0);
        due(false, x, instrument(x, 0), "tubeNumber", 5);
        due(true, x, instrument(x, 0), "tubeNumber", 7);
    }
}
