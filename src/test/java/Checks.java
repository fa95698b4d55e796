import java.util.function.BiFunction;
import java.util.function.Function;
import java.util.function.Supplier;

/** What every test uses: it counts the answers that are not as due, and ends the test by them. */
final class Checks {
    private static int made;
    private static int wrong;
    private static String sentence = "";

    interface Call {
        Object go();
    }

    private Checks() {
    }

    /** The words of the document that the next checks are of; they are printed ahead of a wrong answer. */
    static void under(String words) {
        sentence = words.isEmpty() ? "" : "[" + words + "] ";
    }

    /** An answer as a text, so that an exception is compared as an answer is. */
    static String answer(Call call) {
        try {
            return String.valueOf(call.go());
        } catch (RuntimeException thrown) {
            return thrown(thrown.getClass());
        }
    }

    static String thrown(Class<? extends RuntimeException> exception) {
        return "throws " + exception.getSimpleName();
    }

    static void due(String what, Object due, Call call) {
        String got = answer(call);
        made++;
        if (!got.equals(String.valueOf(due))) {
            wrong++;
            System.out.println(sentence + what + " answered " + got + ", due is " + due);
        }
    }

    /** The call is refused by that exception, and what can be seen of the object stays as it was. */
    static void refused(String what, Class<? extends RuntimeException> due, Meniscus works, Call call) {
        String before = seen(works);
        due(what, thrown(due), call);
        due(what + ": what is seen behind it", before, () -> seen(works));
    }

    static void end() {
        System.out.println(made + " answers, " + wrong + " not as due");
        if (wrong != 0 || made == 0) {
            System.exit(1);
        }
    }

    /** A few calls alone, for an object has but 512; Refusals looks at all that an object holds. */
    private static String seen(Meniscus x) {
        return answer(x::checksum) + " " + answer(x::spilt) + " " + answer(x::certifiedShare) + " "
                + answer(x::isSound);
    }

    /** All that works hold, so far as answers tell it; behind this they are used up. */
    static String probe(Meniscus x) {
        StringBuilder text = new StringBuilder();
        for (int tube = 0; tube < 8 && holds(x::widest, tube); tube++) {
            for (int section = 0; section < 20; section++) {
                text.append(x.bore(tube, section)).append(' ');
            }
        }
        int made = 0;
        while (made < 6 && holds(x::inside, made)) {
            look(x, made, text);
            made++;
        }
        text.append(x.stock()).append(' ').append(x.spilt()).append(' ').append(x.checksum()).append(' ')
                .append(answer(x::certifiedShare)).append(' ').append(x.isSound()).append(' ').append(x.air(0));
        for (int i = 0; i < made; i++) {
            useUp(x, i, text);
        }
        return text.append(answer(() -> x.days(1))).toString();
    }

    private static boolean holds(Function<Integer, Object> asked, int number) {
        return !answer(() -> asked.apply(number)).equals(thrown(IndexOutOfBoundsException.class));
    }

    private static void look(Meniscus x, int i, StringBuilder text) {
        Call[] calls = {() -> x.inside(i), () -> x.crept(i), () -> x.tests(i), () -> x.error(i), () -> x.worst(i),
            () -> x.meanError(i), () -> x.isCertified(i), () -> x.isBroken(i), () -> x.readsAt(i, 0),
            () -> x.readsAt(i, 200), () -> x.level(i, 0, 200), () -> x.level(i, 900, 0)};
        append(calls, text);
    }

    private static void useUp(Meniscus x, int i, StringBuilder text) {
        Call[] calls = {() -> x.shake(i), () -> x.keep(i, false), () -> x.breakThread(i, 1),
            () -> x.divide(i, 'l'), () -> x.readsAt(i, 200), () -> x.smash(i)};
        append(calls, text);
    }

    private static void append(Call[] calls, StringBuilder text) {
        for (Call call : calls) {
            text.append(answer(call)).append(' ');
        }
        text.append('\n');
    }

    // Rows of SentencesTest: each begins with works of its own.

    static void yes(Object due, Supplier<Meniscus> setup, Function<Meniscus, Object> call) {
        Meniscus x = setup.get();
        due("answer", due, () -> call.apply(x));
    }

    /** The call throws just that, and the works hold behind it what such works hold without it. */
    static void no(Class<? extends RuntimeException> due, Supplier<Meniscus> setup, Function<Meniscus, Object> call) {
        Meniscus x = setup.get();
        due("the call", thrown(due), () -> call.apply(x));
        due("what the works hold behind it", probe(setup.get()), () -> probe(x));
    }

    /** Both ends are taken, and what is beyond them is refused. */
    static void range(int least, int most, Class<? extends RuntimeException> due, Supplier<Meniscus> setup,
            BiFunction<Meniscus, Integer, Object> call) {
        for (int taken : new int[] {least, most}) {
            Meniscus x = setup.get();
            due("refused " + taken, false, () -> answer(() -> call.apply(x, taken)).equals(thrown(due)));
        }
        for (int beyond : new int[] {least - 1, most + 1, Integer.MIN_VALUE, Integer.MAX_VALUE}) {
            no(due, setup, x -> call.apply(x, beyond));
        }
    }

    /** Only the signs that are told are taken. */
    static void kinds(String told, Supplier<Meniscus> setup, BiFunction<Meniscus, Character, Object> call) {
        String refused = thrown(IllegalArgumentException.class);
        Meniscus x = setup.get();
        for (int sign = 0; sign < 200; sign++) {
            char kind = (char) sign;
            Meniscus used = told.indexOf(kind) >= 0 ? setup.get() : x;
            due("refused the sign " + sign, told.indexOf(kind) < 0,
                    () -> answer(() -> call.apply(used, kind)).equals(refused));
        }
        for (char kind : told.toCharArray()) {
            due("the sign beyond 255", refused, () -> call.apply(x, (char) (kind + 256)));
        }
        due("what the works hold behind it", probe(setup.get()), () -> probe(x));
    }
}
