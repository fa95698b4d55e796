/** What every test uses: it counts the answers that are not as due, and ends the test by them. */
final class Checks {
    private static int made;
    private static int wrong;

    interface Call {
        Object go();
    }

    private Checks() {
    }

    /** An answer as a text, so that an exception is compared as an answer is. */
    static String answer(Call call) {
        try {
            return String.valueOf(call.go());
        } catch (RuntimeException thrown) {
            return "throws " + thrown.getClass().getSimpleName();
        }
    }

    static void due(String what, Object due, Call call) {
        String got = answer(call);
        made++;
        if (!got.equals(String.valueOf(due))) {
            wrong++;
            System.out.println(what + " answered " + got + ", due is " + due);
        }
    }

    /** The call is refused by that exception, and what can be seen of the object stays as it was. */
    static void refused(String what, Class<? extends RuntimeException> due, Meniscus works, Call call) {
        String before = seen(works);
        due(what, "throws " + due.getSimpleName(), call);
        due(what + ": what is seen behind it", before, () -> seen(works));
    }

    static void end() {
        System.out.println(made + " answers, " + wrong + " not as due");
        if (wrong != 0 || made == 0) {
            System.exit(1);
        }
    }

    /** All that can be asked without a change. */
    static String seen(Meniscus x) {
        StringBuilder text = new StringBuilder();
        for (int t = 0; t < 8; t++) {
            int tube = t;
            for (int k = 0; k < 20; k++) {
                int section = k;
                text.append(answer(() -> x.bore(tube, section))).append(' ');
            }
        }
        for (int i = 0; i < 6; i++) {
            int it = i;
            text.append(answer(() -> x.inside(it))).append(' ').append(answer(() -> x.crept(it))).append(' ')
                    .append(answer(() -> x.tests(it))).append(' ').append(answer(() -> x.error(it))).append(' ')
                    .append(answer(() -> x.worst(it))).append(' ').append(answer(() -> x.grade(it))).append(' ')
                    .append(answer(() -> x.meanError(it))).append(' ').append(answer(() -> x.isCertified(it)))
                    .append(' ').append(answer(() -> x.isBroken(it))).append(' ')
                    .append(answer(() -> x.readsAt(it, 0))).append(' ').append(answer(() -> x.readsAt(it, 200)))
                    .append(' ').append(answer(() -> x.level(it, 0, 200))).append(' ')
                    .append(answer(() -> x.level(it, 900, 0))).append('\n');
        }
        return text.append(answer(x::stock)).append(' ').append(answer(x::spilt)).append(' ')
                .append(answer(x::checksum)).append(' ').append(answer(x::certifiedShare)).append(' ')
                .append(answer(x::isSound)).toString();
    }
}
