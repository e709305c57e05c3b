import java.util.List;

/** Counts the answers that are not as due, and ends a test's run by them. */
final class Check {
    private static int made = 0;
    private static int wrong = 0;

    interface Call {
        long answer();
    }

    private Check() {
    }

    static void due(String what, long got, long want) {
        made++;
        if (got != want) {
            wrong++;
            System.out.println(what + " answered " + got + ", due is " + want);
        }
    }

    static void dueDouble(String what, double got, double want) {
        made++;
        if (got != want) {
            wrong++;
            System.out.println(what + " answered " + got + ", due is " + want);
        }
    }

    /** The call throws just this exception, and all that the court tells stays as it was. */
    static void dueThrow(String what, FivesCourt court, Class<?> kind, Call call) {
        made++;
        List<String> before = Seen.of(court);
        String got;
        try {
            got = "answered " + call.answer();
        } catch (RuntimeException e) {
            got = e.getClass() == kind ? "" : "threw " + e.getClass().getName();
        }
        if (!got.isEmpty()) {
            wrong++;
            System.out.println(what + " " + got + ", due is " + kind.getName());
        }
        dueSame("behind " + what, Seen.of(court), before);
    }

    /** Tells the first line that differs. */
    static void dueSame(String what, List<String> got, List<String> want) {
        made++;
        for (int i = 0; i < want.size(); i++) {
            if (!got.get(i).equals(want.get(i))) {
                wrong++;
                System.out.println(what + ": " + got.get(i) + ", due is " + want.get(i));
                return;
            }
        }
    }

    static void finish(String test) {
        System.out.println(test + ": " + made + " answers looked at, " + wrong + " not as due");
        if (wrong != 0) {
            System.exit(1);
        }
    }
}
