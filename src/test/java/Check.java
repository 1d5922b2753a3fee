/** Counts what is not as due; a refused call answers the name of its exception. */
final class Check {
    /** A call of the laboratory. */
    interface Call {
        Object answer();
    }

    private static final int MOST_SHOWN = 40;
    private int made = 0;
    private int wrong = 0;

    /** The name of the very class: a subclass that the machine throws is not what the document names. */
    static Object outcome(Call call) {
        try {
            return call.answer();
        } catch (RuntimeException e) {
            return "throws." + e.getClass().getSimpleName();
        }
    }

    /** How a call that is due to throw answers. */
    static String refusal(String name) {
        return "throws." + name;
    }

    void due(String what, Object want, Call call) {
        made++;
        Object got = outcome(call);
        if (!want.equals(got)) {
            wrong++;
            if (wrong <= MOST_SHOWN) {
                System.out.println(what + " answered " + got + ", due is " + want);
            }
        }
    }

    void same(String what, Call plain, Call call) {
        due(what, outcome(plain), call);
    }

    void end() {
        System.out.println(made + " checks, " + wrong + " wrong");
        if (wrong != 0 || made == 0) {
            System.exit(1);
        }
    }
}
