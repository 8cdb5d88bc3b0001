/** Counts wrong answers and prints them; a test ends by done(). */
final class Checks {
    private int wrong = 0;
    private int made = 0;
    private String about = "";

    /** Said ahead of all wrong answers from now on. */
    void about(String what) {
        about = what + ": ";
    }

    int made() {
        return made;
    }

    void same(String what, long got, long due) {
        made++;
        if (got != due) {
            tellWrong(what, String.valueOf(got), String.valueOf(due));
        }
    }

    void same(String what, boolean got, boolean due) {
        same(what, got ? 1 : 0, due ? 1 : 0);
    }

    void same(String what, String got, String due) {
        made++;
        if (!got.equals(due)) {
            tellWrong(what, got, due);
        }
    }

    private void tellWrong(String what, String got, String due) {
        wrong++;
        if (wrong <= 50) {
            System.out.println(about + what + " answered " + got + ", due is " + due);
        }
    }

    void index(String what, Runnable call) {
        refuses(what, call, IndexOutOfBoundsException.class);
    }

    void argument(String what, Runnable call) {
        refuses(what, call, IllegalArgumentException.class);
    }

    void taken(String what, Runnable call) {
        refuses(what, call, null);
    }

    /** The very class: what the Java machine throws by itself is of a class below these. */
    private void refuses(String what, Runnable call, Class<?> due) {
        Class<?> got = null;
        try {
            call.run();
        } catch (RuntimeException e) {
            got = e.getClass();
        }
        made++;
        if (got != due) {
            wrong++;
            System.out.println(about + what + " threw " + got + ", due is " + due);
        }
    }

    boolean anyWrong() {
        return wrong > 0;
    }

    void done(String test) {
        System.out.println(test + ": " + made + " answers, " + wrong + " of them wrong");
        if (wrong > 0 || made == 0) {
            System.exit(1);
        }
    }
}
