/** Counts the answers that are not as due, and ends the test by them. */
final class Due {
    private final String name;
    private int asked = 0;
    private int wrong = 0;

    Due(String name) {
        this.name = name;
    }

    void is(String call, long got, long want) {
        asked++;
        if (got != want) {
            wrong++;
            System.out.println(name + ": " + call + " answered " + got + ", due is " + want);
        }
    }

    void yes(String call, boolean got) {
        is(call, got ? 1 : 0, 1);
    }

    void no(String call, boolean got) {
        is(call, got ? 1 : 0, 0);
    }

    void index(String call, Runnable body) {
        refused(call, IndexOutOfBoundsException.class, body);
    }

    void argument(String call, Runnable body) {
        refused(call, IllegalArgumentException.class, body);
    }

    void state(String call, Runnable body) {
        refused(call, IllegalStateException.class, body);
    }

    /** The class itself is asked for: a subclass would be one that the machine threw. */
    private void refused(String call, Class<?> want, Runnable body) {
        asked++;
        String got = "nothing";
        try {
            body.run();
        } catch (RuntimeException e) {
            if (e.getClass() == want) {
                return;
            }
            got = e.getClass().getName();
        }
        wrong++;
        System.out.println(name + ": " + call + " threw " + got + ", due is " + want.getName());
    }

    void end() {
        System.out.println(wrong == 0 ? asked + " answers are as due" : wrong + " answers are not as due");
        if (wrong != 0) {
            System.exit(1);
        }
    }

    static boolean type(RouterPaths router, String text) {
        boolean all = true;
        for (int i = 0; i < text.length(); i++) {
            all &= router.unit(text.charAt(i));
        }
        return all;
    }

    static int reading(RouterPaths router, String text) {
        type(router, text);
        return router.read();
    }

    static int running(RouterPaths router, String text) {
        int count = reading(router, text);
        if (count < 1) {
            throw new AssertionError("the test's own text has a fault: " + text + " " + count);
        }
        return router.run();
    }
}
