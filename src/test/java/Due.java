/** Compares answers with what is due and remembers whether one was wrong. */
final class Due {
    interface Call {
        void run();
    }

    private static int wrong = 0;
    private static int asked = 0;

    private Due() {
    }

    static void same(String label, long got, long want) {
        asked++;
        if (got != want) {
            complain(label + " answered " + got + ", due is " + want);
        }
    }

    static void fails(String label, Class<? extends RuntimeException> kind, Call call) {
        asked++;
        try {
            call.run();
        } catch (RuntimeException e) {
            if (e.getClass() != kind) {
                complain(label + " threw " + e.getClass().getName() + ", due is " + kind.getName());
            }
            return;
        }
        complain(label + " threw nothing, due is " + kind.getName());
    }

    static void outOfBounds(String label, Call call) {
        fails(label, IndexOutOfBoundsException.class, call);
    }

    static void complain(String text) {
        wrong++;
        System.out.println(text);
    }

    static void end(String test) {
        System.out.println(test + ": " + asked + " answers, " + wrong + " wrong");
        if (wrong != 0) {
            System.exit(1);
        }
    }
}
