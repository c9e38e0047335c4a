/** Counts the answers that are not as due, prints them, and ends the program with 1 if there was one. */
final class Check {
    interface Call {
        void run();
    }

    private int wrong;

    void same(String what, int got, int due) {
        if (got != due) {
            tell(what + " answered " + got + ", due is " + due);
        }
    }

    void yes(String what, boolean got) {
        if (!got) {
            tell(what + " answered false, due is true");
        }
    }

    void no(String what, boolean got) {
        if (got) {
            tell(what + " answered true, due is false");
        }
    }

    void throwing(String what, Class<? extends RuntimeException> due, Call call) {
        try {
            call.run();
        } catch (RuntimeException e) {
            if (e.getClass() != due) {
                tell(what + " threw " + e.getClass().getSimpleName() + ", due is " + due.getSimpleName());
            }
            return;
        }
        tell(what + " threw nothing, due is " + due.getSimpleName());
    }

    void tell(String text) {
        wrong++;
        System.out.println(text);
    }

    void end() {
        System.out.println(wrong == 0 ? "all answers are as due" : wrong + " answers are not as due");
        if (wrong != 0) {
            System.exit(1);
        }
    }
}
