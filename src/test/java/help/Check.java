/** Holds answers against what is due, and tells each that is another one. */
final class Check {
    private static int wrong;
    private static int checked;

    private Check() {
    }

    /** A call that may be refused. */
    interface Call {
        void go();
    }

    static void due(String what, long want, long got) {
        checked++;
        if (want != got) {
            wrong++;
            System.out.println(what + " answered " + got + ", due is " + want);
        }
    }

    static void holds(String what, boolean got) {
        due(what, 1, got ? 1 : 0);
    }

    static void text(String what, String want, String got) {
        checked++;
        if (!want.equals(got)) {
            wrong++;
            System.out.println(what + " answered \"" + got + "\", due is \"" + want + "\"");
        }
    }

    /** Answers of one call for 0, 1, ..: as many as are due. */
    static void row(String what, int[] got, int... want) {
        due(what + ": how many", want.length, got.length);
        for (int i = 0; i < want.length && i < got.length; i++) {
            due(what + ", " + i, want[i], got[i]);
        }
    }

    static void noPlayer(SnapHeaps x, String what, Call call) {
        refused(x, what, call, "NoSuchElementException", 0);
    }

    static void noNumber(SnapHeaps x, String what, Call call) {
        refused(x, what, call, "IllegalArgumentException", 1);
    }

    private static void refused(SnapHeaps x, String what, Call call, String want, int reason) {
        checked++;
        int before = x.status(reason);
        int others = x.status(1 - reason);
        String got = "nothing";
        try {
            call.go();
        } catch (RuntimeException e) {
            got = e.getClass().getSimpleName();
        }
        if (!got.equals(want)) {
            wrong++;
            System.out.println(what + " threw " + got + ", due is " + want);
        }
        due(what + ": refusals of the kind", before + 1, x.status(reason));
        due(what + ": refusals of the other kind", others, x.status(1 - reason));
    }

    static void end(String name) {
        if (wrong > 0) {
            System.out.println(name + ": " + wrong + " of " + checked + " wrong");
            System.exit(1);
        }
        System.out.println(name + ": " + checked + " answers as due");
    }
}
