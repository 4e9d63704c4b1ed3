import java.util.function.Supplier;

/** Counts the answers of one test that are not the ones that are due. */
final class Check {
    interface Deed {
        void on(DraftLeague league);
    }

    private int wrong;

    void due(String what, long got, long want) {
        if (got != want) {
            report(what + " answered " + got + ", due is " + want);
        }
    }

    void due(String what, boolean got, boolean want) {
        if (got != want) {
            report(what + " answered " + got + ", due is " + want);
        }
    }

    void due(String what, double got, double want) {
        if (got != want) {
            report(what + " answered " + got + ", due is " + want);
        }
    }

    void due(String what, String got, String want) {
        if (!got.equals(want)) {
            report(what + " answered " + got + ", due is " + want);
        }
    }

    /** The call throws just this, and leaves the league as one for which it was not made. */
    void refused(String what, Class<? extends RuntimeException> kind, Supplier<DraftLeague> setting, Deed deed) {
        DraftLeague league = setting.get();
        due(what + " throws", thrownBy(league, deed), kind.getName());
        due(what + " leaves", Aftermath.of(league), Aftermath.of(setting.get()));
    }

    /** The call throws nothing. */
    void allowed(String what, Supplier<DraftLeague> setting, Deed deed) {
        due(what + " throws", thrownBy(setting.get(), deed), "nothing");
    }

    private static String thrownBy(DraftLeague league, Deed deed) {
        try {
            deed.on(league);
        } catch (RuntimeException e) {
            return e.getClass().getName();
        }
        return "nothing";
    }

    void report(String text) {
        wrong++;
        System.out.println(text);
    }

    void finish() {
        if (wrong != 0) {
            System.out.println(wrong + " answers are not as due");
            System.exit(1);
        }
    }
}
