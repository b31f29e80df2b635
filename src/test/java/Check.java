import java.util.function.Consumer;
import java.util.function.Supplier;

/** Compares answers with those that are due, and counts the wrong ones. */
final class Check {
    private int made;
    private int wrong;

    void same(String what, long got, long want) {
        same(what, Long.toString(got), Long.toString(want));
    }

    void same(String what, boolean got, boolean want) {
        same(what, Boolean.toString(got), Boolean.toString(want));
    }

    void same(String what, String got, String want) {
        made++;
        if (!got.equals(want)) {
            wrong++;
            System.out.println(what + " answered " + got + ", due is " + want);
        }
    }

    /** The call throws just this exception, no class below it, and leaves the fleet like a twin that did not get it. */
    void refuses(String what, Supplier<ResolverFleet> maker, Class<? extends RuntimeException> due,
            Consumer<ResolverFleet> call) {
        ResolverFleet fleet = maker.get();
        same(what + " throws", thrown(fleet, call), due.getName());
        same("all that can be seen after " + what, Picture.of(fleet), Picture.of(maker.get()));
    }

    private static String thrown(ResolverFleet fleet, Consumer<ResolverFleet> call) {
        try {
            call.accept(fleet);
        } catch (RuntimeException e) {
            return e.getClass().getName();
        }
        return "nothing";
    }

    void finish() {
        System.out.println(wrong == 0 ? made + " answers are as due" : wrong + " of " + made + " answers are wrong");
        if (wrong != 0) {
            System.exit(1);
        }
    }
}
