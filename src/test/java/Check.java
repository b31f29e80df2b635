import java.util.function.Consumer;
import java.util.function.Function;
import java.util.function.Supplier;

/** Compares answers with those that are due, and counts the wrong ones. */
final class Check {
    private int made;
    private int wrong;

    void same(String what, long got, long want) {
        same(what, Long.toString(got), Long.toString(want));
    }

    void same(String what, boolean got, boolean want) {
        same(what, Boolean.toString(got), Boolean.toString(want));
    }

    void same(String what, String got, String want) {
        made++;
        if (!got.equals(want)) {
            wrong++;
            System.out.println(what + " answered " + got + ", due is " + want);
        }
    }

    /** The call throws just this exception, no class below it, and changes nothing. */
    void refuses(String what, Supplier<ResolverFleet> maker, Class<? extends RuntimeException> due,
            Consumer<ResolverFleet> call) {
        same(what + " throws", thrown(maker.get(), call), due.getName());
        changesNothing(what, maker, call);
    }

    void accepts(String what, Supplier<ResolverFleet> maker, Consumer<ResolverFleet> call) {
        same(what + " throws", thrown(maker.get(), call), "nothing");
    }

    /** The call, whether it throws or not, leaves the fleet like a twin that did not get it. */
    void changesNothing(String what, Supplier<ResolverFleet> maker, Consumer<ResolverFleet> call) {
        for (Function<ResolverFleet, String> side : Picture.SIDES) {
            ResolverFleet fleet = maker.get();
            thrown(fleet, call);
            same("all that can be seen after " + what, side.apply(fleet), side.apply(maker.get()));
        }
    }

    private static String thrown(ResolverFleet fleet, Consumer<ResolverFleet> call) {
        try {
            call.accept(fleet);
        } catch (RuntimeException e) {
            return e.getClass().getName();
        }
        return "nothing";
    }

    void finish() {
        System.out.println(wrong == 0 ? made + " answers are as due" : wrong + " of " + made + " answers are wrong");
        if (wrong != 0) {
            System.exit(1);
        }
    }
}
