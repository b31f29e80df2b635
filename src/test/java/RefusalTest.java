import java.util.List;
import java.util.function.Consumer;
import java.util.function.Supplier;

/** Refused calls: which exception is due where several apply, and that nothing has changed behind them. */
public final class RefusalTest {
    private static final Check CHECK = new Check();
    private static final Class<IndexOutOfBoundsException> INDEX = IndexOutOfBoundsException.class;
    private static final Class<IllegalArgumentException> ARGUMENT = IllegalArgumentException.class;
    private static final Class<IllegalStateException> STATE = IllegalStateException.class;
    private static final int[] NO_NAMES = {-1, 16, Integer.MIN_VALUE, Integer.MAX_VALUE};
    private static final int[] NO_CLIENTS = {-1, 100, Integer.MIN_VALUE, Integer.MAX_VALUE};
    private static final List<Supplier<ResolverFleet>> ALL = List.of(ResolverFleet::new, Fleets::busy, Fleets::full,
        Fleets::withdrawn, Fleets::hot, Fleets::spread);

    public static void main(String[] args) {
        setAddress();
        setAlias();
        aliasForItself();
        addSite();
        queryWithASite();
        queryWithoutASite();
        left();
        sitesAndNames();
        aSiteThatIsTakenForAName();
        manyRefusalsInARow();
        wouldAnswerChangesNothing();
        callsThatTell();
        CHECK.finish();
    }

    private static void refusedByAll(String what, Class<? extends RuntimeException> due, Consumer<ResolverFleet> call) {
        for (Supplier<ResolverFleet> maker : ALL) {
            CHECK.refuses(what, maker, due, call);
        }
    }

    /** "If several exceptions of a throws clause apply, the one that is listed first is thrown." */
    private static void setAddress() {
        for (int name : NO_NAMES) {
            refusedByAll("2: wrong name", INDEX, f -> f.setAddress(name, 5, 5));
            refusedByAll("2: wrong name and address", INDEX, f -> f.setAddress(name, 0, 5));
            refusedByAll("2: wrong name and time to live", INDEX, f -> f.setAddress(name, 5, 1001));
            refusedByAll("2: all wrong", INDEX, f -> f.setAddress(name, 10000, 0));
        }
        refusedByAll("2: wrong address", ARGUMENT, f -> f.setAddress(0, 10000, 5));
        refusedByAll("2: wrong time to live", ARGUMENT, f -> f.setAddress(0, 5, 1001));
        refusedByAll("2: wrong address and time to live", ARGUMENT, f -> f.setAddress(15, 0, 0));
    }

    private static void setAlias() {
        for (int no : NO_NAMES) {
            refusedByAll("3: wrong name", INDEX, f -> f.setAlias(no, 5, 5));
            refusedByAll("3: wrong target", INDEX, f -> f.setAlias(5, no, 5));
            refusedByAll("3: wrong name and target, alike", INDEX, f -> f.setAlias(no, no, 5));
            refusedByAll("3: wrong name and time to live", INDEX, f -> f.setAlias(no, 5, 0));
            refusedByAll("3: wrong target and time to live", INDEX, f -> f.setAlias(5, no, 1001));
            refusedByAll("3: all wrong, alike", INDEX, f -> f.setAlias(no, no, 0));
        }
        refusedByAll("3: wrong name and target", INDEX, f -> f.setAlias(-1, 16, 5));
        refusedByAll("3: all wrong", INDEX, f -> f.setAlias(16, -1, -1));
        refusedByAll("3: wrong time to live", ARGUMENT, f -> f.setAlias(0, 15, 0));
        refusedByAll("3: wrong time to live", ARGUMENT, f -> f.setAlias(15, 0, 1001));
    }

    /** "if target is name": every name, with a time to live that is in its range or not. */
    private static void aliasForItself() {
        for (int name = 0; name < 16; name++) {
            int itself = name;
            refusedByAll("3: target is name", ARGUMENT, f -> f.setAlias(itself, itself, 1));
            refusedByAll("3: target is name", ARGUMENT, f -> f.setAlias(itself, itself, 1000));
            refusedByAll("3: target is name, wrong time to live", ARGUMENT, f -> f.setAlias(itself, itself, 0));
        }
    }

    /** The range comes first, whether there are 4 sites or not. */
    private static void addSite() {
        for (int position : NO_CLIENTS) {
            refusedByAll("8: wrong position", ARGUMENT, f -> f.addSite(position));
        }
        for (Supplier<ResolverFleet> maker : List.<Supplier<ResolverFleet>>of(Fleets::full, Fleets::withdrawn, Fleets::spread)) {
            CHECK.refuses("8: 4 sites, least position", maker, STATE, f -> f.addSite(0));
            CHECK.refuses("8: 4 sites, greatest position", maker, STATE, f -> f.addSite(99));
        }
    }

    private static void queryWithASite() {
        for (Supplier<ResolverFleet> maker : List.<Supplier<ResolverFleet>>of(Fleets::busy, Fleets::full, Fleets::hot, Fleets::spread)) {
            for (int no : NO_NAMES) {
                CHECK.refuses("14: wrong name", maker, INDEX, f -> f.query(5, no));
                CHECK.refuses("14: wrong name and client", maker, INDEX, f -> f.query(100, no));
                CHECK.refuses("15: wrong name", maker, INDEX, f -> f.wouldAnswer(5, no));
                CHECK.refuses("15: wrong name and client", maker, INDEX, f -> f.wouldAnswer(-1, no));
            }
            for (int no : NO_CLIENTS) {
                CHECK.refuses("14: wrong client", maker, ARGUMENT, f -> f.query(no, 0));
                CHECK.refuses("15: wrong client", maker, ARGUMENT, f -> f.wouldAnswer(no, 0));
            }
        }
    }

    private static void queryWithoutASite() {
        for (Supplier<ResolverFleet> maker : List.<Supplier<ResolverFleet>>of(ResolverFleet::new, Fleets::withdrawn)) {
            for (int no : NO_NAMES) {
                CHECK.refuses("14: no site, wrong name", maker, INDEX, f -> f.query(5, no));
                CHECK.refuses("14: no site, wrong name and client", maker, INDEX, f -> f.query(-1, no));
                CHECK.refuses("15: no site, wrong name", maker, INDEX, f -> f.wouldAnswer(5, no));
                CHECK.refuses("15: no site, wrong name and client", maker, INDEX, f -> f.wouldAnswer(100, no));
            }
            for (int no : NO_CLIENTS) {
                CHECK.refuses("14: no site, wrong client", maker, ARGUMENT, f -> f.query(no, 0));
                CHECK.refuses("15: no site, wrong client", maker, ARGUMENT, f -> f.wouldAnswer(no, 0));
                CHECK.refuses("10: no site, wrong client", maker, ARGUMENT, f -> f.siteFor(no));
            }
            CHECK.refuses("14: no site", maker, STATE, f -> f.query(0, 0));
            CHECK.refuses("14: no site", maker, STATE, f -> f.query(99, 15));
            CHECK.refuses("15: no site", maker, STATE, f -> f.wouldAnswer(0, 0));
            CHECK.refuses("15: no site", maker, STATE, f -> f.wouldAnswer(99, 15));
        }
    }

    /** Where there is no such site or name, there is no entry either. */
    private static void left() {
        for (int no : NO_NAMES) {
            CHECK.refuses("23: wrong name", Fleets::spread, INDEX, f -> f.left(0, no));
            CHECK.refuses("23: wrong site, a name without an entry", Fleets::spread, INDEX, f -> f.left(no, 7));
            CHECK.refuses("23: wrong site, a name with an entry", Fleets::spread, INDEX, f -> f.left(no, 0));
        }
        CHECK.refuses("23: the first site that is not there", Fleets::hot, INDEX, f -> f.left(2, 0));
        CHECK.refuses("23: no entry", Fleets::spread, STATE, f -> f.left(0, 7));
        CHECK.refuses("23: no entry, at the last site", Fleets::spread, STATE, f -> f.left(3, 13));
        CHECK.refuses("23: flushed", RefusalTest::flushed, STATE, f -> f.left(0, 0));
        CHECK.refuses("23: dropped", RefusalTest::dropped, STATE, f -> f.left(0, 2));
    }

    private static ResolverFleet flushed() {
        ResolverFleet fleet = Fleets.spread();
        fleet.flush(0, 0);
        return fleet;
    }

    private static ResolverFleet dropped() {
        ResolverFleet fleet = Fleets.sixEntries(40, 41, 39, 42, 43, 44);
        fleet.query(50, 9);
        return fleet;
    }

    private static void sitesAndNames() {
        int[][] wrong = {{-1, 0}, {4, 0}, {0, -1}, {3, 16}, {-1, -1}, {4, 16},
            {Integer.MIN_VALUE, 3}, {Integer.MAX_VALUE, 3}, {3, Integer.MIN_VALUE}, {3, Integer.MAX_VALUE}};
        for (int[] pair : wrong) {
            refusedByAll("11: flush", INDEX, f -> f.flush(pair[0], pair[1]));
            refusedByAll("21: cachedKind", INDEX, f -> f.cachedKind(pair[0], pair[1]));
            refusedByAll("22: cachedValue", INDEX, f -> f.cachedValue(pair[0], pair[1]));
            refusedByAll("23: left", INDEX, f -> f.left(pair[0], pair[1]));
            refusedByAll("24: hitsOf", INDEX, f -> f.hitsOf(pair[0], pair[1]));
        }
        for (int site : new int[] {-1, 4, Integer.MIN_VALUE, Integer.MAX_VALUE}) {
            refusedByAll("9: announce", INDEX, f -> f.announce(site, true));
            refusedByAll("9: withdraw", INDEX, f -> f.announce(site, false));
            refusedByAll("20: entries", INDEX, f -> f.entries(site));
        }
        for (int name : NO_NAMES) {
            refusedByAll("4: remove", INDEX, f -> f.remove(name));
            refusedByAll("7: truth", INDEX, f -> f.truth(name));
        }
    }

    /** There are names above 3, but no such sites. */
    private static void aSiteThatIsTakenForAName() {
        for (int no = 4; no < 16; no++) {
            int site = no;
            CHECK.refuses("11: flush", Fleets::spread, INDEX, f -> f.flush(site, 0));
            CHECK.refuses("20: entries", Fleets::spread, INDEX, f -> f.entries(site));
            CHECK.refuses("9: announce", Fleets::spread, INDEX, f -> f.announce(site, false));
        }
    }

    /** "A call that throws an exception changes nothing": not even the fifth time. */
    private static void manyRefusalsInARow() {
        for (Supplier<ResolverFleet> maker : ALL) {
            CHECK.changesNothing("many refused calls", maker, RefusalTest::getRefusedOften);
        }
    }

    private static void getRefusedOften(ResolverFleet fleet) {
        List<Consumer<ResolverFleet>> calls = List.of(f -> f.setAddress(0, 10000, 5), f -> f.setAlias(1, 1, 5),
            f -> f.setBound(301), f -> f.pass(1001), f -> f.addSite(100), f -> f.query(100, 0), f -> f.query(0, 16),
            f -> f.flush(0, 16), f -> f.announce(4, false));
        for (int i = 0; i < 5; i++) {
            for (Consumer<ResolverFleet> call : calls) {
                CHECK.same("refused", isRefused(fleet, call), true);
            }
        }
    }

    private static boolean isRefused(ResolverFleet fleet, Consumer<ResolverFleet> call) {
        try {
            call.accept(fleet);
        } catch (RuntimeException e) {
            return true;
        }
        return false;
    }

    /** "Returns the same; nothing changes." */
    private static void wouldAnswerChangesNothing() {
        for (Supplier<ResolverFleet> maker : List.<Supplier<ResolverFleet>>of(Fleets::busy, Fleets::full, Fleets::hot, Fleets::spread)) {
            for (int name = 0; name < 16; name++) {
                for (int client : new int[] {0, 50, 99}) {
                    int asked = name;
                    CHECK.changesNothing("15: wouldAnswer", maker, f -> f.wouldAnswer(client, asked));
                    int would = maker.get().wouldAnswer(client, name);
                    CHECK.same("15: what query answers", would, maker.get().query(client, name));
                }
            }
        }
    }

    /** The calls that only tell something change nothing either. */
    private static void callsThatTell() {
        for (Supplier<ResolverFleet> maker : ALL) {
            CHECK.changesNothing("calls that tell of the whole", maker, f -> {
                f.truth(1);
                f.siteFor(50);
                f.time();
                f.lastSite();
                f.lastWasStale();
                f.lastLookUps();
                f.lastFetches();
                f.queries();
                f.fetches();
                f.prefetches();
                f.staleAnswers();
                f.failures();
            });
            CHECK.changesNothing("calls that tell of a cache", maker, f -> {
                f.entries(0);
                f.cachedKind(0, 0);
                f.cachedValue(0, 0);
                f.hitsOf(0, 0);
                f.left(0, 0);
            });
        }
    }
}
