import java.util.function.Consumer;
import java.util.function.IntFunction;
import java.util.function.Supplier;

/** The least and the greatest argument that is in range, and the ones just outside it, of every call. */
public final class RangeTest {
    private static final Check CHECK = new Check();
    private static final Class<IndexOutOfBoundsException> INDEX = IndexOutOfBoundsException.class;
    private static final Class<IllegalArgumentException> ARGUMENT = IllegalArgumentException.class;

    public static void main(String[] args) {
        namesOfTheZone();
        namesOfCaches();
        namesOfQueries();
        addresses();
        timesToLive();
        bounds();
        positions();
        clients();
        sites();
        ticks();
        addressesAreKept();
        timesToLiveAreKept();
        targetsAreKept();
        boundsAreKept();
        positionsAreKept();
        CHECK.finish();
    }

    /** The call takes what is in range, refuses what is not, and changes nothing then. */
    private static void range(String what, int least, int greatest, Class<? extends RuntimeException> due,
            Supplier<ResolverFleet> maker, IntFunction<Consumer<ResolverFleet>> call) {
        for (int value : new int[] {least, least + 1, greatest - 1, greatest}) {
            CHECK.accepts(what + " " + value, maker, call.apply(value));
        }
        int[] outside = {least - 1, greatest + 1, -greatest - 1, greatest + 65536, Integer.MIN_VALUE, Integer.MAX_VALUE};
        for (int value : outside) {
            CHECK.refuses(what + " " + value, maker, due, call.apply(value));
        }
    }

    private static void names(String what, IntFunction<Consumer<ResolverFleet>> call) {
        range(what, 0, 15, INDEX, Fleets::spread, call);
    }

    /** "There are 16 names, 0 to 15." */
    private static void namesOfTheZone() {
        names("2: setAddress, name", name -> f -> f.setAddress(name, 5, 5));
        names("3: setAlias, name", name -> f -> f.setAlias(name, 7, 5));
        names("3: setAlias, target", target -> f -> f.setAlias(7, target, 5));
        names("4: remove, name", name -> f -> f.remove(name));
        names("7: truth, name", name -> f -> f.truth(name));
    }

    private static void namesOfCaches() {
        for (int site = 0; site < 4; site++) {
            int at = site;
            names("11: flush, name", name -> f -> f.flush(at, name));
            names("21: cachedKind, name", name -> f -> f.cachedKind(at, name));
            names("22: cachedValue, name", name -> f -> f.cachedValue(at, name));
            names("23: left, name", name -> f -> f.left(at, name));
            names("24: hitsOf, name", name -> f -> f.hitsOf(at, name));
        }
    }

    private static void namesOfQueries() {
        names("14: query, name", name -> f -> f.query(0, name));
        names("15: wouldAnswer, name", name -> f -> f.wouldAnswer(0, name));
    }

    /** "A name has an address, 1 to 9999" */
    private static void addresses() {
        range("2: setAddress, address", 1, 9999, ARGUMENT, Fleets::busy, address -> f -> f.setAddress(0, address, 5));
        range("2: setAddress, address", 1, 9999, ARGUMENT, Fleets::hot, address -> f -> f.setAddress(15, address, 5));
    }

    /** "An address and an alias have a time to live, 1 to 1000." */
    private static void timesToLive() {
        range("2: setAddress, timeToLive", 1, 1000, ARGUMENT, Fleets::busy, life -> f -> f.setAddress(0, 5, life));
        range("2: setAddress, timeToLive", 1, 1000, ARGUMENT, Fleets::hot, life -> f -> f.setAddress(15, 5, life));
        range("3: setAlias, timeToLive", 1, 1000, ARGUMENT, Fleets::busy, life -> f -> f.setAlias(0, 15, life));
        range("3: setAlias, timeToLive", 1, 1000, ARGUMENT, Fleets::hot, life -> f -> f.setAlias(15, 0, life));
    }

    private static void bounds() {
        range("5: setBound, bound", 1, 300, ARGUMENT, Fleets::busy, bound -> f -> f.setBound(bound));
        range("5: setBound, bound", 1, 300, ARGUMENT, ResolverFleet::new, bound -> f -> f.setBound(bound));
    }

    /** "each at a position from 0 to 99" */
    private static void positions() {
        range("8: addSite, position", 0, 99, ARGUMENT, ResolverFleet::new, position -> f -> f.addSite(position));
        range("8: addSite, position", 0, 99, ARGUMENT, Fleets::busy, position -> f -> f.addSite(position));
    }

    private static void clients() {
        range("10: siteFor, client", 0, 99, ARGUMENT, ResolverFleet::new, client -> f -> f.siteFor(client));
        range("10: siteFor, client", 0, 99, ARGUMENT, Fleets::spread, client -> f -> f.siteFor(client));
        range("14: query, client", 0, 99, ARGUMENT, Fleets::hot, client -> f -> f.query(client, 0));
        range("14: query, client", 0, 99, ARGUMENT, Fleets::busy, client -> f -> f.query(client, 15));
        range("15: wouldAnswer, client", 0, 99, ARGUMENT, Fleets::hot, client -> f -> f.wouldAnswer(client, 0));
        range("15: wouldAnswer, client", 0, 99, ARGUMENT, Fleets::busy, client -> f -> f.wouldAnswer(client, 15));
    }

    /** "There are at most 4, numbered from 0 as they are added": there is none behind the one that was added last. */
    private static void sites() {
        for (int number = 1; number <= 4; number++) {
            int count = number;
            Supplier<ResolverFleet> maker = () -> someSites(count);
            sites("9: announce", count, maker, site -> f -> f.announce(site, false));
            sites("11: flush", count, maker, site -> f -> f.flush(site, 3));
            sites("20: entries", count, maker, site -> f -> f.entries(site));
            sites("21: cachedKind", count, maker, site -> f -> f.cachedKind(site, 3));
            sites("22: cachedValue", count, maker, site -> f -> f.cachedValue(site, 3));
            sites("23: left", count, maker, site -> f -> f.left(site, 3));
            sites("24: hitsOf", count, maker, site -> f -> f.hitsOf(site, 3));
        }
    }

    private static void sites(String what, int count, Supplier<ResolverFleet> maker,
            IntFunction<Consumer<ResolverFleet>> call) {
        for (int site = 0; site < count; site++) {
            CHECK.accepts(what + " at site " + site + " of " + count, maker, call.apply(site));
        }
        for (int site : new int[] {-1, count, count + 1, 4, 5, 65536, Integer.MIN_VALUE, Integer.MAX_VALUE}) {
            CHECK.refuses(what + " at site " + site + " of " + count, maker, INDEX, call.apply(site));
        }
    }

    /** So many sites, each with an entry for the name 3. */
    private static ResolverFleet someSites(int count) {
        ResolverFleet fleet = new ResolverFleet();
        for (int site = 0; site < count; site++) {
            fleet.addSite(20 * site);
            fleet.query(20 * site, 3);
        }
        return fleet;
    }

    private static void ticks() {
        range("12: pass, ticks", 1, 1000, ARGUMENT, ResolverFleet::new, ticks -> f -> f.pass(ticks));
        range("12: pass, ticks", 1, 1000, ARGUMENT, Fleets::hot, ticks -> f -> f.pass(ticks));
        for (int ticks : new int[] {1, 2, 999, 1000}) {
            ResolverFleet fleet = new ResolverFleet();
            fleet.pass(5);
            CHECK.same("12: the time after " + ticks + " ticks", fleet.pass(ticks), 5 + ticks);
            CHECK.same("13: the time after " + ticks + " ticks", fleet.time(), 5 + ticks);
        }
    }

    private static void addressesAreKept() {
        for (int name : new int[] {0, 15}) {
            for (int address : new int[] {1, 2, 9998, 9999}) {
                ResolverFleet fleet = Fleets.oneSite();
                fleet.setAddress(name, address, 5);
                CHECK.same("7: address " + address, fleet.truth(name), address);
                CHECK.same("15: address " + address, fleet.wouldAnswer(50, name), address);
                CHECK.same("14: address " + address, fleet.query(50, name), address);
                CHECK.same("22: address " + address, fleet.cachedValue(0, name), address);
            }
        }
    }

    /** "the time to live that it got, which is that of the address or alias" */
    private static void timesToLiveAreKept() {
        for (int life : new int[] {1, 2, 999, 1000}) {
            ResolverFleet fleet = Fleets.oneSite();
            fleet.setAddress(0, 7, life);
            fleet.setAlias(15, 0, life);
            fleet.pass(3);
            fleet.query(50, 15);
            CHECK.same("23: an address of " + life, fleet.left(0, 0), life);
            CHECK.same("23: an alias of " + life, fleet.left(0, 15), life);
        }
    }

    private static void targetsAreKept() {
        int[][] pairs = {{0, 1}, {0, 15}, {15, 0}, {15, 14}, {7, 0}, {7, 15}};
        for (int[] pair : pairs) {
            ResolverFleet fleet = Fleets.oneSite();
            fleet.setAlias(pair[0], pair[1], 5);
            fleet.setAddress(pair[1], 77, 5);
            CHECK.same("7: alias for " + pair[1], fleet.truth(pair[0]), 77);
            CHECK.same("14: alias for " + pair[1], fleet.query(50, pair[0]), 77);
            CHECK.same("22: alias for " + pair[1], fleet.cachedValue(0, pair[0]), pair[1]);
        }
    }

    /** "the bound for nothing" */
    private static void boundsAreKept() {
        ResolverFleet fleet = Fleets.oneSite();
        int before = 30;
        for (int bound : new int[] {1, 2, 299, 300}) {
            CHECK.same("5: the bound before " + bound, fleet.setBound(bound), before);
            fleet.flush(0, 9);
            fleet.query(50, 9);
            CHECK.same("23: nothing gets the bound " + bound, fleet.left(0, 9), bound);
            before = bound;
        }
        CHECK.same("5: the same bound again", fleet.setBound(300), 300);
        CHECK.same("5: the greatest bound", fleet.setBound(30), 300);
    }

    /** The last client on the way to the site 0 that is nearer to the new site, and the next one, that is not. */
    private static void positionsAreKept() {
        int[][] positionsAndClients = {{0, 24, 25}, {1, 25, 26}, {98, 75, 74}, {99, 75, 74}};
        for (int[] row : positionsAndClients) {
            ResolverFleet fleet = Fleets.oneSite();
            CHECK.same("8: number", fleet.addSite(row[0]), 1);
            CHECK.same("10: near " + row[0], fleet.siteFor(row[1]), 1);
            CHECK.same("10: not so near " + row[0], fleet.siteFor(row[2]), 0);
        }
    }
}
