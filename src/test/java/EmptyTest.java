/** Nothing there: no name, no site, none announced, no query, no entry, nothing in the zone behind an entry. */
public final class EmptyTest {
    private static final Check CHECK = new Check();
    private static final Class<IndexOutOfBoundsException> INDEX = IndexOutOfBoundsException.class;
    private static final Class<IllegalStateException> STATE = IllegalStateException.class;

    public static void main(String[] args) {
        noNameIsThere();
        noSite();
        noSiteAnnounced();
        noQuery();
        onlyRefusedQueries();
        noEntry();
        anEntryThatTellsNothing();
        theLastEntryIsFlushed();
        theAuthorityIsDownFromTheFirst();
        nothingPassed();
        CHECK.finish();
    }

    /** "at first none is there", and as removed ones, names have no address, no alias and no time to live. */
    private static void noNameIsThere() {
        ResolverFleet fleet = Fleets.oneSite();
        ResolverFleet emptied = Fleets.oneSite();
        for (int name = 0; name < 16; name++) {
            emptied.setAlias(name, (name + 1) % 16, 500);
            emptied.setAddress((name + 1) % 16, 5, 500);
        }
        for (int name = 0; name < 16; name++) {
            CHECK.same("4: there was " + name, emptied.remove(name), true);
            emptiedName(fleet, name);
            emptiedName(emptied, name);
        }
    }

    private static void emptiedName(ResolverFleet fleet, int name) {
        CHECK.same("4: there is no " + name, fleet.remove(name), false);
        CHECK.same("7: there is no " + name, fleet.truth(name), ResolverFleet.NO_NAME);
        CHECK.same("15: there is no " + name, fleet.wouldAnswer(50, name), ResolverFleet.NO_NAME);
        CHECK.same("14: there is no " + name, fleet.query(50, name), ResolverFleet.NO_NAME);
        CHECK.same("21: there is no " + name, fleet.cachedKind(0, name), ResolverFleet.NOTHING);
        CHECK.same("22: there is no " + name, fleet.cachedValue(0, name), ResolverFleet.NONE);
        CHECK.same("23: there is no " + name, fleet.left(0, name), 30);
        CHECK.same("29: there is no " + name, fleet.failures(), 0);
    }

    /** "a fleet without sites": each call that needs a site says so. */
    private static void noSite() {
        for (int client : new int[] {0, 50, 99}) {
            CHECK.same("10: no site", new ResolverFleet().siteFor(client), ResolverFleet.NONE);
            CHECK.refuses("14: no site", ResolverFleet::new, STATE, f -> f.query(client, 0));
            CHECK.refuses("15: no site", ResolverFleet::new, STATE, f -> f.wouldAnswer(client, 0));
        }
        CHECK.refuses("9: no site", ResolverFleet::new, INDEX, f -> f.announce(0, true));
        CHECK.refuses("11: no site", ResolverFleet::new, INDEX, f -> f.flush(0, 0));
        CHECK.refuses("20: no site", ResolverFleet::new, INDEX, f -> f.entries(0));
        CHECK.refuses("21: no site", ResolverFleet::new, INDEX, f -> f.cachedKind(0, 0));
        CHECK.refuses("22: no site", ResolverFleet::new, INDEX, f -> f.cachedValue(0, 0));
        CHECK.refuses("23: no site", ResolverFleet::new, INDEX, f -> f.left(0, 0));
        CHECK.refuses("24: no site", ResolverFleet::new, INDEX, f -> f.hitsOf(0, 0));
    }

    /** "NONE if no site is announced", and the last one that is withdrawn makes it so; the caches can still be seen. */
    private static void noSiteAnnounced() {
        ResolverFleet fleet = Fleets.spread();
        for (int site = 0; site < 4; site++) {
            CHECK.same("10: one is announced yet", fleet.siteFor(0), site);
            fleet.announce(site, false);
        }
        for (int client = 0; client < 100; client++) {
            CHECK.same("10: none is announced", fleet.siteFor(client), ResolverFleet.NONE);
        }
        for (int site = 0; site < 4; site++) {
            CHECK.same("20: withdrawn", fleet.entries(site), 4);
            CHECK.same("22: withdrawn", fleet.cachedValue(site, 0), 100);
            CHECK.same("11: withdrawn", fleet.flush(site, 0), true);
            CHECK.same("20: withdrawn, one less", fleet.entries(site), 3);
        }
        CHECK.refuses("14: none is announced", Fleets::withdrawn, STATE, f -> f.query(0, 0));
        CHECK.refuses("15: none is announced", Fleets::withdrawn, STATE, f -> f.wouldAnswer(0, 0));
        fleet.announce(3, true);
        CHECK.same("10: one is announced again", fleet.siteFor(0), 3);
        CHECK.same("14: one is announced again", fleet.query(0, 0), 100);
    }

    /** "NONE if there was no query", "0 if there was no query": a look at the answer is none. */
    private static void noQuery() {
        ResolverFleet fleet = Fleets.oneSite();
        fleet.setAlias(0, 1, 10);
        noneWasSent("at first", fleet);
        fleet.wouldAnswer(50, 0);
        fleet.truth(0);
        fleet.siteFor(50);
        fleet.setAuthority(false);
        fleet.wouldAnswer(50, 0);
        fleet.pass(10);
        noneWasSent("after other calls", fleet);
    }

    private static void noneWasSent(String when, ResolverFleet fleet) {
        CHECK.same("16: " + when, fleet.lastSite(), ResolverFleet.NONE);
        CHECK.same("17: " + when, fleet.lastWasStale(), false);
        CHECK.same("18: " + when, fleet.lastLookUps(), 0);
        CHECK.same("19: " + when, fleet.lastFetches(), 0);
        CHECK.same("25: " + when, fleet.queries(), 0);
        CHECK.same("26: " + when, fleet.fetches(), 0);
        CHECK.same("27: " + when, fleet.prefetches(), 0);
        CHECK.same("28: " + when, fleet.staleAnswers(), 0);
        CHECK.same("29: " + when, fleet.failures(), 0);
    }

    private static void onlyRefusedQueries() {
        ResolverFleet fleet = Fleets.oneSite();
        int[][] clientsAndNames = {{50, 16}, {50, -1}, {100, 0}, {-1, 0}};
        for (int[] pair : clientsAndNames) {
            CHECK.same("14: refused", wasRefused(fleet, pair[0], pair[1]), true);
            noneWasSent("after a refused query", fleet);
        }
        fleet.announce(0, false);
        CHECK.same("14: refused", wasRefused(fleet, 50, 0), true);
        noneWasSent("after a query without a site", fleet);
        fleet.announce(0, true);
        fleet.query(50, 0);
        CHECK.same("16: then one was sent", fleet.lastSite(), 0);
        CHECK.same("25: then one was sent", fleet.queries(), 1);
    }

    private static boolean wasRefused(ResolverFleet fleet, int client, int name) {
        try {
            fleet.query(client, name);
        } catch (RuntimeException e) {
            return true;
        }
        return false;
    }

    /** "NO_ENTRY if there is none", "NONE if there is no entry", "0 if there is no entry", and left() throws. */
    private static void noEntry() {
        ResolverFleet fleet = Fleets.oneSite();
        CHECK.same("20: an empty cache", fleet.entries(0), 0);
        for (int name = 0; name < 16; name++) {
            fleet.setAddress(name, 5, 10);
            CHECK.same("21: no entry for " + name, fleet.cachedKind(0, name), ResolverFleet.NO_ENTRY);
            CHECK.same("22: no entry for " + name, fleet.cachedValue(0, name), ResolverFleet.NONE);
            CHECK.same("24: no entry for " + name, fleet.hitsOf(0, name), 0);
            CHECK.same("11: no entry for " + name, fleet.flush(0, name), false);
            int asked = name;
            CHECK.refuses("23: no entry for " + name, Fleets::oneSite, STATE, f -> f.left(0, asked));
        }
        CHECK.same("20: a cache that is empty yet", fleet.entries(0), 0);
        CHECK.refuses("23: an entry for another name", Fleets::spread, STATE, f -> f.left(0, 2));
        CHECK.refuses("23: an entry at another site", Fleets::hot, STATE, f -> f.left(1, 2));
    }

    /** Nothing is an entry too, of which there is no value. */
    private static void anEntryThatTellsNothing() {
        ResolverFleet fleet = Fleets.oneSite();
        Fleets.queryOften(fleet, 0, 2);
        CHECK.same("20: it counts", fleet.entries(0), 1);
        CHECK.same("21: it tells nothing", fleet.cachedKind(0, 0), ResolverFleet.NOTHING);
        CHECK.same("22: it tells nothing", fleet.cachedValue(0, 0), ResolverFleet.NONE);
        CHECK.same("24: it has a hit", fleet.hitsOf(0, 0), 1);
        CHECK.same("11: it can be dropped", fleet.flush(0, 0), true);
        CHECK.same("20: it is dropped", fleet.entries(0), 0);
    }

    private static void theLastEntryIsFlushed() {
        ResolverFleet fleet = Fleets.spread();
        int count = 4;
        for (int name : new int[] {15, 0, 14, 1}) {
            CHECK.same("11: there is one for " + name, fleet.flush(1, name), true);
            count--;
            CHECK.same("20: entries", fleet.entries(1), count);
            CHECK.same("11: there is none for " + name, fleet.flush(1, name), false);
            CHECK.same("20: entries, once more", fleet.entries(1), count);
        }
        CHECK.same("21: none at all", Fleets.cachedNames(fleet, 1), "");
        CHECK.same("21: the other sites keep theirs", Fleets.cachedNames(fleet, 2), "0 1 14 15");
        CHECK.same("14: fetched again", fleet.query(33, 14), 1500);
        CHECK.same("20: fetched again", fleet.entries(1), 2);
    }

    /** "otherwise the look-up fails": no entry, not even a stale one. */
    private static void theAuthorityIsDownFromTheFirst() {
        ResolverFleet fleet = Fleets.oneSite();
        fleet.setAuthority(false);
        fleet.setAddress(0, 5, 10);
        for (int name = 0; name < 16; name++) {
            CHECK.same("15: no entry", fleet.wouldAnswer(50, name), ResolverFleet.FAILED);
            CHECK.same("14: no entry", fleet.query(50, name), ResolverFleet.FAILED);
            CHECK.same("29: no entry", fleet.failures(), name + 1);
            CHECK.same("25: no entry", fleet.queries(), name + 1);
        }
        CHECK.same("7: the zone knows it", fleet.truth(0), 5);
        CHECK.same("16: the site that failed", fleet.lastSite(), 0);
        CHECK.same("20: nothing cached", fleet.entries(0), 0);
        CHECK.same("26: nothing fetched", fleet.fetches(), 0);
        CHECK.same("28: nothing stale", fleet.staleAnswers(), 0);
    }

    private static void nothingPassed() {
        CHECK.same("13: at first", new ResolverFleet().time(), 0);
        ResolverFleet fleet = Fleets.spread();
        CHECK.same("13: queries take no time", fleet.time(), 0);
        CHECK.same("23: queries take no time", fleet.left(0, 0), 40);
    }
}
