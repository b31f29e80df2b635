/** Promises 16 to 29: what is told of the last query, of caches, and since the beginning. */
public final class CacheTest {
    private static final Check CHECK = new Check();
    private static final Class<IndexOutOfBoundsException> INDEX = IndexOutOfBoundsException.class;
    private static final Class<IllegalStateException> STATE = IllegalStateException.class;

    public static void main(String[] args) {
        lastQuery();
        lastOutlivesOtherCalls();
        entries();
        cachedKindAndValue();
        left();
        hitsOf();
        sitesAndNamesRefused();
        totals();
        staleThatFailed();
        CHECK.finish();
    }

    private static void lastQuery() {
        ResolverFleet fleet = new ResolverFleet();
        fleet.addSite(10);
        fleet.addSite(90);
        fleet.setAlias(0, 1, 10);
        fleet.setAddress(1, 7, 50);
        fleet.query(90, 0);
        CHECK.same("16: the second site", fleet.lastSite(), 1);
        CHECK.same("17: not stale", fleet.lastWasStale(), false);
        CHECK.same("18: two names", fleet.lastLookUps(), 2);
        CHECK.same("19: two entries", fleet.lastFetches(), 2);
        fleet.query(10, 1);
        CHECK.same("16: the first site", fleet.lastSite(), 0);
        CHECK.same("18: one name", fleet.lastLookUps(), 1);
        CHECK.same("19: one entry", fleet.lastFetches(), 1);
        fleet.query(90, 0);
        CHECK.same("18: two names again", fleet.lastLookUps(), 2);
        CHECK.same("19: no entry", fleet.lastFetches(), 0);
        fleet.pass(10);
        fleet.setAuthority(false);
        fleet.query(90, 0);
        CHECK.same("17: stale", fleet.lastWasStale(), true);
        fleet.query(10, 0);
        CHECK.same("16: a site that failed", fleet.lastSite(), 0);
        CHECK.same("17: failed, not stale", fleet.lastWasStale(), false);
        CHECK.same("18: the one that failed", fleet.lastLookUps(), 1);
    }

    private static void lastOutlivesOtherCalls() {
        ResolverFleet fleet = Fleets.oneSite();
        fleet.setAlias(0, 1, 10);
        fleet.query(50, 0);
        fleet.pass(500);
        fleet.wouldAnswer(50, 9);
        fleet.flush(0, 0);
        fleet.announce(0, false);
        fleet.truth(0);
        CHECK.same("16: last site", fleet.lastSite(), 0);
        CHECK.same("18: last look-ups", fleet.lastLookUps(), 2);
        CHECK.same("19: last fetches", fleet.lastFetches(), 2);
    }

    private static void entries() {
        ResolverFleet fleet = Fleets.oneSite();
        for (int name = 0; name < 16; name++) {
            fleet.query(50, name);
            CHECK.same("20: entries after " + (name + 1) + " names", fleet.entries(0), Math.min(name + 1, 6));
        }
        Fleets.queryOften(fleet, 15, 2);
        CHECK.same("20: entries after hits", fleet.entries(0), 6);
        for (int name = 10; name < 16; name++) {
            CHECK.same("11: the last six are there", fleet.flush(0, name), true);
            CHECK.same("20: entries after a flush", fleet.entries(0), 15 - name);
        }
    }

    private static void cachedKindAndValue() {
        ResolverFleet fleet = Fleets.oneSite();
        fleet.setAddress(0, 9999, 10);
        fleet.setAlias(15, 0, 10);
        CHECK.same("21: no entry", fleet.cachedKind(0, 15), ResolverFleet.NO_ENTRY);
        CHECK.same("22: no entry", fleet.cachedValue(0, 15), ResolverFleet.NONE);
        fleet.query(50, 15);
        fleet.query(50, 3);
        CHECK.same("21: alias", fleet.cachedKind(0, 15), ResolverFleet.ALIAS);
        CHECK.same("22: alias for 0", fleet.cachedValue(0, 15), 0);
        CHECK.same("21: address", fleet.cachedKind(0, 0), ResolverFleet.ADDRESS);
        CHECK.same("22: address", fleet.cachedValue(0, 0), 9999);
        CHECK.same("21: nothing", fleet.cachedKind(0, 3), ResolverFleet.NOTHING);
        CHECK.same("22: nothing", fleet.cachedValue(0, 3), ResolverFleet.NONE);
        fleet.remove(0);
        CHECK.same("21: what it was when it was fetched", fleet.cachedKind(0, 0), ResolverFleet.ADDRESS);
        fleet.pass(10);
        fleet.query(50, 0);
        CHECK.same("21: nothing in place of an address", fleet.cachedKind(0, 0), ResolverFleet.NOTHING);
        CHECK.same("22: no address is left", fleet.cachedValue(0, 0), ResolverFleet.NONE);
        fleet.flush(0, 15);
        CHECK.same("22: flushed", fleet.cachedValue(0, 15), ResolverFleet.NONE);
    }

    private static void left() {
        ResolverFleet fleet = Fleets.oneSite();
        fleet.setAddress(0, 7, 10);
        fleet.pass(3);
        fleet.query(50, 0);
        CHECK.same("23: all", fleet.left(0, 0), 10);
        fleet.pass(9);
        CHECK.same("23: the last tick", fleet.left(0, 0), 1);
        fleet.pass(1);
        CHECK.same("23: the end", fleet.left(0, 0), 0);
        fleet.pass(1000);
        CHECK.same("23: long ago", fleet.left(0, 0), -1000);
        CHECK.refuses("23: no entry", Fleets::busy, STATE, f -> f.left(0, 9));
        CHECK.refuses("23: a flushed entry", Fleets::busy, STATE, f -> f.left(1, 3));
    }

    private static void hitsOf() {
        ResolverFleet fleet = Fleets.oneSite();
        fleet.setAddress(0, 7, 10);
        CHECK.same("24: no entry", fleet.hitsOf(0, 0), 0);
        fleet.query(50, 0);
        CHECK.same("24: fetched", fleet.hitsOf(0, 0), 0);
        Fleets.queryOften(fleet, 0, 7);
        CHECK.same("24: seven hits", fleet.hitsOf(0, 0), 7);
        fleet.pass(10);
        CHECK.same("24: it has ended", fleet.hitsOf(0, 0), 7);
        fleet.query(50, 0);
        CHECK.same("24: fetched again", fleet.hitsOf(0, 0), 0);
        fleet.query(50, 0);
        fleet.flush(0, 0);
        CHECK.same("24: flushed", fleet.hitsOf(0, 0), 0);
    }

    private static void sitesAndNamesRefused() {
        CHECK.refuses("20: site -1", Fleets::busy, INDEX, f -> f.entries(-1));
        CHECK.refuses("20: site 2 of 2", Fleets::busy, INDEX, f -> f.entries(2));
        CHECK.refuses("20: site 4 of 4", Fleets::full, INDEX, f -> f.entries(4));
        int[][] wrong = {{-1, 0}, {2, 0}, {0, -1}, {0, 16}, {9, 99}};
        for (int[] pair : wrong) {
            String at = " at site " + pair[0] + " and name " + pair[1];
            CHECK.refuses("21: cachedKind" + at, Fleets::busy, INDEX, f -> f.cachedKind(pair[0], pair[1]));
            CHECK.refuses("22: cachedValue" + at, Fleets::busy, INDEX, f -> f.cachedValue(pair[0], pair[1]));
            CHECK.refuses("23: left" + at, Fleets::busy, INDEX, f -> f.left(pair[0], pair[1]));
            CHECK.refuses("24: hitsOf" + at, Fleets::busy, INDEX, f -> f.hitsOf(pair[0], pair[1]));
        }
    }

    private static void totals() {
        ResolverFleet fleet = new ResolverFleet();
        fleet.addSite(10);
        fleet.addSite(90);
        fleet.setAddress(0, 7, 40);
        fleet.setAlias(1, 0, 1000);
        fleet.query(10, 1);
        fleet.query(90, 0);
        CHECK.same("25: two", fleet.queries(), 2);
        CHECK.same("26: at both sites", fleet.fetches(), 3);
        for (int i = 0; i < 3; i++) {
            fleet.query(90, 0);
        }
        fleet.pass(30);
        fleet.query(90, 0);
        CHECK.same("27: one fetched anew", fleet.prefetches(), 1);
        CHECK.same("26: that one too", fleet.fetches(), 4);
        fleet.pass(10);
        fleet.query(10, 1);
        CHECK.same("26: one that had ended", fleet.fetches(), 5);
        CHECK.same("27: that one not", fleet.prefetches(), 1);
        fleet.setAuthority(false);
        fleet.query(10, 5);
        fleet.query(10, 5);
        CHECK.same("25: failed ones too", fleet.queries(), 9);
        CHECK.same("29: two failed", fleet.failures(), 2);
        CHECK.same("28: none was stale", fleet.staleAnswers(), 0);
        fleet.pass(60);
        fleet.query(10, 0);
        fleet.query(90, 0);
        CHECK.same("28: one at each site", fleet.staleAnswers(), 2);
        CHECK.same("29: they did not fail", fleet.failures(), 2);
        fleet.wouldAnswer(10, 0);
        CHECK.same("25: the whole", fleet.queries(), 11);
        CHECK.same("28: the whole", fleet.staleAnswers(), 2);
    }

    /** Two stale entries in one query count as one stale answer, and it counts though the query fails. */
    private static void staleThatFailed() {
        ResolverFleet fleet = Fleets.oneSite();
        fleet.setAlias(0, 1, 5);
        fleet.setAlias(1, 2, 5);
        fleet.query(50, 0);
        fleet.flush(0, 2);
        fleet.setAuthority(false);
        fleet.pass(5);
        CHECK.same("14: the third look-up fails", fleet.query(50, 0), ResolverFleet.FAILED);
        CHECK.same("17: stale", fleet.lastWasStale(), true);
        CHECK.same("18: the one that failed included", fleet.lastLookUps(), 3);
        CHECK.same("28: one", fleet.staleAnswers(), 1);
        CHECK.same("29: one", fleet.failures(), 1);
    }
}
