/** Promises 14 and 15, and what the terms say of look-ups, caches and entries fetched anew. */
public final class QueryTest {
    private static final Check CHECK = new Check();
    private static final Class<IndexOutOfBoundsException> INDEX = IndexOutOfBoundsException.class;
    private static final Class<IllegalArgumentException> ARGUMENT = IllegalArgumentException.class;
    private static final Class<IllegalStateException> STATE = IllegalStateException.class;

    public static void main(String[] args) {
        answers();
        aliasesUpToFour();
        circle();
        freshUntilItsEnd();
        eachSiteHasItsCache();
        theOneThatEndsFirstIsDropped();
        ofSeveralTheLowestNameIsDropped();
        endedEntriesTakeRoom();
        ownEntryIsReplaced();
        staleForLessThanAHundred();
        staleAliasAndFreshTarget();
        authorityBackUp();
        queryRefuses();
        wouldAnswer();
        wouldAnswerByTheCache();
        wouldAnswerTriesFetchesOut();
        wouldAnswerRefuses();
        CHECK.finish();
    }

    private static void answers() {
        ResolverFleet fleet = new ResolverFleet();
        fleet.addSite(0);
        fleet.setAddress(0, 1, 9);
        fleet.setAddress(15, 9999, 9);
        fleet.setAlias(1, 15, 9);
        fleet.setAlias(2, 3, 9);
        CHECK.same("14: lowest name and client", fleet.query(0, 0), 1);
        CHECK.same("14: highest name and client", fleet.query(99, 15), 9999);
        CHECK.same("14: alias", fleet.query(50, 1), 9999);
        CHECK.same("14: alias for nothing", fleet.query(50, 2), ResolverFleet.NO_NAME);
        CHECK.same("14: nothing", fleet.query(50, 9), ResolverFleet.NO_NAME);
        fleet.setAuthority(false);
        CHECK.same("14: no entry, authority down", fleet.query(50, 10), ResolverFleet.FAILED);
    }

    private static void aliasesUpToFour() {
        ResolverFleet fleet = Fleets.oneSite();
        for (int name = 0; name < 5; name++) {
            fleet.setAlias(name, name + 1, 9);
        }
        fleet.setAddress(5, 44, 9);
        CHECK.same("14: behind 4 aliases", fleet.query(50, 1), 44);
        CHECK.same("18: 4 aliases and an address", fleet.lastLookUps(), 5);
        CHECK.same("14: behind 5 aliases", fleet.query(50, 0), ResolverFleet.FAILED);
        CHECK.same("18: 5 aliases", fleet.lastLookUps(), 5);
        CHECK.same("19: only the first was not cached", fleet.lastFetches(), 1);
        CHECK.same("24: the fifth alias was looked up", fleet.hitsOf(0, 4), 1);
        CHECK.same("24: the address was not", fleet.hitsOf(0, 5), 0);
    }

    private static void circle() {
        ResolverFleet fleet = Fleets.oneSite();
        fleet.setAlias(0, 1, 9);
        fleet.setAlias(1, 0, 9);
        CHECK.same("14: a circle", fleet.query(50, 0), ResolverFleet.FAILED);
        CHECK.same("18: each look-up counts", fleet.lastLookUps(), 5);
        CHECK.same("19: each name is fetched once", fleet.lastFetches(), 2);
        CHECK.same("24: looked up three times", fleet.hitsOf(0, 0), 2);
        CHECK.same("24: looked up twice", fleet.hitsOf(0, 1), 1);
        CHECK.same("29: it failed", fleet.failures(), 1);
    }

    private static void freshUntilItsEnd() {
        ResolverFleet fleet = Fleets.oneSite();
        fleet.setAddress(0, 7, 20);
        fleet.query(50, 0);
        fleet.setAddress(0, 8, 20);
        fleet.pass(19);
        CHECK.same("14: the last tick", fleet.query(50, 0), 7);
        CHECK.same("19: nothing fetched", fleet.lastFetches(), 0);
        fleet.pass(1);
        CHECK.same("14: at the end", fleet.query(50, 0), 8);
        CHECK.same("19: fetched", fleet.lastFetches(), 1);
        CHECK.same("27: not ahead of its end", fleet.prefetches(), 0);
    }

    private static void eachSiteHasItsCache() {
        ResolverFleet fleet = new ResolverFleet();
        fleet.addSite(10);
        fleet.addSite(90);
        fleet.setAddress(0, 7, 20);
        fleet.query(10, 0);
        fleet.setAddress(0, 8, 20);
        CHECK.same("14: at the second site", fleet.query(90, 0), 8);
        CHECK.same("14: at the first site", fleet.query(10, 0), 7);
        fleet.announce(0, false);
        CHECK.same("14: the first site is withdrawn", fleet.query(10, 0), 8);
        CHECK.same("24: hits at the first site", fleet.hitsOf(0, 0), 1);
        CHECK.same("24: hits at the second site", fleet.hitsOf(1, 0), 1);
    }

    private static void theOneThatEndsFirstIsDropped() {
        ResolverFleet fleet = Fleets.sixEntries(90, 80, 70, 60, 50, 65);
        CHECK.same("20: six entries", fleet.entries(0), 6);
        fleet.query(50, 15);
        CHECK.same("20: still six", fleet.entries(0), 6);
        CHECK.same("21: the one that ends first", fleet.cachedKind(0, 4), ResolverFleet.NO_ENTRY);
        CHECK.same("21: the one after it", fleet.cachedKind(0, 3), ResolverFleet.ADDRESS);
        CHECK.same("21: the new one", fleet.cachedKind(0, 15), ResolverFleet.NOTHING);
        fleet.query(50, 14);
        CHECK.same("21: the new one ends first", fleet.cachedKind(0, 15), ResolverFleet.NO_ENTRY);
        CHECK.same("21: the newer one", fleet.cachedKind(0, 14), ResolverFleet.NOTHING);
    }

    private static void ofSeveralTheLowestNameIsDropped() {
        ResolverFleet fleet = Fleets.sixEntries(60, 50, 40, 40, 40, 60);
        fleet.query(50, 9);
        fleet.flush(0, 9);
        CHECK.same("21: the lowest name", fleet.cachedKind(0, 2), ResolverFleet.NO_ENTRY);
        CHECK.same("21: the next name", fleet.cachedKind(0, 3), ResolverFleet.ADDRESS);
        CHECK.same("20: entries after a flush", fleet.entries(0), 5);
        fleet.query(50, 9);
        CHECK.same("20: room for a sixth", fleet.entries(0), 6);
        CHECK.same("21: nothing dropped for it", fleet.cachedKind(0, 3), ResolverFleet.ADDRESS);
    }

    private static void endedEntriesTakeRoom() {
        ResolverFleet fleet = Fleets.sixEntries(90, 80, 5, 6, 50, 65);
        fleet.pass(10);
        CHECK.same("20: ended entries stay", fleet.entries(0), 6);
        CHECK.same("22: an ended entry's value", fleet.cachedValue(0, 2), 3);
        fleet.query(50, 9);
        CHECK.same("21: ended first", fleet.cachedKind(0, 2), ResolverFleet.NO_ENTRY);
        CHECK.same("21: ended later", fleet.cachedKind(0, 3), ResolverFleet.ADDRESS);
    }

    private static void ownEntryIsReplaced() {
        ResolverFleet fleet = Fleets.sixEntries(90, 80, 5, 60, 50, 65);
        fleet.pass(10);
        fleet.remove(5);
        fleet.query(50, 2);
        CHECK.same("20: one for one", fleet.entries(0), 6);
        for (int name = 0; name < 6; name++) {
            CHECK.same("21: kind of " + name, fleet.cachedKind(0, name), ResolverFleet.ADDRESS);
        }
        CHECK.same("23: the new end", fleet.left(0, 2), 5);
    }

    private static void staleForLessThanAHundred() {
        ResolverFleet fleet = Fleets.oneSite();
        fleet.setAddress(0, 7, 20);
        Fleets.queryOften(fleet, 0, 3);
        fleet.setAuthority(false);
        fleet.pass(19);
        CHECK.same("14: fresh while the authority is down", fleet.query(50, 0), 7);
        CHECK.same("17: fresh", fleet.lastWasStale(), false);
        CHECK.same("27: no fetch while it is down", fleet.prefetches(), 0);
        fleet.pass(1);
        CHECK.same("14: stale at the end", fleet.query(50, 0), 7);
        CHECK.same("17: stale", fleet.lastWasStale(), true);
        CHECK.same("24: no hit when stale", fleet.hitsOf(0, 0), 3);
        fleet.pass(99);
        CHECK.same("14: 99 ago", fleet.query(50, 0), 7);
        CHECK.same("17: 99 ago", fleet.lastWasStale(), true);
        fleet.pass(1);
        CHECK.same("14: 100 ago", fleet.query(50, 0), ResolverFleet.FAILED);
        CHECK.same("17: 100 ago", fleet.lastWasStale(), false);
        CHECK.same("18: the one that failed counts", fleet.lastLookUps(), 1);
        CHECK.same("20: it stays in the cache", fleet.entries(0), 1);
    }

    private static void staleAliasAndFreshTarget() {
        ResolverFleet fleet = Fleets.oneSite();
        fleet.setAlias(0, 1, 5);
        fleet.setAlias(1, 2, 50);
        fleet.query(50, 0);
        fleet.pass(5);
        fleet.setAuthority(false);
        CHECK.same("14: a stale alias, then nothing", fleet.query(50, 0), ResolverFleet.NO_NAME);
        CHECK.same("17: stale", fleet.lastWasStale(), true);
        CHECK.same("24: the fresh one has a hit", fleet.hitsOf(0, 1), 1);
        CHECK.same("14: a fresh alias", fleet.query(50, 1), ResolverFleet.NO_NAME);
        CHECK.same("17: not stale", fleet.lastWasStale(), false);
    }

    private static void authorityBackUp() {
        ResolverFleet fleet = Fleets.oneSite();
        fleet.setAddress(0, 7, 20);
        fleet.query(50, 0);
        fleet.pass(30);
        fleet.setAddress(0, 8, 25);
        fleet.setAuthority(false);
        CHECK.same("14: down", fleet.query(50, 0), 7);
        fleet.setAuthority(true);
        CHECK.same("14: up", fleet.query(50, 0), 8);
        CHECK.same("17: not stale", fleet.lastWasStale(), false);
        CHECK.same("23: left", fleet.left(0, 0), 25);
    }

    private static void queryRefuses() {
        CHECK.refuses("14: name -1", Fleets::busy, INDEX, f -> f.query(5, -1));
        CHECK.refuses("14: name 16", Fleets::busy, INDEX, f -> f.query(5, 16));
        CHECK.refuses("14: client -1", Fleets::busy, ARGUMENT, f -> f.query(-1, 5));
        CHECK.refuses("14: client 100", Fleets::busy, ARGUMENT, f -> f.query(100, 5));
        CHECK.refuses("14: both", Fleets::busy, INDEX, f -> f.query(100, 16));
        CHECK.refuses("14: no site announced", Fleets::withdrawn, STATE, f -> f.query(5, 5));
        CHECK.refuses("14: no site, wrong client", Fleets::withdrawn, ARGUMENT, f -> f.query(100, 5));
        CHECK.refuses("14: no site, wrong name", Fleets::withdrawn, INDEX, f -> f.query(5, 16));
        CHECK.refuses("14: all wrong", Fleets::withdrawn, INDEX, f -> f.query(-1, -1));
        CHECK.refuses("14: no site at all", ResolverFleet::new, STATE, f -> f.query(5, 5));
    }

    private static void wouldAnswer() {
        for (int name = 0; name < 16; name++) {
            int asked = name;
            int would = Fleets.busy().wouldAnswer(20, name);
            CHECK.same("15: what query answers of " + name, would, Fleets.busy().query(20, name));
            CHECK.changesNothing("15: wouldAnswer of " + name, Fleets::busy, f -> f.wouldAnswer(20, asked));
        }
        ResolverFleet fleet = Fleets.oneSite();
        fleet.setAddress(0, 7, 20);
        CHECK.same("15: an address", fleet.wouldAnswer(50, 0), 7);
        CHECK.same("20: nothing cached", fleet.entries(0), 0);
        CHECK.same("26: nothing fetched", fleet.fetches(), 0);
        CHECK.same("25: nothing sent", fleet.queries(), 0);
        CHECK.same("16: no last site", fleet.lastSite(), ResolverFleet.NONE);
        CHECK.same("18: no last look-ups", fleet.lastLookUps(), 0);
        CHECK.same("15: nothing", fleet.wouldAnswer(50, 1), ResolverFleet.NO_NAME);
        fleet.setAuthority(false);
        CHECK.same("15: a failure", fleet.wouldAnswer(50, 0), ResolverFleet.FAILED);
        CHECK.same("29: nothing failed", fleet.failures(), 0);
    }

    private static void wouldAnswerByTheCache() {
        ResolverFleet fleet = Fleets.oneSite();
        fleet.setAddress(0, 7, 20);
        fleet.query(50, 0);
        fleet.setAddress(0, 8, 20);
        fleet.pass(19);
        CHECK.same("15: fresh", fleet.wouldAnswer(50, 0), 7);
        CHECK.same("24: no hit", fleet.hitsOf(0, 0), 0);
        fleet.pass(1);
        CHECK.same("15: ended", fleet.wouldAnswer(50, 0), 8);
        CHECK.same("22: not fetched", fleet.cachedValue(0, 0), 7);
        fleet.setAuthority(false);
        fleet.pass(99);
        CHECK.same("15: stale", fleet.wouldAnswer(50, 0), 7);
        CHECK.same("28: no stale answer", fleet.staleAnswers(), 0);
        fleet.pass(1);
        CHECK.same("15: too old", fleet.wouldAnswer(50, 0), ResolverFleet.FAILED);
    }

    /** The fetch for the alias drops its target, which has changed in the zone. */
    private static void wouldAnswerTriesFetchesOut() {
        ResolverFleet fleet = Fleets.sixEntries(60, 50, 40, 40, 70, 90);
        fleet.setAlias(6, 2, 100);
        fleet.setAddress(2, 33, 20);
        CHECK.same("15: the target is fetched anew", fleet.wouldAnswer(50, 6), 33);
        CHECK.same("22: but not now", fleet.cachedValue(0, 2), 3);
        CHECK.same("14: the target is fetched anew", fleet.query(50, 6), 33);
        CHECK.same("19: alias and target", fleet.lastFetches(), 2);
        CHECK.same("21: the second one dropped", fleet.cachedKind(0, 3), ResolverFleet.NO_ENTRY);
    }

    private static void wouldAnswerRefuses() {
        CHECK.refuses("15: name -1", Fleets::busy, INDEX, f -> f.wouldAnswer(5, -1));
        CHECK.refuses("15: name 16", Fleets::busy, INDEX, f -> f.wouldAnswer(5, 16));
        CHECK.refuses("15: client -1", Fleets::busy, ARGUMENT, f -> f.wouldAnswer(-1, 5));
        CHECK.refuses("15: client 100", Fleets::busy, ARGUMENT, f -> f.wouldAnswer(100, 5));
        CHECK.refuses("15: both", Fleets::busy, INDEX, f -> f.wouldAnswer(100, 16));
        CHECK.refuses("15: no site announced", Fleets::withdrawn, STATE, f -> f.wouldAnswer(5, 5));
        CHECK.refuses("15: no site, wrong client", Fleets::withdrawn, ARGUMENT, f -> f.wouldAnswer(100, 5));
        CHECK.refuses("15: no site, wrong name", Fleets::withdrawn, INDEX, f -> f.wouldAnswer(5, 16));
        CHECK.refuses("15: no site at all", ResolverFleet::new, STATE, f -> f.wouldAnswer(5, 5));
    }
}
