/** Entries fetched anew ahead of their end: when, and what promises 19, 26 and 27 count of them. */
public final class PrefetchTest {
    private static final Check CHECK = new Check();

    public static void main(String[] args) {
        threeHits();
        aQuarterLeft();
        justOverAQuarter();
        theEntrysOwnTimeToLive();
        anAnswerOfNothing();
        aliasAndTargetInOneQuery();
        afterAFailure();
        notWhenItWasDropped();
        onceInACircle();
        onlyWhatThisQueryUsed();
        onlyWhileTheAuthorityIsUp();
        notByALookAtTheAnswer();
        CHECK.finish();
    }

    /** A name of address 7 whose entry has had some hits, with so much time passed since its fetch. */
    private static ResolverFleet entryOf(int timeToLive, int hits, int passed) {
        ResolverFleet fleet = Fleets.oneSite();
        fleet.setAddress(0, 7, timeToLive);
        Fleets.queryOften(fleet, 0, hits + 1);
        fleet.pass(passed);
        return fleet;
    }

    private static void threeHits() {
        ResolverFleet fleet = entryOf(40, 1, 30);
        fleet.query(50, 0);
        CHECK.same("27: two hits", fleet.prefetches(), 0);
        CHECK.same("24: two hits", fleet.hitsOf(0, 0), 2);
        fleet.setAddress(0, 8, 50);
        CHECK.same("14: the answer is that of before", fleet.query(50, 0), 7);
        CHECK.same("27: three hits", fleet.prefetches(), 1);
        CHECK.same("26: it is a fetch too", fleet.fetches(), 2);
        CHECK.same("19: it is one of the query", fleet.lastFetches(), 1);
        CHECK.same("18: it is no look-up", fleet.lastLookUps(), 1);
        CHECK.same("24: no hits", fleet.hitsOf(0, 0), 0);
        CHECK.same("23: the new time to live", fleet.left(0, 0), 50);
        CHECK.same("22: the new address", fleet.cachedValue(0, 0), 8);
    }

    private static void aQuarterLeft() {
        ResolverFleet fleet = entryOf(40, 5, 30);
        fleet.query(50, 0);
        CHECK.same("27: 10 of 40 left", fleet.prefetches(), 1);
        ResolverFleet odd = entryOf(43, 5, 33);
        odd.query(50, 0);
        CHECK.same("27: 10 of 43 left", odd.prefetches(), 1);
        ResolverFleet last = entryOf(4, 5, 3);
        last.query(50, 0);
        CHECK.same("27: 1 of 4 left", last.prefetches(), 1);
    }

    private static void justOverAQuarter() {
        ResolverFleet fleet = entryOf(40, 5, 29);
        fleet.query(50, 0);
        CHECK.same("27: 11 of 40 left", fleet.prefetches(), 0);
        ResolverFleet odd = entryOf(43, 5, 32);
        odd.query(50, 0);
        CHECK.same("27: 11 of 43 left", odd.prefetches(), 0);
        ResolverFleet brief = entryOf(3, 5, 2);
        brief.query(50, 0);
        CHECK.same("27: 1 of 3 left", brief.prefetches(), 0);
    }

    private static void theEntrysOwnTimeToLive() {
        ResolverFleet fleet = entryOf(40, 5, 29);
        fleet.setAddress(0, 8, 1000);
        fleet.query(50, 0);
        CHECK.same("27: the zone's time to live is greater", fleet.prefetches(), 0);
        fleet.setAddress(0, 8, 1);
        fleet.pass(1);
        fleet.query(50, 0);
        CHECK.same("27: the zone's time to live is smaller", fleet.prefetches(), 1);
        CHECK.same("23: left then", fleet.left(0, 0), 1);
    }

    private static void anAnswerOfNothing() {
        ResolverFleet fleet = Fleets.oneSite();
        Fleets.queryOften(fleet, 3, 4);
        fleet.setBound(300);
        fleet.pass(22);
        fleet.query(50, 3);
        CHECK.same("27: 8 of 30 left", fleet.prefetches(), 0);
        fleet.pass(1);
        fleet.query(50, 3);
        CHECK.same("27: 7 of 30 left", fleet.prefetches(), 1);
        CHECK.same("23: the new bound", fleet.left(0, 3), 300);
    }

    private static void aliasAndTargetInOneQuery() {
        ResolverFleet fleet = Fleets.oneSite();
        fleet.setAlias(0, 1, 8);
        fleet.setAddress(1, 7, 8);
        Fleets.queryOften(fleet, 0, 4);
        fleet.pass(6);
        fleet.remove(0);
        CHECK.same("14: by the entries of before", fleet.query(50, 0), 7);
        CHECK.same("27: both", fleet.prefetches(), 2);
        CHECK.same("19: both", fleet.lastFetches(), 2);
        CHECK.same("18: two look-ups", fleet.lastLookUps(), 2);
        CHECK.same("21: nothing now", fleet.cachedKind(0, 0), ResolverFleet.NOTHING);
        CHECK.same("23: the alias's", fleet.left(0, 0), 30);
        CHECK.same("23: the target's", fleet.left(0, 1), 8);
    }

    private static void afterAFailure() {
        ResolverFleet fleet = Fleets.oneSite();
        for (int name = 0; name < 5; name++) {
            fleet.setAlias(name, name + 1, 8);
        }
        Fleets.queryOften(fleet, 0, 4);
        fleet.pass(6);
        CHECK.same("14: it fails", fleet.query(50, 0), ResolverFleet.FAILED);
        CHECK.same("27: all that were used", fleet.prefetches(), 5);
        CHECK.same("19: all that were used", fleet.lastFetches(), 5);
    }

    /** The fetch for the target drops the alias, which ends first. */
    private static void notWhenItWasDropped() {
        ResolverFleet fleet = Fleets.oneSite();
        fleet.setAlias(0, 6, 8);
        Fleets.queryOften(fleet, 0, 4);
        fleet.flush(0, 6);
        for (int name = 1; name < 6; name++) {
            fleet.setAddress(name, name, 100);
            fleet.query(50, name);
        }
        fleet.pass(6);
        CHECK.same("14: nothing", fleet.query(50, 0), ResolverFleet.NO_NAME);
        CHECK.same("27: not fetched anew", fleet.prefetches(), 0);
        CHECK.same("19: the target alone", fleet.lastFetches(), 1);
        CHECK.same("21: the alias is dropped", fleet.cachedKind(0, 0), ResolverFleet.NO_ENTRY);
    }

    /** Each of the two names is used fresh at least twice in one query. */
    private static void onceInACircle() {
        ResolverFleet fleet = Fleets.oneSite();
        fleet.setAlias(0, 1, 8);
        fleet.setAlias(1, 0, 8);
        fleet.query(50, 0);
        fleet.pass(6);
        CHECK.same("14: a circle", fleet.query(50, 0), ResolverFleet.FAILED);
        CHECK.same("27: each once", fleet.prefetches(), 2);
        CHECK.same("19: each once", fleet.lastFetches(), 2);
        CHECK.same("24: no hits", fleet.hitsOf(0, 0), 0);
        CHECK.same("24: no hits of the other", fleet.hitsOf(0, 1), 0);
        CHECK.same("26: four in all", fleet.fetches(), 4);
    }

    private static void onlyWhatThisQueryUsed() {
        ResolverFleet fleet = entryOf(40, 5, 30);
        fleet.query(50, 9);
        CHECK.same("27: another name's entry is hot", fleet.prefetches(), 0);
        CHECK.same("19: the queried name alone", fleet.lastFetches(), 1);
        CHECK.same("23: the hot one is left alone", fleet.left(0, 0), 10);
        CHECK.same("24: the hot one has no hit", fleet.hitsOf(0, 0), 5);
        ResolverFleet down = entryOf(40, 5, 30);
        down.setAuthority(false);
        down.query(50, 0);
        down.setAuthority(true);
        down.query(50, 9);
        CHECK.same("27: used by the query before", down.prefetches(), 0);
    }

    /** "is fetched anew if the authority is up": hot, it waits for the first query after it is up again. */
    private static void onlyWhileTheAuthorityIsUp() {
        ResolverFleet fleet = entryOf(40, 5, 30);
        fleet.setAuthority(false);
        CHECK.same("14: fresh while it is down", fleet.query(50, 0), 7);
        CHECK.same("27: down", fleet.prefetches(), 0);
        CHECK.same("19: down", fleet.lastFetches(), 0);
        CHECK.same("24: down", fleet.hitsOf(0, 0), 6);
        CHECK.same("17: down", fleet.lastWasStale(), false);
        fleet.setAuthority(true);
        CHECK.same("27: not without a query", fleet.prefetches(), 0);
        CHECK.same("23: not without a query", fleet.left(0, 0), 10);
        fleet.query(50, 0);
        CHECK.same("27: up", fleet.prefetches(), 1);
        CHECK.same("23: up", fleet.left(0, 0), 40);
    }

    private static void notByALookAtTheAnswer() {
        ResolverFleet fleet = entryOf(40, 5, 30);
        fleet.wouldAnswer(50, 0);
        fleet.truth(0);
        fleet.pass(1);
        CHECK.same("27: no query", fleet.prefetches(), 0);
        CHECK.same("24: no query", fleet.hitsOf(0, 0), 5);
        CHECK.same("23: no query", fleet.left(0, 0), 9);
    }
}
