/** No room left: what the seventh entry of a cache does, and what does not make one. */
public final class FullTest {
    private static final Check CHECK = new Check();

    public static void main(String[] args) {
        theSixthEntryHasRoom();
        theSeventhDropsTheOneThatEndsFirst();
        theEndCountsNotTheFetch();
        anEndedEntryIsDroppedBeforeAFreshOne();
        everyKindCanBeDropped();
        hitsSaveNoEntry();
        anEntryForTheSameNameDropsNone();
        anEndedEntryOfTheSameNameDropsNone();
        fetchedAnewInAFullCache();
        aHitAFailureOrAStaleAnswerDropsNone();
        aFlushMakesRoomForOne();
        eachSiteHasRoomForSix();
        theAliasThatWasUsedIsDropped();
        theTargetThatIsWantedIsDropped();
        fiveFetchesDropFive();
        wouldAnswerDropsNone();
        CHECK.finish();
    }

    private static void theSixthEntryHasRoom() {
        ResolverFleet fleet = Fleets.oneSite();
        for (int name = 0; name < 5; name++) {
            fleet.query(50, name);
        }
        CHECK.same("21: five", Fleets.cachedNames(fleet, 0), "0 1 2 3 4");
        fleet.query(50, 15);
        CHECK.same("21: the sixth", Fleets.cachedNames(fleet, 0), "0 1 2 3 4 15");
        CHECK.same("20: the sixth", fleet.entries(0), 6);
    }

    /** "if there is none, and there are 6 entries, the one that ends first is dropped": whichever of the six it is. */
    private static void theSeventhDropsTheOneThatEndsFirst() {
        for (int first = 0; first < 6; first++) {
            int[] lives = {90, 90, 90, 90, 90, 90};
            lives[first] = 89;
            ResolverFleet fleet = Fleets.sixEntries(lives);
            fleet.query(50, 9);
            CHECK.same("20: still six", fleet.entries(0), 6);
            CHECK.same("21: the one that ends first", fleet.cachedKind(0, first), ResolverFleet.NO_ENTRY);
            CHECK.same("21: the new one", fleet.cachedKind(0, 9), ResolverFleet.NOTHING);
            CHECK.same("19: one", fleet.lastFetches(), 1);
        }
    }

    /** Neither the one that was fetched first, nor the one of the least time to live. */
    private static void theEndCountsNotTheFetch() {
        ResolverFleet fleet = Fleets.oneSite();
        fleet.setAddress(0, 7, 100);
        fleet.query(50, 0);
        fleet.pass(50);
        int[] lives = {0, 51, 60, 49, 70, 80};
        for (int name = 1; name < 6; name++) {
            fleet.setAddress(name, 7, lives[name]);
            fleet.query(50, name);
        }
        fleet.query(50, 9);
        CHECK.same("21: 49 left of 49", Fleets.cachedNames(fleet, 0), "0 1 2 4 5 9");
        fleet.query(50, 9);
        fleet.flush(0, 9);
        fleet.setAddress(10, 7, 1000);
        fleet.query(50, 10);
        fleet.setAddress(11, 7, 1000);
        fleet.query(50, 11);
        CHECK.same("21: 50 left of 100", Fleets.cachedNames(fleet, 0), "1 2 4 5 10 11");
    }

    private static void anEndedEntryIsDroppedBeforeAFreshOne() {
        ResolverFleet fleet = Fleets.sixEntries(90, 80, 20, 10, 50, 65);
        fleet.pass(30);
        fleet.query(50, 9);
        CHECK.same("21: ended 20 ago", Fleets.cachedNames(fleet, 0), "0 1 2 4 5 9");
        fleet.query(50, 10);
        CHECK.same("21: ended 10 ago", Fleets.cachedNames(fleet, 0), "0 1 4 5 9 10");
        fleet.query(50, 11);
        CHECK.same("21: not ended", Fleets.cachedNames(fleet, 0), "0 1 5 9 10 11");
    }

    private static void everyKindCanBeDropped() {
        for (int first = 0; first < 3; first++) {
            ResolverFleet fleet = Fleets.sixEntries(90, 90, 90, 90, 90, 90);
            fleet.flush(0, 0);
            if (first == 1) {
                fleet.setAddress(8, 7, 9);
            } else if (first == 2) {
                fleet.setAlias(8, 3, 9);
            }
            fleet.query(50, 8);
            CHECK.same("21: kind", fleet.cachedKind(0, 8), new int[] {2, 0, 1}[first]);
            fleet.query(50, 15);
            CHECK.same("21: it ended first", Fleets.cachedNames(fleet, 0), "1 2 3 4 5 15");
        }
    }

    private static void hitsSaveNoEntry() {
        ResolverFleet fleet = Fleets.sixEntries(90, 80, 70, 60, 50, 65);
        Fleets.queryOften(fleet, 4, 20);
        fleet.query(50, 9);
        CHECK.same("21: dropped for all its hits", Fleets.cachedNames(fleet, 0), "0 1 2 3 5 9");
        CHECK.same("24: its hits are gone", fleet.hitsOf(0, 4), 0);
        CHECK.same("22: its value is gone", fleet.cachedValue(0, 4), ResolverFleet.NONE);
    }

    /** "it takes the place of the one for this name, if there is one": the six stay six, and the same six. */
    private static void anEntryForTheSameNameDropsNone() {
        for (int name = 0; name < 6; name++) {
            ResolverFleet fleet = Fleets.sixEntries(40, 40, 40, 40, 40, 40);
            fleet.setAddress(name, 77, 60);
            fleet.pass(40);
            CHECK.same("14: fetched again", fleet.query(50, name), 77);
            CHECK.same("21: the same six", Fleets.cachedNames(fleet, 0), "0 1 2 3 4 5");
            CHECK.same("23: the new end", fleet.left(0, name), 60);
            CHECK.same("23: the old end of another", fleet.left(0, (name + 1) % 6), 0);
        }
    }

    private static void anEndedEntryOfTheSameNameDropsNone() {
        ResolverFleet fleet = Fleets.sixEntries(5, 10, 90, 90, 90, 90);
        fleet.pass(20);
        fleet.query(50, 1);
        CHECK.same("21: not the one that ended before it", Fleets.cachedNames(fleet, 0), "0 1 2 3 4 5");
        CHECK.same("23: the one that ended before it", fleet.left(0, 0), -15);
        CHECK.same("23: the new end", fleet.left(0, 1), 10);
    }

    private static void fetchedAnewInAFullCache() {
        ResolverFleet fleet = Fleets.sixEntries(5, 40, 90, 90, 90, 90);
        Fleets.queryOften(fleet, 1, 3);
        fleet.pass(30);
        fleet.query(50, 1);
        CHECK.same("27: fetched anew", fleet.prefetches(), 1);
        CHECK.same("21: the same six", Fleets.cachedNames(fleet, 0), "0 1 2 3 4 5");
        CHECK.same("23: the new end", fleet.left(0, 1), 40);
        CHECK.same("23: the one that had ended", fleet.left(0, 0), -25);
    }

    private static void aHitAFailureOrAStaleAnswerDropsNone() {
        ResolverFleet fleet = Fleets.sixEntries(5, 40, 90, 90, 90, 90);
        fleet.pass(10);
        fleet.query(50, 2);
        CHECK.same("21: a hit", Fleets.cachedNames(fleet, 0), "0 1 2 3 4 5");
        fleet.setAuthority(false);
        CHECK.same("14: a stale answer", fleet.query(50, 0), 1);
        CHECK.same("21: a stale answer", Fleets.cachedNames(fleet, 0), "0 1 2 3 4 5");
        CHECK.same("14: a failure", fleet.query(50, 9), ResolverFleet.FAILED);
        CHECK.same("21: a failure", Fleets.cachedNames(fleet, 0), "0 1 2 3 4 5");
    }

    private static void aFlushMakesRoomForOne() {
        ResolverFleet fleet = Fleets.sixEntries(40, 50, 60, 70, 80, 90);
        fleet.flush(0, 5);
        fleet.query(50, 9);
        CHECK.same("21: room for one", Fleets.cachedNames(fleet, 0), "0 1 2 3 4 9");
        fleet.query(50, 10);
        CHECK.same("21: no room for a second", Fleets.cachedNames(fleet, 0), "0 1 2 3 4 10");
    }

    private static void eachSiteHasRoomForSix() {
        ResolverFleet fleet = new ResolverFleet();
        for (int site = 0; site < 4; site++) {
            fleet.addSite(33 * site);
            for (int i = 0; i < 6; i++) {
                fleet.query(33 * site, 3 * site + i);
            }
        }
        CHECK.same("21: site 0", Fleets.cachedNames(fleet, 0), "0 1 2 3 4 5");
        CHECK.same("21: site 1", Fleets.cachedNames(fleet, 1), "3 4 5 6 7 8");
        CHECK.same("21: site 2", Fleets.cachedNames(fleet, 2), "6 7 8 9 10 11");
        CHECK.same("21: site 3", Fleets.cachedNames(fleet, 3), "9 10 11 12 13 14");
        fleet.query(99, 15);
        CHECK.same("21: one dropped at site 3", Fleets.cachedNames(fleet, 3), "10 11 12 13 14 15");
        CHECK.same("21: none dropped at site 0", Fleets.cachedNames(fleet, 0), "0 1 2 3 4 5");
    }

    /** The fetch for the target drops the alias, hot as it is: "the entry is still in the cache" does not hold. */
    private static void theAliasThatWasUsedIsDropped() {
        ResolverFleet fleet = Fleets.oneSite();
        fleet.setAlias(0, 6, 8);
        fleet.setAddress(6, 66, 100);
        Fleets.queryOften(fleet, 0, 4);
        fleet.flush(0, 6);
        for (int name = 1; name < 6; name++) {
            fleet.setAddress(name, name, 100);
            fleet.query(50, name);
        }
        fleet.pass(6);
        CHECK.same("15: its target is fetched", fleet.wouldAnswer(50, 0), 66);
        CHECK.same("14: its target is fetched", fleet.query(50, 0), 66);
        CHECK.same("21: it is dropped", Fleets.cachedNames(fleet, 0), "1 2 3 4 5 6");
        CHECK.same("27: it is not fetched anew", fleet.prefetches(), 0);
        CHECK.same("19: its target alone", fleet.lastFetches(), 1);
    }

    /** The fetch for the alias drops the fresh entry of its target, which is then fetched, and drops another one. */
    private static void theTargetThatIsWantedIsDropped() {
        ResolverFleet fleet = Fleets.sixEntries(60, 50, 40, 41, 70, 90);
        fleet.setAlias(6, 2, 100);
        fleet.setAddress(2, 33, 20);
        CHECK.same("15: the target is fetched", fleet.wouldAnswer(50, 6), 33);
        CHECK.same("14: the target is fetched", fleet.query(50, 6), 33);
        CHECK.same("19: both", fleet.lastFetches(), 2);
        CHECK.same("21: another one is dropped", Fleets.cachedNames(fleet, 0), "0 1 2 4 5 6");
        CHECK.same("23: the target's end", fleet.left(0, 2), 20);
        CHECK.same("24: the target's hits", fleet.hitsOf(0, 2), 0);
    }

    /** Each fetch of a query drops one: in the end, the last one that is left is the one that ends last. */
    private static void fiveFetchesDropFive() {
        ResolverFleet fleet = Fleets.sixEntries(40, 50, 60, 55, 45, 35);
        for (int name = 10; name < 14; name++) {
            fleet.setAlias(name, name + 1, 100);
        }
        fleet.setAddress(14, 44, 100);
        CHECK.same("14: behind four aliases", fleet.query(50, 10), 44);
        CHECK.same("19: five", fleet.lastFetches(), 5);
        CHECK.same("20: six", fleet.entries(0), 6);
        CHECK.same("21: five new ones", Fleets.cachedNames(fleet, 0), "2 10 11 12 13 14");
    }

    private static void wouldAnswerDropsNone() {
        for (int name = 0; name < 16; name++) {
            int asked = name;
            CHECK.changesNothing("15: wouldAnswer with a full cache", FullTest::fullCache, f -> f.wouldAnswer(50, asked));
            CHECK.same("15: what query answers", fullCache().wouldAnswer(50, name), fullCache().query(50, name));
        }
    }

    private static ResolverFleet fullCache() {
        ResolverFleet fleet = Fleets.sixEntries(40, 20, 30, 50, 60, 25);
        fleet.setAlias(6, 1, 10);
        fleet.setAlias(7, 6, 15);
        fleet.setAlias(8, 9, 20);
        fleet.setAddress(1, 99, 70);
        Fleets.queryOften(fleet, 1, 3);
        fleet.pass(17);
        return fleet;
    }
}
