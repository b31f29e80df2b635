/** Of several that are alike, the one that the document names. */
public final class AlikeTest {
    private static final Check CHECK = new Check();

    public static void main(String[] args) {
        twoSitesAsNear();
        sitesAtOnePosition();
        withdrawnSitesDoNotCount();
        everyPairOfPositions();
        theQueryGoesToThatSite();
        allSixEndAtOnce();
        someEndAtOnce();
        theOrderOfTheFetchesIsNoMatter();
        theTimesToLiveAreNoMatter();
        theNewOneIsAlikeToo();
        oneMomentApart();
        CHECK.finish();
    }

    /** "of several to the one with the lowest number", on whichever side of the client it is. */
    private static void twoSitesAsNear() {
        ResolverFleet up = new ResolverFleet();
        up.addSite(20);
        up.addSite(40);
        CHECK.same("10: 29 is nearer to 20", up.siteFor(29), 0);
        CHECK.same("10: 30 is as near to 20 as to 40", up.siteFor(30), 0);
        CHECK.same("10: 31 is nearer to 40", up.siteFor(31), 1);
        ResolverFleet down = new ResolverFleet();
        down.addSite(40);
        down.addSite(20);
        CHECK.same("10: 29 is nearer to 20", down.siteFor(29), 1);
        CHECK.same("10: 30 is as near to 20 as to 40", down.siteFor(30), 0);
        CHECK.same("10: 31 is nearer to 40", down.siteFor(31), 0);
        ResolverFleet far = new ResolverFleet();
        far.addSite(0);
        far.addSite(98);
        CHECK.same("10: 49 is as near to 0 as to 98", far.siteFor(49), 0);
        CHECK.same("10: 50 is nearer to 98", far.siteFor(50), 1);
    }

    private static void sitesAtOnePosition() {
        ResolverFleet fleet = new ResolverFleet();
        fleet.addSite(90);
        fleet.addSite(10);
        fleet.addSite(10);
        fleet.addSite(10);
        for (int client : new int[] {0, 10, 49}) {
            CHECK.same("10: three at 10", fleet.siteFor(client), 1);
        }
        CHECK.same("10: four as near to 50", fleet.siteFor(50), 0);
        CHECK.same("10: 51 is nearer to 90", fleet.siteFor(51), 0);
    }

    /** "comes to the announced site": a withdrawn one of a lower number, or a nearer one, is passed over. */
    private static void withdrawnSitesDoNotCount() {
        ResolverFleet fleet = new ResolverFleet();
        for (int site = 0; site < 4; site++) {
            fleet.addSite(site == 3 ? 60 : 50);
        }
        fleet.announce(0, false);
        CHECK.same("10: 1 in place of 0", fleet.siteFor(50), 1);
        fleet.announce(1, false);
        CHECK.same("10: 2 in place of 1", fleet.siteFor(50), 2);
        fleet.announce(2, false);
        CHECK.same("10: 3 in place of the nearer ones", fleet.siteFor(50), 3);
        fleet.announce(1, true);
        CHECK.same("10: 1 again", fleet.siteFor(50), 1);
        CHECK.same("10: 1 is as near to 55 as 3", fleet.siteFor(55), 1);
        CHECK.same("10: 3 is nearer to 56", fleet.siteFor(56), 3);
    }

    private static void everyPairOfPositions() {
        for (int first = 0; first < 100; first += 3) {
            for (int second = 0; second < 100; second++) {
                ResolverFleet fleet = new ResolverFleet();
                fleet.addSite(first);
                fleet.addSite(second);
                for (int client = 0; client < 100; client++) {
                    boolean isSecond = Math.abs(client - second) < Math.abs(client - first);
                    CHECK.same("10: " + client + " of " + first + " and " + second, fleet.siteFor(client), isSecond ? 1 : 0);
                }
            }
        }
    }

    private static void theQueryGoesToThatSite() {
        ResolverFleet fleet = new ResolverFleet();
        fleet.addSite(40);
        fleet.addSite(20);
        fleet.query(30, 0);
        CHECK.same("16: as near to both", fleet.lastSite(), 0);
        CHECK.same("20: as near to both", fleet.entries(0), 1);
        CHECK.same("20: none at the other", fleet.entries(1), 0);
        fleet.query(29, 0);
        CHECK.same("16: nearer to 20", fleet.lastSite(), 1);
        fleet.announce(0, false);
        fleet.setAddress(0, 7, 5);
        CHECK.same("15: by the cache of the other", fleet.wouldAnswer(30, 0), ResolverFleet.NO_NAME);
        CHECK.same("14: by the cache of the other", fleet.query(30, 0), ResolverFleet.NO_NAME);
        CHECK.same("24: by the cache of the other", fleet.hitsOf(1, 0), 1);
    }

    /** "of several the one with the lowest name": one after the other. */
    private static void allSixEndAtOnce() {
        ResolverFleet fleet = Fleets.sixEntries(40, 40, 40, 40, 40, 40);
        String[] due = {"1 2 3 4 5 6", "2 3 4 5 6 7", "3 4 5 6 7 8", "4 5 6 7 8 9", "5 6 7 8 9 10", "6 7 8 9 10 11"};
        for (int i = 0; i < 6; i++) {
            fleet.setAddress(6 + i, 7, 50);
            fleet.query(50, 6 + i);
            CHECK.same("21: the lowest name is dropped", Fleets.cachedNames(fleet, 0), due[i]);
        }
    }

    /** The lowest of those that end first, not of all. */
    private static void someEndAtOnce() {
        ResolverFleet two = Fleets.sixEntries(90, 80, 60, 40, 60, 40);
        two.query(50, 9);
        CHECK.same("21: 3 and 5 end first", Fleets.cachedNames(two, 0), "0 1 2 4 5 9");
        ResolverFleet ended = Fleets.sixEntries(90, 80, 5, 60, 5, 5);
        ended.pass(10);
        ended.query(50, 9);
        CHECK.same("21: 2, 4 and 5 ended first", Fleets.cachedNames(ended, 0), "0 1 3 4 5 9");
        ended.query(50, 10);
        CHECK.same("21: 4 and 5 ended first", Fleets.cachedNames(ended, 0), "0 1 3 5 9 10");
        ended.query(50, 11);
        CHECK.same("21: 5 ended first", Fleets.cachedNames(ended, 0), "0 1 3 9 10 11");
    }

    private static void theOrderOfTheFetchesIsNoMatter() {
        int[][] orders = {{15, 12, 9, 6, 3, 1}, {1, 3, 6, 9, 12, 15}, {6, 15, 1, 12, 3, 9}};
        for (int[] order : orders) {
            ResolverFleet fleet = Fleets.oneSite();
            for (int name : order) {
                fleet.query(50, name);
            }
            fleet.query(50, 2);
            CHECK.same("21: the lowest name is dropped", Fleets.cachedNames(fleet, 0), "2 3 6 9 12 15");
        }
    }

    /** They end at once though they were fetched at different times, and whatever kind they are. */
    private static void theTimesToLiveAreNoMatter() {
        ResolverFleet fleet = Fleets.oneSite();
        for (int name = 5; name >= 0; name--) {
            int life = 100 - fleet.time();
            if (name % 3 == 0) {
                fleet.setAddress(name, 7, life);
            } else if (name % 3 == 1) {
                fleet.setAlias(name, 5, life);
            } else {
                fleet.setBound(life);
            }
            fleet.query(50, name);
            fleet.pass(10);
        }
        CHECK.same("23: the first one", fleet.left(0, 5), 40);
        CHECK.same("23: the last one", fleet.left(0, 0), 40);
        fleet.query(50, 9);
        CHECK.same("21: the lowest name is dropped", Fleets.cachedNames(fleet, 0), "1 2 3 4 5 9");
        fleet.query(50, 10);
        CHECK.same("21: the lowest name is dropped next", Fleets.cachedNames(fleet, 0), "2 3 4 5 9 10");
    }

    /** The dropped one is one of the six that were there, though the new one has a lower name; the next time it counts. */
    private static void theNewOneIsAlikeToo() {
        ResolverFleet fleet = Fleets.oneSite();
        for (int name = 10; name < 16; name++) {
            fleet.query(50, name);
        }
        fleet.query(50, 3);
        CHECK.same("21: the lowest of the six", Fleets.cachedNames(fleet, 0), "3 11 12 13 14 15");
        fleet.query(50, 7);
        CHECK.same("21: the one that was new", Fleets.cachedNames(fleet, 0), "7 11 12 13 14 15");
        fleet.query(50, 0);
        CHECK.same("21: the next new one", Fleets.cachedNames(fleet, 0), "0 11 12 13 14 15");
    }

    /** Almost alike: a higher name that ends one tick before a lower one. */
    private static void oneMomentApart() {
        ResolverFleet fleet = Fleets.sixEntries(41, 41, 41, 41, 41, 40);
        fleet.query(50, 9);
        CHECK.same("21: 5 ends first", Fleets.cachedNames(fleet, 0), "0 1 2 3 4 9");
        ResolverFleet lower = Fleets.sixEntries(40, 41, 41, 41, 41, 41);
        lower.query(50, 9);
        CHECK.same("21: 0 ends first", Fleets.cachedNames(lower, 0), "1 2 3 4 5 9");
    }
}
