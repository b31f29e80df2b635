/** The first number that is too many, or enough, and the one before it. */
public final class TooManyTest {
    private static final Check CHECK = new Check();

    public static void main(String[] args) {
        upToFourAliases();
        fromFiveAliases();
        fourAliasesAndNothing();
        fiveFreshAliases();
        fiveStaleAliases();
        circles();
        theLookUpThatFails();
        theStaleLookUpAndTheOneThatFails();
        twoHitsAndThree();
        hitsCountFromTheFetch();
        fourSitesAndFive();
        sixEntriesAndSeven();
        fetchesOfOneQuery();
        theLastOf512Calls();
        CHECK.finish();
    }

    /** "or when an alias is looked up after 4 aliases were looked up already": an address after 4 is no alias. */
    private static void upToFourAliases() {
        for (int aliases = 0; aliases <= 4; aliases++) {
            ResolverFleet fleet = Fleets.chain(aliases, 9);
            String behind = "an address behind " + aliases + " aliases";
            CHECK.same("7: " + behind, fleet.truth(0), 44);
            CHECK.same("15: " + behind, fleet.wouldAnswer(50, 0), 44);
            CHECK.same("14: " + behind, fleet.query(50, 0), 44);
            CHECK.same("18: " + behind, fleet.lastLookUps(), aliases + 1);
            CHECK.same("19: " + behind, fleet.lastFetches(), aliases + 1);
            CHECK.same("29: " + behind, fleet.failures(), 0);
            CHECK.same("14: again, " + behind, fleet.query(50, 0), 44);
            CHECK.same("18: again, " + behind, fleet.lastLookUps(), aliases + 1);
            CHECK.same("19: again, " + behind, fleet.lastFetches(), 0);
        }
    }

    /** The fifth alias is looked up, and nothing behind it. */
    private static void fromFiveAliases() {
        for (int aliases : new int[] {5, 6, 15}) {
            ResolverFleet fleet = Fleets.chain(aliases, 9);
            String behind = "an address behind " + aliases + " aliases";
            CHECK.same("7: " + behind, fleet.truth(0), ResolverFleet.FAILED);
            CHECK.same("15: " + behind, fleet.wouldAnswer(50, 0), ResolverFleet.FAILED);
            CHECK.same("14: " + behind, fleet.query(50, 0), ResolverFleet.FAILED);
            CHECK.same("18: " + behind, fleet.lastLookUps(), 5);
            CHECK.same("19: " + behind, fleet.lastFetches(), 5);
            CHECK.same("20: " + behind, Fleets.cachedNames(fleet, 0), "0 1 2 3 4");
            CHECK.same("21: " + behind, fleet.cachedKind(0, 4), ResolverFleet.ALIAS);
            CHECK.same("29: " + behind, fleet.failures(), 1);
            CHECK.same("17: " + behind, fleet.lastWasStale(), false);
            CHECK.same("14: one alias less", fleet.query(50, aliases - 4), 44);
        }
    }

    private static void fourAliasesAndNothing() {
        ResolverFleet four = Fleets.chain(4, 9);
        four.remove(4);
        CHECK.same("7: nothing behind 4 aliases", four.truth(0), ResolverFleet.NO_NAME);
        CHECK.same("15: nothing behind 4 aliases", four.wouldAnswer(50, 0), ResolverFleet.NO_NAME);
        CHECK.same("14: nothing behind 4 aliases", four.query(50, 0), ResolverFleet.NO_NAME);
        CHECK.same("29: nothing behind 4 aliases", four.failures(), 0);
        ResolverFleet five = Fleets.chain(5, 9);
        five.remove(5);
        CHECK.same("7: nothing behind 5 aliases", five.truth(0), ResolverFleet.FAILED);
        CHECK.same("15: nothing behind 5 aliases", five.wouldAnswer(50, 0), ResolverFleet.FAILED);
        CHECK.same("14: nothing behind 5 aliases", five.query(50, 0), ResolverFleet.FAILED);
        CHECK.same("29: nothing behind 5 aliases", five.failures(), 1);
    }

    /** What counts is what the entries tell, not what the zone has become; the fifth one is hit too. */
    private static void fiveFreshAliases() {
        ResolverFleet fleet = Fleets.chain(5, 9);
        fleet.query(50, 0);
        fleet.query(50, 5);
        fleet.setAddress(0, 12, 9);
        CHECK.same("7: the zone has an address", fleet.truth(0), 12);
        CHECK.same("15: the cache has 5 aliases", fleet.wouldAnswer(50, 0), ResolverFleet.FAILED);
        CHECK.same("14: the cache has 5 aliases", fleet.query(50, 0), ResolverFleet.FAILED);
        CHECK.same("18: 5 hits", fleet.lastLookUps(), 5);
        CHECK.same("19: no fetch", fleet.lastFetches(), 0);
        for (int name = 0; name < 5; name++) {
            CHECK.same("24: hit " + name, fleet.hitsOf(0, name), 1);
        }
        CHECK.same("24: the address was not looked up", fleet.hitsOf(0, 5), 0);
    }

    private static void fiveStaleAliases() {
        ResolverFleet fleet = Fleets.chain(5, 9);
        fleet.query(50, 1);
        fleet.query(50, 0);
        fleet.setAuthority(false);
        fleet.pass(9);
        CHECK.same("14: 4 stale aliases", fleet.query(50, 1), 44);
        CHECK.same("14: 5 stale aliases", fleet.query(50, 0), ResolverFleet.FAILED);
        CHECK.same("17: stale, and failed", fleet.lastWasStale(), true);
        CHECK.same("18: stale, and failed", fleet.lastLookUps(), 5);
        CHECK.same("28: both", fleet.staleAnswers(), 2);
        CHECK.same("29: 5 fresh ones, and 5 stale ones", fleet.failures(), 2);
    }

    private static void circles() {
        for (int aliases : new int[] {2, 3, 4, 5, 6, 16}) {
            ResolverFleet fleet = Fleets.circle(aliases, 9);
            String of = "a circle of " + aliases;
            for (int name = 0; name < aliases; name++) {
                CHECK.same("7: " + of, fleet.truth(name), ResolverFleet.FAILED);
                CHECK.same("15: " + of, fleet.wouldAnswer(50, name), ResolverFleet.FAILED);
            }
            CHECK.same("14: " + of, fleet.query(50, 0), ResolverFleet.FAILED);
            CHECK.same("18: " + of, fleet.lastLookUps(), 5);
            CHECK.same("19: " + of, fleet.lastFetches(), Math.min(5, aliases));
            CHECK.same("20: " + of, fleet.entries(0), Math.min(5, aliases));
            CHECK.same("29: " + of, fleet.failures(), 1);
        }
    }

    /** "how many names were looked up for the last query, one that failed included": each of the five can fail. */
    private static void theLookUpThatFails() {
        for (int gone = 0; gone <= 4; gone++) {
            ResolverFleet fleet = Fleets.chain(4, 9);
            fleet.query(50, 0);
            fleet.flush(0, gone);
            fleet.setAuthority(false);
            String at = "the look-up " + (gone + 1) + " fails";
            CHECK.same("15: " + at, fleet.wouldAnswer(50, 0), ResolverFleet.FAILED);
            CHECK.same("14: " + at, fleet.query(50, 0), ResolverFleet.FAILED);
            CHECK.same("18: " + at, fleet.lastLookUps(), gone + 1);
            CHECK.same("19: " + at, fleet.lastFetches(), 0);
            CHECK.same("17: " + at, fleet.lastWasStale(), false);
            CHECK.same("29: " + at, fleet.failures(), 1);
            CHECK.same("20: " + at, fleet.entries(0), 4);
            for (int name = 0; name <= 4; name++) {
                CHECK.same("24: " + at + ", hits of " + name, fleet.hitsOf(0, name), name < gone ? 1 : 0);
            }
            CHECK.same("7: the zone does not fail", fleet.truth(0), 44);
        }
    }

    /** "how many queries had a stale answer, those that failed then included": once for each query. */
    private static void theStaleLookUpAndTheOneThatFails() {
        for (int gone = 0; gone <= 4; gone++) {
            ResolverFleet fleet = Fleets.chain(4, 9);
            fleet.query(50, 0);
            fleet.flush(0, gone);
            fleet.setAuthority(false);
            fleet.pass(9);
            String at = "the look-up " + (gone + 1) + " fails after stale ones";
            CHECK.same("14: " + at, fleet.query(50, 0), ResolverFleet.FAILED);
            CHECK.same("18: " + at, fleet.lastLookUps(), gone + 1);
            CHECK.same("17: " + at, fleet.lastWasStale(), gone > 0);
            CHECK.same("28: " + at, fleet.staleAnswers(), gone > 0 ? 1 : 0);
            CHECK.same("29: " + at, fleet.failures(), 1);
        }
    }

    /** "its hits are at least 3", the one of this query among them. */
    private static void twoHitsAndThree() {
        for (int hits = 0; hits <= 5; hits++) {
            ResolverFleet fleet = Fleets.oneSite();
            fleet.setAddress(0, 7, 40);
            fleet.query(50, 0);
            Fleets.queryOften(fleet, 0, hits);
            fleet.pass(30);
            fleet.query(50, 0);
            boolean isHot = hits + 1 >= 3;
            CHECK.same("27: " + (hits + 1) + " hits", fleet.prefetches(), isHot ? 1 : 0);
            CHECK.same("19: " + (hits + 1) + " hits", fleet.lastFetches(), isHot ? 1 : 0);
            CHECK.same("26: " + (hits + 1) + " hits", fleet.fetches(), isHot ? 2 : 1);
            CHECK.same("24: " + (hits + 1) + " hits", fleet.hitsOf(0, 0), isHot ? 0 : hits + 1);
            CHECK.same("23: " + (hits + 1) + " hits", fleet.left(0, 0), isHot ? 40 : 10);
        }
    }

    /** "and its hits, 0 at first": hits of the entry before are lost, with each way to be fetched again. */
    private static void hitsCountFromTheFetch() {
        ResolverFleet fleet = Fleets.oneSite();
        fleet.setAddress(0, 7, 40);
        Fleets.queryOften(fleet, 0, 6);
        CHECK.same("24: five hits", fleet.hitsOf(0, 0), 5);
        fleet.flush(0, 0);
        fleet.query(50, 0);
        CHECK.same("24: after a flush", fleet.hitsOf(0, 0), 0);
        fleet.pass(30);
        Fleets.queryOften(fleet, 0, 2);
        CHECK.same("27: two hits after a flush", fleet.prefetches(), 0);
        fleet.query(50, 0);
        CHECK.same("27: three hits after a flush", fleet.prefetches(), 1);
        fleet.pass(30);
        Fleets.queryOften(fleet, 0, 2);
        CHECK.same("27: two hits after it was fetched anew", fleet.prefetches(), 1);
        fleet.pass(10);
        fleet.query(50, 0);
        CHECK.same("24: after its end", fleet.hitsOf(0, 0), 0);
        fleet.pass(30);
        Fleets.queryOften(fleet, 0, 2);
        CHECK.same("27: two hits after its end", fleet.prefetches(), 1);
    }

    /** "There are at most 4" sites. */
    private static void fourSitesAndFive() {
        ResolverFleet fleet = new ResolverFleet();
        for (int site = 0; site < 4; site++) {
            CHECK.same("8: the number of a site", fleet.addSite(50), site);
        }
        for (int site = 0; site < 4; site++) {
            CHECK.same("10: the site " + site, fleet.siteFor(50), site);
            fleet.announce(site, false);
        }
        CHECK.same("10: no fifth one", fleet.siteFor(50), ResolverFleet.NONE);
        CHECK.refuses("8: a fifth site", Fleets::full, IllegalStateException.class, f -> f.addSite(50));
        CHECK.refuses("8: a fifth site", Fleets::spread, IllegalStateException.class, f -> f.addSite(0));
        CHECK.refuses("8: a fifth site", Fleets::withdrawn, IllegalStateException.class, f -> f.addSite(99));
    }

    /** "A site has a cache with at most 6 entries" */
    private static void sixEntriesAndSeven() {
        ResolverFleet fleet = Fleets.oneSite();
        for (int name = 0; name < 16; name++) {
            CHECK.same("20: before the query of " + name, fleet.entries(0), Math.min(6, name));
            fleet.setAddress(name, 7, 100 + name);
            fleet.query(50, name);
            CHECK.same("20: after the query of " + name, fleet.entries(0), Math.min(6, name + 1));
        }
        CHECK.same("21: the six that end last", Fleets.cachedNames(fleet, 0), "10 11 12 13 14 15");
    }

    /** The most fetches of a query: five for five look-ups, or five fetched anew. */
    private static void fetchesOfOneQuery() {
        ResolverFleet fleet = Fleets.chain(4, 8);
        fleet.query(50, 0);
        CHECK.same("19: five looked up", fleet.lastFetches(), 5);
        Fleets.queryOften(fleet, 0, 2);
        fleet.pass(6);
        fleet.query(50, 0);
        CHECK.same("19: five fetched anew", fleet.lastFetches(), 5);
        CHECK.same("18: five looked up", fleet.lastLookUps(), 5);
        CHECK.same("27: five fetched anew", fleet.prefetches(), 5);
        CHECK.same("26: ten", fleet.fetches(), 10);
    }

    /** "An object is used for at most 512 calls after it has been made": the last of them is answered like the first. */
    private static void theLastOf512Calls() {
        ResolverFleet passed = new ResolverFleet();
        for (int call = 1; call < 512; call++) {
            passed.pass(1000);
        }
        CHECK.same("12: the 512th call", passed.pass(1000), 512_000);
        ResolverFleet hit = new ResolverFleet();
        hit.addSite(50);
        Fleets.queryOften(hit, 0, 510);
        CHECK.same("24: the 512th call", hit.hitsOf(0, 0), 509);
        ResolverFleet fetched = new ResolverFleet();
        fetched.addSite(50);
        fetched.setBound(1);
        for (int call = 3; call < 511; call += 2) {
            fetched.query(50, 0);
            fetched.pass(1);
        }
        fetched.query(50, 0);
        CHECK.same("26: the 512th call", fetched.fetches(), 255);
        ResolverFleet failed = new ResolverFleet();
        failed.addSite(50);
        failed.setAuthority(false);
        Fleets.queryOften(failed, 15, 509);
        CHECK.same("29: the 512th call", failed.failures(), 509);
    }
}
