/** The first moment at which an entry has ended, or is no longer used, and the one before it. */
public final class MomentTest {
    private static final Check CHECK = new Check();

    public static void main(String[] args) {
        anAddressEnds();
        anAliasEnds();
        nothingEnds();
        theEndCountsFromTheFetch();
        eachEntryHasItsEnd();
        endedAndTheAuthorityIsUp();
        endedAndTheAuthorityIsDown();
        staleByTheEndAlone();
        staleAgainAndAgain();
        endedEntriesStay();
        whatIsLeft();
        aQuarterIsLeft();
        noQuarterOfThree();
        theLastTickAndTheEnd();
        CHECK.finish();
    }

    /** "It is fresh as long as the time is less than its end": the tick before the end of the entry for 0, and its end. */
    private static void ends(String what, ResolverFleet fleet, int life, int before, int after) {
        if (life > 1) {
            fleet.pass(life - 1);
        }
        CHECK.same("23: a tick before the end of " + what, fleet.left(0, 0), 1);
        CHECK.same("15: a tick before the end of " + what, fleet.wouldAnswer(50, 0), before);
        CHECK.same("14: a tick before the end of " + what, fleet.query(50, 0), before);
        CHECK.same("19: a tick before the end of " + what, fleet.lastFetches(), 0);
        CHECK.same("24: a tick before the end of " + what, fleet.hitsOf(0, 0), 1);
        fleet.pass(1);
        CHECK.same("23: at the end of " + what, fleet.left(0, 0), 0);
        CHECK.same("15: at the end of " + what, fleet.wouldAnswer(50, 0), after);
        CHECK.same("14: at the end of " + what, fleet.query(50, 0), after);
        CHECK.same("19: at the end of " + what, fleet.lastFetches() > 0, true);
        CHECK.same("24: at the end of " + what, fleet.hitsOf(0, 0), 0);
        CHECK.same("27: at the end of " + what, fleet.prefetches(), 0);
        CHECK.same("17: at the end of " + what, fleet.lastWasStale(), false);
    }

    private static void anAddressEnds() {
        for (int life : new int[] {1, 2, 3, 40, 999, 1000}) {
            ResolverFleet fleet = Fleets.oneSite();
            fleet.pass(17);
            fleet.setAddress(0, 7, life);
            fleet.query(50, 0);
            fleet.setAddress(0, 8, life);
            ends("an address of " + life, fleet, life, 7, 8);
        }
    }

    private static void anAliasEnds() {
        for (int life : new int[] {1, 2, 3, 40, 999, 1000}) {
            ResolverFleet fleet = Fleets.oneSite();
            fleet.setAddress(1, 7, 1000);
            fleet.setAddress(2, 8, 1000);
            fleet.setAlias(0, 1, life);
            fleet.query(50, 0);
            fleet.setAlias(0, 2, life);
            ends("an alias of " + life, fleet, life, 7, 8);
        }
    }

    private static void nothingEnds() {
        for (int bound : new int[] {1, 2, 29, 30, 31, 300}) {
            ResolverFleet fleet = Fleets.oneSite();
            fleet.setBound(bound);
            fleet.query(50, 0);
            fleet.setAddress(0, 8, 1000);
            ends("nothing of " + bound, fleet, bound, ResolverFleet.NO_NAME, 8);
        }
    }

    /** "when it ends: then and this time, added": then is the fetch, not a later hit, nor a change of the zone. */
    private static void theEndCountsFromTheFetch() {
        ResolverFleet fleet = Fleets.oneSite();
        fleet.setAddress(0, 7, 20);
        fleet.pass(5);
        fleet.query(50, 0);
        fleet.pass(12);
        fleet.query(50, 0);
        fleet.setAddress(0, 8, 500);
        fleet.setBound(300);
        CHECK.same("23: 12 of 20 have passed", fleet.left(0, 0), 8);
        fleet.pass(7);
        CHECK.same("14: the last tick", fleet.query(50, 0), 7);
        fleet.pass(1);
        CHECK.same("14: the end", fleet.query(50, 0), 8);
    }

    private static void eachEntryHasItsEnd() {
        ResolverFleet fleet = new ResolverFleet();
        fleet.addSite(10);
        fleet.addSite(90);
        fleet.setAddress(0, 7, 20);
        fleet.query(10, 0);
        fleet.pass(3);
        fleet.query(90, 0);
        fleet.query(90, 1);
        fleet.setAddress(0, 8, 20);
        fleet.pass(17);
        CHECK.same("14: the first site's has ended", fleet.query(10, 0), 8);
        CHECK.same("14: the second site's has not", fleet.query(90, 0), 7);
        CHECK.same("23: left at the second site", fleet.left(1, 0), 3);
        fleet.pass(3);
        CHECK.same("14: now it has", fleet.query(90, 0), 8);
        CHECK.same("23: another name's has not", fleet.left(1, 1), 10);
        fleet.query(90, 1);
        CHECK.same("19: another name's has not", fleet.lastFetches(), 0);
    }

    /** "otherwise, if the authority is up, an entry is fetched and used": though the ended one could serve as stale. */
    private static void endedAndTheAuthorityIsUp() {
        for (int ago : new int[] {0, 1, 99, 100, 101}) {
            ResolverFleet fleet = Fleets.oneSite();
            fleet.setAddress(0, 7, 20);
            fleet.query(50, 0);
            fleet.setAddress(0, 8, 25);
            fleet.pass(20 + ago);
            CHECK.same("14: ended " + ago + " ago, up", fleet.query(50, 0), 8);
            CHECK.same("17: ended " + ago + " ago, up", fleet.lastWasStale(), false);
            CHECK.same("19: ended " + ago + " ago, up", fleet.lastFetches(), 1);
            CHECK.same("23: ended " + ago + " ago, up", fleet.left(0, 0), 25);
            CHECK.same("28: ended " + ago + " ago, up", fleet.staleAnswers(), 0);
        }
    }

    /** "if it has an entry whose end is less than 100 ago (the time less the end), this is used" */
    private static void endedAndTheAuthorityIsDown() {
        for (int ago : new int[] {0, 1, 98, 99, 100, 101, 1000}) {
            boolean isUsed = ago < 100;
            staleAfter("an address", ago, 0, isUsed ? 7 : ResolverFleet.FAILED);
            staleAfter("an alias", ago, 1, isUsed ? 8 : ResolverFleet.FAILED);
            staleAfter("nothing", ago, 3, isUsed ? ResolverFleet.NO_NAME : ResolverFleet.FAILED);
        }
    }

    private static void staleAfter(String what, int ago, int name, int due) {
        ResolverFleet fleet = Fleets.oneSite();
        fleet.setAddress(0, 7, 30);
        fleet.setAlias(1, 2, 30);
        fleet.setAddress(2, 8, 1000);
        fleet.query(50, name);
        fleet.setAuthority(false);
        fleet.pass(30);
        if (ago > 0) {
            fleet.pass(ago);
        }
        String when = what + " that ended " + ago + " ago";
        CHECK.same("15: " + when, fleet.wouldAnswer(50, name), due);
        CHECK.same("14: " + when, fleet.query(50, name), due);
        boolean isUsed = due != ResolverFleet.FAILED;
        CHECK.same("17: " + when, fleet.lastWasStale(), isUsed);
        CHECK.same("18: " + when, fleet.lastLookUps(), isUsed && name == 1 ? 2 : 1);
        CHECK.same("19: " + when, fleet.lastFetches(), 0);
        CHECK.same("24: " + when, fleet.hitsOf(0, name), 0);
        CHECK.same("28: " + when, fleet.staleAnswers(), isUsed ? 1 : 0);
        CHECK.same("29: " + when, fleet.failures(), isUsed ? 0 : 1);
    }

    /** How long an entry serves as stale goes by its end: its time to live, short or long, is no matter. */
    private static void staleByTheEndAlone() {
        for (int life : new int[] {1, 99, 100, 101, 1000}) {
            ResolverFleet fleet = Fleets.oneSite();
            fleet.setAddress(0, 7, life);
            fleet.query(50, 0);
            fleet.setAuthority(false);
            fleet.pass(life);
            fleet.pass(99);
            CHECK.same("14: 99 ago, of " + life, fleet.query(50, 0), 7);
            fleet.pass(1);
            CHECK.same("14: 100 ago, of " + life, fleet.query(50, 0), ResolverFleet.FAILED);
        }
    }

    /** That it is used does not make a stale entry last longer. */
    private static void staleAgainAndAgain() {
        ResolverFleet fleet = Fleets.oneSite();
        fleet.setAddress(0, 7, 10);
        fleet.query(50, 0);
        fleet.setAuthority(false);
        fleet.pass(10);
        for (int ago = 0; ago < 100; ago++) {
            CHECK.same("14: " + ago + " ago", fleet.query(50, 0), 7);
            CHECK.same("23: " + ago + " ago", fleet.left(0, 0), -ago);
            fleet.pass(1);
        }
        CHECK.same("14: 100 ago", fleet.query(50, 0), ResolverFleet.FAILED);
        CHECK.same("28: each one", fleet.staleAnswers(), 100);
        CHECK.same("29: the last one", fleet.failures(), 1);
        CHECK.same("24: none was a hit", fleet.hitsOf(0, 0), 0);
        fleet.setAuthority(true);
        CHECK.same("14: the authority is up again", fleet.query(50, 0), 7);
        CHECK.same("23: the authority is up again", fleet.left(0, 0), 10);
    }

    /** "entries that have ended stay in the cache", also those that serve no more as stale. */
    private static void endedEntriesStay() {
        for (int passed : new int[] {29, 30, 31, 129, 130, 131, 1000}) {
            ResolverFleet fleet = Fleets.oneSite();
            fleet.setAddress(0, 7, 30);
            fleet.setAlias(1, 0, 30);
            fleet.query(50, 1);
            fleet.query(50, 1);
            fleet.query(50, 2);
            fleet.pass(passed);
            String when = " after " + passed;
            CHECK.same("20: all" + when, fleet.entries(0), 3);
            CHECK.same("21: an address" + when, fleet.cachedKind(0, 0), ResolverFleet.ADDRESS);
            CHECK.same("22: an address" + when, fleet.cachedValue(0, 0), 7);
            CHECK.same("21: an alias" + when, fleet.cachedKind(0, 1), ResolverFleet.ALIAS);
            CHECK.same("22: an alias" + when, fleet.cachedValue(0, 1), 0);
            CHECK.same("21: nothing" + when, fleet.cachedKind(0, 2), ResolverFleet.NOTHING);
            CHECK.same("23: left" + when, fleet.left(0, 2), 30 - passed);
            CHECK.same("24: hits" + when, fleet.hitsOf(0, 1), 1);
            CHECK.same("11: flush" + when, fleet.flush(0, 0), true);
            CHECK.same("20: one less" + when, fleet.entries(0), 2);
        }
    }

    /** "the end less the time, 0 or below if it has ended" */
    private static void whatIsLeft() {
        ResolverFleet fleet = Fleets.oneSite();
        fleet.pass(1000);
        fleet.setAddress(0, 7, 2);
        fleet.query(50, 0);
        for (int left = 2; left >= -2; left--) {
            CHECK.same("23: left", fleet.left(0, 0), left);
            fleet.pass(1);
        }
        fleet.pass(1000);
        CHECK.same("23: left, long after", fleet.left(0, 0), -1003);
    }

    /** "4 times what is left until its end is at most its time to live": the first such moment, and the one before. */
    private static void aQuarterIsLeft() {
        int[][] livesAndQuarters = {{4, 1}, {5, 1}, {7, 1}, {8, 2}, {9, 2}, {11, 2}, {12, 3}, {39, 9}, {40, 10},
            {43, 10}, {44, 11}, {299, 74}, {300, 75}};
        for (int[] row : livesAndQuarters) {
            ResolverFleet address = Fleets.oneSite();
            address.setAddress(0, 7, row[0]);
            anewFrom("an address of " + row[0], address, row[0], row[1]);
            ResolverFleet alias = Fleets.oneSite();
            alias.setAlias(0, 1, row[0]);
            alias.setAddress(1, 7, 1000);
            anewFrom("an alias of " + row[0], alias, row[0], row[1]);
            ResolverFleet nothing = Fleets.oneSite();
            nothing.setBound(row[0]);
            anewFrom("nothing of " + row[0], nothing, row[0], row[1]);
        }
        ResolverFleet odd = Fleets.oneSite();
        odd.setAddress(0, 7, 999);
        anewFrom("an address of 999", odd, 999, 249);
        ResolverFleet longest = Fleets.oneSite();
        longest.setAddress(0, 7, 1000);
        anewFrom("an address of 1000", longest, 1000, 250);
    }

    private static void anewFrom(String what, ResolverFleet fleet, int life, int quarter) {
        Fleets.queryOften(fleet, 0, 4);
        fleet.pass(life - quarter - 1);
        fleet.query(50, 0);
        CHECK.same("27: " + what + ", more than a quarter is left", fleet.prefetches(), 0);
        CHECK.same("23: " + what + ", more than a quarter is left", fleet.left(0, 0), quarter + 1);
        fleet.pass(1);
        fleet.query(50, 0);
        CHECK.same("27: " + what + ", a quarter is left", fleet.prefetches(), 1);
        CHECK.same("23: " + what + ", a quarter is left", fleet.left(0, 0), life);
        CHECK.same("24: " + what + ", a quarter is left", fleet.hitsOf(0, 0), 0);
    }

    /** Of a time to live below 4, a quarter is less than the one tick that is left at last. */
    private static void noQuarterOfThree() {
        for (int life = 1; life <= 3; life++) {
            ResolverFleet fleet = Fleets.oneSite();
            fleet.setAddress(0, 7, life);
            for (int tick = 0; tick < 4 * life; tick++) {
                Fleets.queryOften(fleet, 0, 6);
                fleet.pass(1);
            }
            CHECK.same("27: a time to live of " + life, fleet.prefetches(), 0);
            CHECK.same("26: a time to live of " + life, fleet.fetches(), 4);
        }
    }

    /** Fetched anew at the tick before its end; at its end, a hot entry is fetched because it has ended. */
    private static void theLastTickAndTheEnd() {
        for (int passed = 39; passed <= 40; passed++) {
            ResolverFleet fleet = Fleets.oneSite();
            fleet.setAddress(0, 7, 40);
            Fleets.queryOften(fleet, 0, 4);
            fleet.setAddress(0, 8, 40);
            fleet.pass(passed);
            boolean isFresh = passed < 40;
            CHECK.same("14: after " + passed, fleet.query(50, 0), isFresh ? 7 : 8);
            CHECK.same("27: after " + passed, fleet.prefetches(), isFresh ? 1 : 0);
            CHECK.same("19: after " + passed, fleet.lastFetches(), 1);
            CHECK.same("23: after " + passed, fleet.left(0, 0), 40);
            CHECK.same("24: after " + passed, fleet.hitsOf(0, 0), 0);
        }
    }
}
