/** Promises 8 to 13: sites, and the time. */
public final class FleetTest {
    private static final Check CHECK = new Check();
    private static final Class<IndexOutOfBoundsException> INDEX = IndexOutOfBoundsException.class;
    private static final Class<IllegalArgumentException> ARGUMENT = IllegalArgumentException.class;
    private static final Class<IllegalStateException> STATE = IllegalStateException.class;

    public static void main(String[] args) {
        addSite();
        addSiteRefuses();
        announce();
        announceKeepsTheCache();
        announceRefuses();
        siteForTheNearest();
        siteForRefuses();
        flush();
        flushRefuses();
        pass();
        passRefuses();
        CHECK.finish();
    }

    private static void addSite() {
        ResolverFleet fleet = new ResolverFleet();
        CHECK.same("8: first site", fleet.addSite(0), 0);
        CHECK.same("8: second site", fleet.addSite(99), 1);
        CHECK.same("8: third site", fleet.addSite(99), 2);
        CHECK.same("8: fourth site", fleet.addSite(50), 3);
        for (int site = 0; site < 4; site++) {
            CHECK.same("8: entries of " + site, fleet.entries(site), 0);
            CHECK.same("8: announced " + site, fleet.announce(site, true), true);
        }
        CHECK.same("8: position 0", fleet.siteFor(0), 0);
        CHECK.same("8: position 99", fleet.siteFor(99), 1);
    }

    private static void addSiteRefuses() {
        CHECK.refuses("8: position -1", Fleets::busy, ARGUMENT, f -> f.addSite(-1));
        CHECK.refuses("8: position 100", Fleets::busy, ARGUMENT, f -> f.addSite(100));
        CHECK.refuses("8: a fifth site", Fleets::full, STATE, f -> f.addSite(5));
        CHECK.refuses("8: a fifth site at a wrong position", Fleets::full, ARGUMENT, f -> f.addSite(100));
        CHECK.refuses("8: withdrawn sites count", Fleets::withdrawn, STATE, f -> f.addSite(5));
    }

    private static void announce() {
        ResolverFleet fleet = new ResolverFleet();
        fleet.addSite(10);
        fleet.addSite(90);
        CHECK.same("9: announced at first", fleet.announce(0, false), true);
        CHECK.same("9: withdrawn then", fleet.announce(0, false), false);
        CHECK.same("9: clients go elsewhere", fleet.siteFor(10), 1);
        CHECK.same("9: the other one is announced", fleet.announce(1, true), true);
        CHECK.same("9: still withdrawn", fleet.announce(0, true), false);
        CHECK.same("9: announced again", fleet.announce(0, true), true);
        CHECK.same("9: clients come back", fleet.siteFor(10), 0);
    }

    private static void announceKeepsTheCache() {
        ResolverFleet fleet = Fleets.oneSite();
        fleet.setAddress(0, 7, 20);
        Fleets.queryOften(fleet, 0, 2);
        fleet.announce(0, false);
        CHECK.same("9: entries while withdrawn", fleet.entries(0), 1);
        CHECK.same("9: value while withdrawn", fleet.cachedValue(0, 0), 7);
        fleet.announce(0, true);
        CHECK.same("9: hits afterwards", fleet.hitsOf(0, 0), 1);
        CHECK.same("9: left afterwards", fleet.left(0, 0), 20);
    }

    private static void announceRefuses() {
        CHECK.refuses("9: site -1", Fleets::busy, INDEX, f -> f.announce(-1, false));
        CHECK.refuses("9: site 2 of 2", Fleets::busy, INDEX, f -> f.announce(2, false));
        CHECK.refuses("9: site 4", Fleets::busy, INDEX, f -> f.announce(4, true));
        CHECK.refuses("9: no site at all", ResolverFleet::new, INDEX, f -> f.announce(0, true));
    }

    private static void siteForTheNearest() {
        ResolverFleet fleet = new ResolverFleet();
        CHECK.same("10: no site", fleet.siteFor(0), ResolverFleet.NONE);
        fleet.addSite(60);
        fleet.addSite(20);
        fleet.addSite(20);
        CHECK.same("10: client 0", fleet.siteFor(0), 1);
        CHECK.same("10: client 39", fleet.siteFor(39), 1);
        CHECK.same("10: client 40, as near to 0 as to 1", fleet.siteFor(40), 0);
        CHECK.same("10: client 41", fleet.siteFor(41), 0);
        CHECK.same("10: client 99", fleet.siteFor(99), 0);
        fleet.announce(1, false);
        CHECK.same("10: 2 in place of 1", fleet.siteFor(20), 2);
        fleet.announce(2, false);
        CHECK.same("10: 0 alone", fleet.siteFor(20), 0);
        fleet.announce(0, false);
        CHECK.same("10: all are withdrawn", fleet.siteFor(20), ResolverFleet.NONE);
    }

    private static void siteForRefuses() {
        CHECK.refuses("10: client -1", Fleets::busy, ARGUMENT, f -> f.siteFor(-1));
        CHECK.refuses("10: client 100", Fleets::busy, ARGUMENT, f -> f.siteFor(100));
        CHECK.refuses("10: a wrong client without sites", ResolverFleet::new, ARGUMENT, f -> f.siteFor(100));
    }

    private static void flush() {
        ResolverFleet fleet = Fleets.oneSite();
        fleet.addSite(99);
        fleet.setAddress(0, 7, 20);
        fleet.query(50, 0);
        fleet.query(99, 0);
        fleet.query(50, 15);
        CHECK.same("11: no entry", fleet.flush(0, 1), false);
        CHECK.same("11: an entry", fleet.flush(0, 0), true);
        CHECK.same("11: none then", fleet.flush(0, 0), false);
        CHECK.same("11: kind", fleet.cachedKind(0, 0), ResolverFleet.NO_ENTRY);
        CHECK.same("11: entries", fleet.entries(0), 1);
        CHECK.same("11: the other site's stays", fleet.cachedKind(1, 0), ResolverFleet.ADDRESS);
        fleet.pass(50);
        CHECK.same("11: an entry that has ended", fleet.flush(0, 15), true);
        CHECK.same("11: entries then", fleet.entries(0), 0);
    }

    private static void flushRefuses() {
        CHECK.refuses("11: site -1", Fleets::busy, INDEX, f -> f.flush(-1, 0));
        CHECK.refuses("11: site 2 of 2", Fleets::busy, INDEX, f -> f.flush(2, 0));
        CHECK.refuses("11: name -1", Fleets::busy, INDEX, f -> f.flush(0, -1));
        CHECK.refuses("11: name 16", Fleets::busy, INDEX, f -> f.flush(0, 16));
    }

    private static void pass() {
        ResolverFleet fleet = new ResolverFleet();
        CHECK.same("13: time at first", fleet.time(), 0);
        CHECK.same("12: 1 tick", fleet.pass(1), 1);
        CHECK.same("12: 1000 ticks", fleet.pass(1000), 1001);
        CHECK.same("13: time then", fleet.time(), 1001);
        for (int call = 2; call < 500; call++) {
            fleet.pass(1000);
        }
        CHECK.same("13: time after 500 calls", fleet.time(), 499001);
    }

    private static void passRefuses() {
        CHECK.refuses("12: 0 ticks", Fleets::busy, ARGUMENT, f -> f.pass(0));
        CHECK.refuses("12: 1001 ticks", Fleets::busy, ARGUMENT, f -> f.pass(1001));
        CHECK.refuses("12: -1 ticks", Fleets::busy, ARGUMENT, f -> f.pass(-1));
    }
}
