/** Fleets that tests start from. */
final class Fleets {
    private Fleets() {
    }

    /** Two sites of which one is withdrawn, entries of every kind, and a stale query that failed as the last one. */
    static ResolverFleet busy() {
        ResolverFleet fleet = new ResolverFleet();
        fleet.addSite(20);
        fleet.addSite(80);
        fleet.setAddress(0, 100, 40);
        fleet.setAlias(1, 0, 10);
        fleet.setAlias(2, 3, 60);
        fleet.query(20, 1);
        fleet.query(20, 4);
        fleet.query(80, 2);
        fleet.query(20, 0);
        fleet.query(20, 0);
        fleet.query(20, 0);
        fleet.pass(31);
        fleet.query(20, 0);
        fleet.flush(1, 3);
        fleet.setBound(70);
        fleet.setAuthority(false);
        fleet.pass(60);
        fleet.query(80, 2);
        fleet.announce(1, false);
        return fleet;
    }

    /** The busy one, with as many sites as there can be. */
    static ResolverFleet full() {
        ResolverFleet fleet = busy();
        fleet.addSite(3);
        fleet.addSite(4);
        return fleet;
    }

    /** The full one, with no site announced. */
    static ResolverFleet withdrawn() {
        ResolverFleet fleet = full();
        for (int site = 0; site < 4; site++) {
            fleet.announce(site, false);
        }
        return fleet;
    }

    /** One site at the position 50, and nothing else. */
    static ResolverFleet oneSite() {
        ResolverFleet fleet = new ResolverFleet();
        fleet.addSite(50);
        return fleet;
    }

    static void queryOften(ResolverFleet fleet, int name, int times) {
        for (int i = 0; i < times; i++) {
            fleet.query(50, name);
        }
    }
}
