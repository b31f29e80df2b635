/** Fleets that tests start from. */
final class Fleets {
    private Fleets() {
    }

    /** Two sites of which one is withdrawn, entries of every kind, and a stale query that failed as the last one. */
    static ResolverFleet busy() {
        ResolverFleet fleet = new ResolverFleet();
        fleet.addSite(20);
        fleet.addSite(80);
        fleet.setAddress(0, 100, 40);
        fleet.setAlias(1, 0, 10);
        fleet.setAlias(2, 3, 60);
        fleet.query(20, 1);
        fleet.query(20, 4);
        fleet.query(80, 2);
        fleet.query(20, 0);
        fleet.query(20, 0);
        fleet.query(20, 0);
        fleet.pass(31);
        fleet.query(20, 0);
        fleet.flush(1, 3);
        fleet.setBound(70);
        fleet.setAuthority(false);
        fleet.pass(60);
        fleet.query(80, 2);
        fleet.announce(1, false);
        return fleet;
    }

    /** The busy one, with as many sites as there can be. */
    static ResolverFleet full() {
        ResolverFleet fleet = busy();
        fleet.addSite(3);
        fleet.addSite(4);
        return fleet;
    }

    /** The full one, with no site announced. */
    static ResolverFleet withdrawn() {
        ResolverFleet fleet = full();
        for (int site = 0; site < 4; site++) {
            fleet.announce(site, false);
        }
        return fleet;
    }

    /** Two announced sites with fresh entries of every kind, some soon to be fetched anew; the authority is up. */
    static ResolverFleet hot() {
        ResolverFleet fleet = new ResolverFleet();
        fleet.addSite(20);
        fleet.addSite(80);
        fleet.setAddress(0, 100, 40);
        fleet.setAlias(1, 0, 60);
        fleet.setBound(50);
        for (int i = 0; i < 4; i++) {
            fleet.query(20, 1);
            fleet.query(20, 2);
        }
        fleet.pass(5);
        fleet.query(80, 1);
        fleet.query(80, 3);
        fleet.setAddress(0, 101, 80);
        fleet.setBound(200);
        fleet.pass(20);
        return fleet;
    }

    /** Four sites, at the positions 0, 33, 66 and 99, each with an entry for the names 0, 1, 14 and 15. */
    static ResolverFleet spread() {
        ResolverFleet fleet = new ResolverFleet();
        for (int site = 0; site < 4; site++) {
            fleet.addSite(33 * site);
        }
        fleet.setAddress(0, 100, 40);
        fleet.setAddress(15, 1500, 50);
        fleet.setAlias(14, 15, 60);
        for (int site = 0; site < 4; site++) {
            fleet.query(33 * site, 0);
            fleet.query(33 * site, 1);
            fleet.query(33 * site, 14);
        }
        return fleet;
    }

    /** One site at the position 50, and nothing else. */
    static ResolverFleet oneSite() {
        ResolverFleet fleet = new ResolverFleet();
        fleet.addSite(50);
        return fleet;
    }

    /** One site; the names 0 and on are so many aliases, each for the next name, and the last one has address 44. */
    static ResolverFleet chain(int aliases, int timeToLive) {
        ResolverFleet fleet = oneSite();
        for (int name = 0; name < aliases; name++) {
            fleet.setAlias(name, name + 1, timeToLive);
        }
        fleet.setAddress(aliases, 44, timeToLive);
        return fleet;
    }

    /** One site; so many aliases in a circle, from 0 on. */
    static ResolverFleet circle(int aliases, int timeToLive) {
        ResolverFleet fleet = oneSite();
        for (int name = 0; name < aliases; name++) {
            fleet.setAlias(name, (name + 1) % aliases, timeToLive);
        }
        return fleet;
    }

    /** One site with an entry for each of the names 0 to 5, which have the addresses 1 to 6. */
    static ResolverFleet sixEntries(int... timesToLive) {
        ResolverFleet fleet = oneSite();
        for (int name = 0; name < 6; name++) {
            fleet.setAddress(name, name + 1, timesToLive[name]);
            fleet.query(50, name);
        }
        return fleet;
    }

    static void queryOften(ResolverFleet fleet, int name, int times) {
        for (int i = 0; i < times; i++) {
            fleet.query(50, name);
        }
    }

    /** The names for which a site has an entry, as a text like "0 3 15". */
    static String cachedNames(ResolverFleet fleet, int site) {
        StringBuilder names = new StringBuilder();
        for (int name = 0; name < 16; name++) {
            if (fleet.cachedKind(site, name) != ResolverFleet.NO_ENTRY) {
                names.append(names.length() == 0 ? "" : " ").append(name);
            }
        }
        return names.toString();
    }
}
