/** Promises 1 to 7: a new object and the zone. */
public final class ZoneTest {
    private static final Check CHECK = new Check();
    private static final Class<IndexOutOfBoundsException> INDEX = IndexOutOfBoundsException.class;
    private static final Class<IllegalArgumentException> ARGUMENT = IllegalArgumentException.class;

    public static void main(String[] args) {
        newObject();
        objectsStandApart();
        setAddress();
        setAddressRefuses();
        setAlias();
        setAliasRefuses();
        remove();
        setBound();
        setBoundRefuses();
        setAuthority();
        truthFollowsAliases();
        truthOfACircle();
        truthRefuses();
        CHECK.finish();
    }

    private static void newObject() {
        ResolverFleet fleet = new ResolverFleet();
        for (int name = 0; name < 16; name++) {
            CHECK.same("1: truth of " + name, fleet.truth(name), ResolverFleet.NO_NAME);
            CHECK.same("1: remove of " + name, fleet.remove(name), false);
        }
        CHECK.same("1: time", fleet.time(), 0);
        CHECK.same("1: siteFor", fleet.siteFor(50), ResolverFleet.NONE);
        CHECK.same("1: sites", Picture.siteCount(fleet), 0);
        CHECK.same("1: lastSite", fleet.lastSite(), ResolverFleet.NONE);
        CHECK.same("1: lastWasStale", fleet.lastWasStale(), false);
        CHECK.same("1: lastLookUps", fleet.lastLookUps(), 0);
        CHECK.same("1: lastFetches", fleet.lastFetches(), 0);
        CHECK.same("1: queries", fleet.queries(), 0);
        CHECK.same("1: fetches", fleet.fetches(), 0);
        CHECK.same("1: prefetches", fleet.prefetches(), 0);
        CHECK.same("1: staleAnswers", fleet.staleAnswers(), 0);
        CHECK.same("1: failures", fleet.failures(), 0);
        CHECK.same("1: setBound", fleet.setBound(7), 30);
        CHECK.same("1: setAuthority", fleet.setAuthority(true), true);
    }

    private static void objectsStandApart() {
        ResolverFleet one = new ResolverFleet();
        ResolverFleet other = new ResolverFleet();
        one.setAddress(3, 5, 5);
        one.addSite(10);
        one.pass(9);
        CHECK.same("1: truth of another object", other.truth(3), ResolverFleet.NO_NAME);
        CHECK.same("1: site of another object", other.siteFor(10), ResolverFleet.NONE);
        CHECK.same("1: time of another object", other.time(), 0);
    }

    private static void setAddress() {
        ResolverFleet fleet = new ResolverFleet();
        fleet.addSite(0);
        fleet.setAddress(0, 1, 1);
        fleet.setAddress(15, 9999, 1000);
        CHECK.same("2: lowest address", fleet.truth(0), 1);
        CHECK.same("2: highest address", fleet.truth(15), 9999);
        fleet.query(0, 0);
        fleet.query(0, 15);
        CHECK.same("2: shortest time to live", fleet.left(0, 0), 1);
        CHECK.same("2: longest time to live", fleet.left(0, 15), 1000);
        fleet.setAddress(0, 2, 5);
        CHECK.same("2: another address", fleet.truth(0), 2);
        fleet.setAlias(0, 15, 5);
        fleet.setAddress(0, 3, 5);
        CHECK.same("2: an address in place of an alias", fleet.truth(0), 3);
    }

    private static void setAddressRefuses() {
        CHECK.refuses("2: name -1", Fleets::busy, INDEX, f -> f.setAddress(-1, 5, 5));
        CHECK.refuses("2: name 16", Fleets::busy, INDEX, f -> f.setAddress(16, 5, 5));
        CHECK.refuses("2: address 0", Fleets::busy, ARGUMENT, f -> f.setAddress(0, 0, 5));
        CHECK.refuses("2: address 10000", Fleets::busy, ARGUMENT, f -> f.setAddress(0, 10000, 5));
        CHECK.refuses("2: time to live 0", Fleets::busy, ARGUMENT, f -> f.setAddress(0, 5, 0));
        CHECK.refuses("2: time to live 1001", Fleets::busy, ARGUMENT, f -> f.setAddress(0, 5, 1001));
        CHECK.refuses("2: all are wrong", Fleets::busy, INDEX, f -> f.setAddress(Integer.MAX_VALUE, 0, 0));
        CHECK.refuses("2: lowest ints", Fleets::busy, INDEX,
            f -> f.setAddress(Integer.MIN_VALUE, Integer.MIN_VALUE, Integer.MIN_VALUE));
    }

    private static void setAlias() {
        ResolverFleet fleet = new ResolverFleet();
        fleet.addSite(0);
        fleet.setAddress(15, 8, 5);
        fleet.setAlias(0, 15, 1);
        fleet.setAlias(1, 0, 1000);
        CHECK.same("3: alias", fleet.truth(0), 8);
        CHECK.same("3: alias for an alias", fleet.truth(1), 8);
        fleet.query(0, 1);
        CHECK.same("3: shortest time to live", fleet.left(0, 0), 1);
        CHECK.same("3: longest time to live", fleet.left(0, 1), 1000);
        fleet.setAlias(15, 7, 5);
        CHECK.same("3: an alias in place of an address", fleet.truth(15), ResolverFleet.NO_NAME);
        fleet.setAlias(1, 7, 5);
        fleet.setAddress(7, 6, 5);
        CHECK.same("3: an alias in place of an alias", fleet.truth(1), 6);
    }

    private static void setAliasRefuses() {
        CHECK.refuses("3: name -1", Fleets::busy, INDEX, f -> f.setAlias(-1, 5, 5));
        CHECK.refuses("3: name 16", Fleets::busy, INDEX, f -> f.setAlias(16, 5, 5));
        CHECK.refuses("3: target -1", Fleets::busy, INDEX, f -> f.setAlias(5, -1, 5));
        CHECK.refuses("3: target 16", Fleets::busy, INDEX, f -> f.setAlias(5, 16, 5));
        CHECK.refuses("3: target is name", Fleets::busy, ARGUMENT, f -> f.setAlias(5, 5, 5));
        CHECK.refuses("3: target is a wrong name", Fleets::busy, INDEX, f -> f.setAlias(16, 16, 5));
        CHECK.refuses("3: time to live 0", Fleets::busy, ARGUMENT, f -> f.setAlias(5, 6, 0));
        CHECK.refuses("3: time to live 1001", Fleets::busy, ARGUMENT, f -> f.setAlias(5, 6, 1001));
        CHECK.refuses("3: target and time to live are wrong", Fleets::busy, INDEX, f -> f.setAlias(5, 16, 0));
    }

    private static void remove() {
        ResolverFleet fleet = new ResolverFleet();
        fleet.addSite(0);
        fleet.setAddress(15, 8, 500);
        fleet.setAlias(0, 15, 500);
        CHECK.same("4: an alias was there", fleet.remove(0), true);
        CHECK.same("4: it is not there then", fleet.truth(0), ResolverFleet.NO_NAME);
        CHECK.same("4: its target stays", fleet.truth(15), 8);
        CHECK.same("4: an alias is not there twice", fleet.remove(0), false);
        CHECK.same("4: an address was there", fleet.remove(15), true);
        CHECK.same("4: an address is not there twice", fleet.remove(15), false);
        fleet.query(0, 15);
        CHECK.same("4: a removed name gets the bound", fleet.left(0, 15), 30);
        fleet.setAddress(15, 9, 5);
        CHECK.same("4: a name can come again", fleet.truth(15), 9);
        CHECK.refuses("4: name -1", Fleets::busy, INDEX, f -> f.remove(-1));
        CHECK.refuses("4: name 16", Fleets::busy, INDEX, f -> f.remove(16));
    }

    private static void setBound() {
        ResolverFleet fleet = new ResolverFleet();
        fleet.addSite(0);
        fleet.query(0, 0);
        CHECK.same("5: first bound", fleet.setBound(300), 30);
        CHECK.same("5: an entry keeps its end", fleet.left(0, 0), 30);
        fleet.query(0, 1);
        CHECK.same("5: an entry gets the new bound", fleet.left(0, 1), 300);
        CHECK.same("5: bound before", fleet.setBound(1), 300);
        CHECK.same("5: lowest bound", fleet.setBound(2), 1);
    }

    private static void setBoundRefuses() {
        CHECK.refuses("5: bound 0", Fleets::busy, ARGUMENT, f -> f.setBound(0));
        CHECK.refuses("5: bound 301", Fleets::busy, ARGUMENT, f -> f.setBound(301));
        CHECK.refuses("5: bound -1", Fleets::busy, ARGUMENT, f -> f.setBound(-1));
    }

    private static void setAuthority() {
        ResolverFleet fleet = new ResolverFleet();
        fleet.addSite(0);
        fleet.setAddress(0, 4, 5);
        CHECK.same("6: up at first", fleet.setAuthority(false), true);
        CHECK.same("6: down then", fleet.setAuthority(false), false);
        CHECK.same("6: a query fails", fleet.query(0, 0), ResolverFleet.FAILED);
        CHECK.same("6: still down", fleet.setAuthority(true), false);
        CHECK.same("6: up again", fleet.setAuthority(true), true);
        CHECK.same("6: a query is answered", fleet.query(0, 0), 4);
    }

    private static void truthFollowsAliases() {
        ResolverFleet fleet = new ResolverFleet();
        for (int name = 0; name < 5; name++) {
            fleet.setAlias(name, name + 1, 5);
        }
        CHECK.same("7: no name behind 5 aliases", fleet.truth(0), ResolverFleet.FAILED);
        CHECK.same("7: no name behind 4 aliases", fleet.truth(1), ResolverFleet.NO_NAME);
        fleet.setAddress(5, 44, 5);
        CHECK.same("7: an address behind 5 aliases", fleet.truth(0), ResolverFleet.FAILED);
        CHECK.same("7: an address behind 4 aliases", fleet.truth(1), 44);
        CHECK.same("7: an address", fleet.truth(5), 44);
        fleet.setAuthority(false);
        CHECK.same("7: the authority is down", fleet.truth(1), 44);
        CHECK.same("7: not a query", fleet.queries(), 0);
        CHECK.same("7: not a failure", fleet.failures(), 0);
    }

    private static void truthOfACircle() {
        ResolverFleet fleet = new ResolverFleet();
        fleet.setAlias(0, 15, 5);
        fleet.setAlias(15, 0, 5);
        CHECK.same("7: a circle", fleet.truth(0), ResolverFleet.FAILED);
        CHECK.same("7: a circle from its other end", fleet.truth(15), ResolverFleet.FAILED);
    }

    private static void truthRefuses() {
        CHECK.refuses("7: name -1", Fleets::busy, INDEX, f -> f.truth(-1));
        CHECK.refuses("7: name 16", Fleets::busy, INDEX, f -> f.truth(16));
    }
}
