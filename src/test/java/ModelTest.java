/** Long mixed runs of calls, the same ones each time, whose answers are compared with those of the naive model. */
public final class ModelTest {
    private static final Check CHECK = new Check();
    private static final int RUNS = 3000;
    private static final int CALLS = 512;

    private long seed;
    private final ResolverFleet fleet = new ResolverFleet();
    private final Model model = new Model();
    private final int names;
    private final int longest;
    private final boolean isWild;

    private ModelTest(int run) {
        seed = 77L * run + 1;
        names = 3 + next(14);
        longest = new int[] {4, 12, 40, 150, 1000}[next(5)];
        isWild = next(4) == 0;
    }

    public static void main(String[] args) {
        int[] seen = new int[6];
        for (int run = 0; run < RUNS; run++) {
            ModelTest test = new ModelTest(run);
            for (int call = 0; call < CALLS; call++) {
                test.call(run, call);
            }
            seen[0] += test.model.dropped;
            seen[1] += test.model.prefetches;
            seen[2] += test.model.stale;
            seen[3] += test.model.failures;
            seen[4] += test.model.queries;
            seen[5] += test.model.fetches;
        }
        for (int i = 0; i < seen.length; i++) {
            CHECK.same("what the runs must bring about comes often (" + i + ")", seen[i] > 1000, true);
        }
        CHECK.finish();
    }

    private int next(int below) {
        seed = seed * 6364136223846793005L + 1442695040888963407L;
        return (int) ((seed >>> 33) % below);
    }

    private int odd(int usual) {
        if (!isWild || next(12) != 0) {
            return usual;
        }
        int[] edges = {-1, 0, 1, 4, 15, 16, 99, 100, 300, 301, 1000, 1001, 9999, 10000,
            Integer.MAX_VALUE, Integer.MIN_VALUE};
        return edges[next(edges.length)];
    }

    private int name() {
        return odd(next(names));
    }

    private int client() {
        return odd(next(100));
    }

    private int site() {
        return odd(next(Math.max(1, model.places.size())));
    }

    private int life() {
        return odd(1 + next(longest));
    }

    private void call(int run, int number) {
        int kind = number < 2 ? 7 : next(100);
        String at = "run " + run + ", call " + number;
        if (kind < 8) {
            CHECK.same(at + " fleet", fleetCall(kind), 0);
        } else if (kind < 28) {
            CHECK.same(at + " zone", zoneCall(kind), 0);
        } else if (kind < 40) {
            CHECK.same(at + " pass", passCall(), 0);
        } else if (kind < 75) {
            CHECK.same(at + " query", queryCall(kind), 0);
        } else if (kind < 90) {
            CHECK.same(at + " cache", cacheCall(kind), 0);
        } else {
            CHECK.same(at + " last and totals", toldCall(kind), 0);
        }
    }

    /** 0, or by how much the answer is off. */
    private static long off(int got, int want) {
        return (long) got - want;
    }

    private static int bit(boolean is) {
        return is ? 1 : 0;
    }

    private static int code(RuntimeException e) {
        if (e.getClass() == IndexOutOfBoundsException.class) {
            return Model.THROWS_INDEX;
        }
        if (e.getClass() == IllegalArgumentException.class) {
            return Model.THROWS_ARGUMENT;
        }
        return e.getClass() == IllegalStateException.class ? Model.THROWS_STATE : 0;
    }

    private long fleetCall(int kind) {
        int position = client();
        int site = site();
        boolean is = next(3) != 0;
        int got;
        int want;
        try {
            got = kind == 7 ? fleet.addSite(position) : kind < 4 ? fleet.siteFor(position) : bit(fleet.announce(site, is));
        } catch (RuntimeException e) {
            got = code(e);
        }
        if (kind == 7) {
            want = addSite(position);
        } else if (kind < 4) {
            want = Model.isPosition(position) ? model.siteFor(position) : Model.THROWS_ARGUMENT;
        } else if (model.isSite(site)) {
            want = bit(model.places.get(site).isAnnounced);
            model.places.get(site).isAnnounced = is;
        } else {
            want = Model.THROWS_INDEX;
        }
        return off(got, want);
    }

    private int addSite(int position) {
        if (!Model.isPosition(position)) {
            return Model.THROWS_ARGUMENT;
        }
        if (model.places.size() == 4) {
            return Model.THROWS_STATE;
        }
        Model.Place place = new Model.Place();
        place.position = position;
        model.places.add(place);
        return model.places.size() - 1;
    }

    private long zoneCall(int kind) {
        if (kind < 13) {
            return addressCall(name(), odd(1 + next(9999)), life());
        }
        if (kind < 19) {
            return aliasCall(name(), name(), life());
        }
        if (kind < 21) {
            return removeCall(name());
        }
        if (kind < 23) {
            return boundCall(odd(1 + next(Math.min(longest, 300))));
        }
        if (kind < 26) {
            boolean isUp = next(3) != 0;
            int want = bit(model.isUp);
            model.isUp = isUp;
            return off(bit(fleet.setAuthority(isUp)), want);
        }
        return truthCall(name());
    }

    private long addressCall(int name, int address, int life) {
        int got = 0;
        try {
            fleet.setAddress(name, address, life);
        } catch (RuntimeException e) {
            got = code(e);
        }
        if (!Model.isName(name)) {
            return off(got, Model.THROWS_INDEX);
        }
        if (address < 1 || address > 9999 || life < 1 || life > 1000) {
            return off(got, Model.THROWS_ARGUMENT);
        }
        return off(got, model.set(name, 0, address, life));
    }

    private long aliasCall(int name, int target, int life) {
        int got = 0;
        try {
            fleet.setAlias(name, target, life);
        } catch (RuntimeException e) {
            got = code(e);
        }
        if (!Model.isName(name) || !Model.isName(target)) {
            return off(got, Model.THROWS_INDEX);
        }
        if (target == name || life < 1 || life > 1000) {
            return off(got, Model.THROWS_ARGUMENT);
        }
        return off(got, model.set(name, 1, target, life));
    }

    private long removeCall(int name) {
        int got;
        try {
            got = bit(fleet.remove(name));
        } catch (RuntimeException e) {
            got = code(e);
        }
        if (!Model.isName(name)) {
            return off(got, Model.THROWS_INDEX);
        }
        int want = bit(model.kind[name] != 2);
        model.set(name, 2, -3, 0);
        return off(got, want);
    }

    private long boundCall(int bound) {
        int got;
        try {
            got = fleet.setBound(bound);
        } catch (RuntimeException e) {
            got = code(e);
        }
        if (bound < 1 || bound > 300) {
            return off(got, Model.THROWS_ARGUMENT);
        }
        int want = model.bound;
        model.bound = bound;
        return off(got, want);
    }

    private long truthCall(int name) {
        int got;
        try {
            got = fleet.truth(name);
        } catch (RuntimeException e) {
            got = code(e);
        }
        return off(got, Model.isName(name) ? model.truth(name) : Model.THROWS_INDEX);
    }

    private long passCall() {
        int ticks = odd(1 + next(Math.max(3, longest / 5)));
        int got;
        try {
            got = fleet.pass(ticks);
        } catch (RuntimeException e) {
            got = code(e);
        }
        if (ticks < 1 || ticks > 1000) {
            return off(got, Model.THROWS_ARGUMENT);
        }
        model.time += ticks;
        return off(got, model.time);
    }

    private long queryCall(int kind) {
        int client = client();
        int name = name();
        int got;
        try {
            got = kind < 68 ? fleet.query(client, name) : fleet.wouldAnswer(client, name);
        } catch (RuntimeException e) {
            got = code(e);
        }
        int want;
        if (!Model.isName(name)) {
            want = Model.THROWS_INDEX;
        } else if (!Model.isPosition(client)) {
            want = Model.THROWS_ARGUMENT;
        } else if (model.siteFor(client) == -3) {
            want = Model.THROWS_STATE;
        } else {
            want = kind < 68 ? model.query(client, name) : model.wouldAnswer(client, name);
        }
        return off(got, want);
    }

    private long cacheCall(int kind) {
        int site = site();
        int name = name();
        int got;
        try {
            got = cacheAnswer(kind, site, name);
        } catch (RuntimeException e) {
            got = code(e);
        }
        if (!model.isSite(site) || kind != 75 && !Model.isName(name)) {
            return off(got, Model.THROWS_INDEX);
        }
        return off(got, cacheDue(kind, site, name));
    }

    private int cacheAnswer(int kind, int site, int name) {
        switch (kind) {
            case 75: return fleet.entries(site);
            case 76: return bit(fleet.flush(site, name));
            case 77: case 78: case 79: return fleet.cachedKind(site, name);
            case 80: case 81: case 82: return fleet.cachedValue(site, name);
            case 83: case 84: case 85: return fleet.left(site, name);
            default: return fleet.hitsOf(site, name);
        }
    }

    private int cacheDue(int kind, int site, int name) {
        Model.Place place = model.places.get(site);
        Model.Entry entry = Model.entry(place.cache, name);
        switch (kind) {
            case 75: return place.cache.size();
            case 76: return bit(place.cache.remove(entry));
            case 77: case 78: case 79: return entry == null ? 3 : entry.kind;
            case 80: case 81: case 82: return entry == null ? -3 : entry.value;
            case 83: case 84: case 85: return entry == null ? Model.THROWS_STATE : entry.end - model.time;
            default: return entry == null ? 0 : entry.hits;
        }
    }

    private long toldCall(int kind) {
        switch (kind) {
            case 90: return off(fleet.lastSite(), model.lastSite);
            case 91: return off(bit(fleet.lastWasStale()), bit(model.last.isStale));
            case 92: return off(fleet.lastLookUps(), model.last.lookUps);
            case 93: return off(fleet.lastFetches(), model.last.fetches);
            case 94: return off(fleet.queries(), model.queries);
            case 95: return off(fleet.fetches(), model.fetches);
            case 96: return off(fleet.prefetches(), model.prefetches);
            case 97: return off(fleet.staleAnswers(), model.stale);
            case 98: return off(fleet.failures(), model.failures);
            default: return off(fleet.time(), model.time);
        }
    }
}
