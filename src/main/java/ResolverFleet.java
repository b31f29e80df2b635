import java.util.Arrays;

public final class ResolverFleet {
    public static final int NO_NAME = -1, FAILED = -2;
    public static final int NONE = -3;
    public static final int ADDRESS = 0, ALIAS = 1, NOTHING = 2, NO_ENTRY = 3;

    private static final int NAMES = 16;
    private static final int HIGHEST_ADDRESS = 9999;
    private static final int LONGEST_LIFE = 1000;
    private static final int FIRST_BOUND = 30;
    private static final int HIGHEST_BOUND = 300;
    private static final int MOST_SITES = 4;
    private static final int HIGHEST_POSITION = 99;
    private static final int MOST_TICKS = 1000;
    private static final int MOST_ALIASES = 4;
    private static final int MOST_ENTRIES = 6;
    private static final int STALE_FOR = 100;
    private static final int HOT_HITS = 3;
    private static final int HOT_PART = 4;

    private final Zone zone;
    private final Site[] sites;
    private int siteCount;
    private int now;
    private final Course last;
    private int lastSiteNumber;
    private final Course trial;
    private final Cache trialCache;
    private int queryCount;
    private int fetchCount;
    private int prefetchCount;
    private int staleCount;
    private int failureCount;

    public ResolverFleet() {
        zone = new Zone();
        sites = new Site[MOST_SITES];
        last = new Course();
        lastSiteNumber = NONE;
        trial = new Course();
        trialCache = new Cache();
    }

    // ---- the zone

    public void setAddress(int name, int address, int timeToLive) throws IndexOutOfBoundsException, IllegalArgumentException {
        requireName(name);
        requireWithin(address, 1, HIGHEST_ADDRESS);
        requireWithin(timeToLive, 1, LONGEST_LIFE);
        zone.put(name, ADDRESS, address, timeToLive);
    }

    public void setAlias(int name, int target, int timeToLive) throws IndexOutOfBoundsException, IllegalArgumentException {
        requireName(name);
        requireName(target);
        if (target == name) {
            throw new IllegalArgumentException("a name is no alias for itself");
        }
        requireWithin(timeToLive, 1, LONGEST_LIFE);
        zone.put(name, ALIAS, target, timeToLive);
    }

    public boolean remove(int name) throws IndexOutOfBoundsException {
        requireName(name);
        boolean wasThere = zone.kindOf(name) != NOTHING;
        zone.put(name, NOTHING, NONE, 0);
        return wasThere;
    }

    public int setBound(int bound) throws IllegalArgumentException {
        requireWithin(bound, 1, HIGHEST_BOUND);
        int before = zone.bound;
        zone.bound = bound;
        return before;
    }

    public boolean setAuthority(boolean isUp) {
        boolean before = zone.isUp;
        zone.isUp = isUp;
        return before;
    }

    public int truth(int name) throws IndexOutOfBoundsException {
        requireName(name);
        int current = name;
        for (int aliases = 0; aliases <= MOST_ALIASES; aliases++) {
            int kind = zone.kindOf(current);
            int value = zone.valueOf(current);
            if (kind != ALIAS) {
                return kind == ADDRESS ? value : NO_NAME;
            }
            current = value;
        }
        return FAILED;
    }

    // ---- the fleet

    public int addSite(int position) throws IllegalArgumentException, IllegalStateException {
        requireWithin(position, 0, HIGHEST_POSITION);
        if (siteCount >= sites.length) {
            throw new IllegalStateException("there is no room for another site");
        }
        int number = siteCount;
        sites[number] = new Site(number, position);
        siteCount++;
        return number;
    }

    public boolean announce(int site, boolean isAnnounced) throws IndexOutOfBoundsException {
        Site changed = siteNumbered(site);
        boolean before = changed.isAnnounced;
        changed.isAnnounced = isAnnounced;
        return before;
    }

    public int siteFor(int client) throws IllegalArgumentException {
        requireWithin(client, 0, HIGHEST_POSITION);
        Site nearest = nearestSite(client);
        return nearest == null ? NONE : nearest.number;
    }

    public boolean flush(int site, int name) throws IndexOutOfBoundsException {
        return cacheAsked(site, name).drop(name);
    }

    // ---- time and queries

    public int pass(int ticks) throws IllegalArgumentException {
        requireWithin(ticks, 1, MOST_TICKS);
        now += ticks;
        return now;
    }

    public int time() {
        return now;
    }

    public int query(int client, int name) throws IndexOutOfBoundsException, IllegalArgumentException, IllegalStateException {
        Site site = siteAsked(client, name);
        int answer = resolve(site.cache, name, last);
        fetchHotAnew(site.cache, last);
        lastSiteNumber = site.number;
        countQuery(answer);
        return answer;
    }

    public int wouldAnswer(int client, int name) throws IndexOutOfBoundsException, IllegalArgumentException, IllegalStateException {
        Site site = siteAsked(client, name);
        // A fetch can drop an entry that is looked up later in the same query, so the fetches must be tried out too.
        trialCache.copyFrom(site.cache);
        return resolve(trialCache, name, trial);
    }

    // ---- the last query

    public int lastSite() {
        return lastSiteNumber;
    }

    public boolean lastWasStale() {
        return last.isStale;
    }

    public int lastLookUps() {
        return last.lookUps;
    }

    public int lastFetches() {
        return last.fetches;
    }

    // ---- caches

    public int entries(int site) throws IndexOutOfBoundsException {
        return siteNumbered(site).cache.size;
    }

    public int cachedKind(int site, int name) throws IndexOutOfBoundsException {
        return cacheAsked(site, name).kindOf(name);
    }

    public int cachedValue(int site, int name) throws IndexOutOfBoundsException {
        return cacheAsked(site, name).valueOf(name);
    }

    public int left(int site, int name) throws IndexOutOfBoundsException, IllegalStateException {
        Cache cache = cacheAsked(site, name);
        if (!cache.has(name)) {
            throw new IllegalStateException("there is no entry for this name");
        }
        return cache.endOf(name) - now;
    }

    public int hitsOf(int site, int name) throws IndexOutOfBoundsException {
        return cacheAsked(site, name).hitsFor(name);
    }

    // ---- since the beginning

    public int queries() {
        return queryCount;
    }

    public int fetches() {
        return fetchCount;
    }

    public int prefetches() {
        return prefetchCount;
    }

    public int staleAnswers() {
        return staleCount;
    }

    public int failures() {
        return failureCount;
    }

    // ---- how a query is resolved

    private int resolve(Cache cache, int name, Course course) {
        course.begin();
        int current = name;
        for (int aliases = 0; aliases <= MOST_ALIASES; aliases++) {
            if (!lookUp(cache, current, course)) {
                return FAILED;
            }
            int kind = cache.kindOf(current);
            int value = cache.valueOf(current);
            if (kind != ALIAS) {
                return kind == ADDRESS ? value : NO_NAME;
            }
            current = value;
        }
        return FAILED;
    }

    private boolean lookUp(Cache cache, int name, Course course) {
        course.lookUps++;
        if (cache.isFresh(name, now)) {
            cache.countHit(name);
            course.noteFresh(name);
            return true;
        }
        if (zone.isUp) {
            fetch(cache, name, course);
            return true;
        }
        if (cache.servesStale(name, now)) {
            course.isStale = true;
            return true;
        }
        return false;
    }

    private void fetch(Cache cache, int name, Course course) {
        cache.put(name, zone.kindOf(name), zone.valueOf(name), zone.lifeOf(name), now);
        course.fetches++;
    }

    private void fetchHotAnew(Cache cache, Course course) {
        if (!zone.isUp) {
            return;
        }
        int used = course.freshCount;
        for (int i = 0; i < used; i++) {
            int name = course.freshNameAt(i);
            // An entry that took the place of the one used has too few hits of this query to be hot,
            // so the name alone tells whether the one used is still in the cache.
            if (cache.isHot(name, now)) {
                fetch(cache, name, course);
                course.prefetches++;
            }
        }
    }

    private void countQuery(int answer) {
        queryCount++;
        fetchCount += last.fetches;
        prefetchCount += last.prefetches;
        if (last.isStale) {
            staleCount++;
        }
        if (answer == FAILED) {
            failureCount++;
        }
    }

    // ---- what is asked for, or the exception

    private static void requireName(int name) {
        if (name < 0 || name >= NAMES) {
            throw new IndexOutOfBoundsException("there is no such name");
        }
    }

    private static void requireWithin(int value, int lowest, int highest) {
        if (value < lowest || value > highest) {
            throw new IllegalArgumentException("an argument is out of its range");
        }
    }

    private Site siteNumbered(int number) {
        Site site = number < 0 || number >= sites.length ? null : sites[number];
        if (site == null) {
            throw new IndexOutOfBoundsException("there is no such site");
        }
        return site;
    }

    private Cache cacheAsked(int site, int name) {
        Site owner = siteNumbered(site);
        requireName(name);
        return owner.cache;
    }

    private Site siteAsked(int client, int name) {
        requireName(name);
        requireWithin(client, 0, HIGHEST_POSITION);
        Site nearest = nearestSite(client);
        if (nearest == null) {
            throw new IllegalStateException("no site is announced");
        }
        return nearest;
    }

    private Site nearestSite(int client) {
        Site nearest = null;
        for (Site site : sites) {
            if (site == null || !site.isAnnounced) {
                continue;
            }
            if (nearest == null || site.distanceTo(client) < nearest.distanceTo(client)) {
                nearest = site;
            }
        }
        return nearest;
    }

    /** What the authority knows, whether it is up, and the bound. */
    private static final class Zone {
        private final int[] kinds = new int[NAMES];
        private final int[] values = new int[NAMES];
        private final int[] lives = new int[NAMES];
        int bound = FIRST_BOUND;
        boolean isUp = true;

        Zone() {
            Arrays.fill(kinds, NOTHING);
            Arrays.fill(values, NONE);
        }

        void put(int name, int kind, int value, int life) {
            if (name < 0 || name >= NAMES) {
                return;
            }
            kinds[name] = kind;
            values[name] = value;
            lives[name] = life;
        }

        int kindOf(int name) {
            return name < 0 || name >= NAMES ? NOTHING : kinds[name];
        }

        int valueOf(int name) {
            return name < 0 || name >= NAMES ? NONE : values[name];
        }

        int lifeOf(int name) {
            // The bound counts as it stands at the fetch, so nothing keeps no life of its own.
            return name < 0 || name >= NAMES || kinds[name] == NOTHING ? bound : lives[name];
        }
    }

    private static final class Site {
        final int number;
        final int position;
        final Cache cache = new Cache();
        boolean isAnnounced = true;

        Site(int number, int position) {
            this.number = number;
            this.position = position;
        }

        int distanceTo(int client) {
            return Math.abs(client - position);
        }
    }

    /** The entries of one site; each stands at the index of its name. */
    private static final class Cache {
        private final int[] kinds = new int[NAMES];
        private final int[] values = new int[NAMES];
        private final int[] lives = new int[NAMES];
        private final int[] ends = new int[NAMES];
        private final int[] hits = new int[NAMES];
        int size;

        Cache() {
            Arrays.fill(kinds, NO_ENTRY);
        }

        void copyFrom(Cache other) {
            System.arraycopy(other.kinds, 0, kinds, 0, NAMES);
            System.arraycopy(other.values, 0, values, 0, NAMES);
            System.arraycopy(other.lives, 0, lives, 0, NAMES);
            System.arraycopy(other.ends, 0, ends, 0, NAMES);
            System.arraycopy(other.hits, 0, hits, 0, NAMES);
            size = other.size;
        }

        boolean has(int name) {
            return name >= 0 && name < NAMES && kinds[name] != NO_ENTRY;
        }

        int kindOf(int name) {
            return has(name) ? kinds[name] : NO_ENTRY;
        }

        int valueOf(int name) {
            return has(name) ? values[name] : NONE;
        }

        int endOf(int name) {
            return has(name) ? ends[name] : 0;
        }

        int hitsFor(int name) {
            return has(name) ? hits[name] : 0;
        }

        boolean isFresh(int name, int now) {
            return has(name) && now < ends[name];
        }

        boolean servesStale(int name, int now) {
            return has(name) && now - ends[name] < STALE_FOR;
        }

        boolean isHot(int name, int now) {
            return has(name) && hits[name] >= HOT_HITS && HOT_PART * (ends[name] - now) <= lives[name];
        }

        void countHit(int name) {
            if (has(name)) {
                hits[name]++;
            }
        }

        boolean drop(int name) {
            if (!has(name)) {
                return false;
            }
            kinds[name] = NO_ENTRY;
            size--;
            return true;
        }

        void put(int name, int kind, int value, int life, int now) {
            if (name < 0 || name >= NAMES) {
                return;
            }
            if (kinds[name] == NO_ENTRY) {
                if (size >= MOST_ENTRIES) {
                    drop(firstToEnd());
                }
                size++;
            }
            kinds[name] = kind;
            values[name] = value;
            lives[name] = life;
            ends[name] = now + life;
            hits[name] = 0;
        }

        private int firstToEnd() {
            int first = NONE;
            for (int name = 0; name < NAMES; name++) {
                if (kinds[name] != NO_ENTRY && (first < 0 || ends[name] < ends[first])) {
                    first = name;
                }
            }
            return first;
        }
    }

    /** What happened while one query was resolved. */
    private static final class Course {
        private final int[] freshNames = new int[MOST_ALIASES + 1];
        int freshCount;
        int lookUps;
        int fetches;
        int prefetches;
        boolean isStale;

        Course() {
        }

        void begin() {
            freshCount = 0;
            lookUps = 0;
            fetches = 0;
            prefetches = 0;
            isStale = false;
        }

        void noteFresh(int name) {
            if (freshCount < freshNames.length) {
                freshNames[freshCount] = name;
                freshCount++;
            }
        }

        int freshNameAt(int i) {
            return i < 0 || i >= freshCount || i >= freshNames.length ? NONE : freshNames[i];
        }
    }
}
