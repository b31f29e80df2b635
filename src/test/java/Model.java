import java.util.ArrayList;
import java.util.List;

/** The document's words once more, in the most naive form: each entry is an object, and a cache is a list of them. */
final class Model {
    static final int THROWS_INDEX = 1_000_001;
    static final int THROWS_ARGUMENT = 1_000_002;
    static final int THROWS_STATE = 1_000_003;

    static final class Entry {
        int name;
        int kind;
        int value;
        int timeToLive;
        int end;
        int hits;
    }

    static final class Place {
        int position;
        boolean isAnnounced = true;
        List<Entry> cache = new ArrayList<>();
    }

    /** What went on in a query. */
    static final class Story {
        int answer;
        int lookUps;
        int fetches;
        int prefetches;
        boolean isStale;
        List<Entry> usedFresh = new ArrayList<>();
    }

    final int[] kind = new int[16];
    final int[] value = new int[16];
    final int[] timeToLive = new int[16];
    int bound = 30;
    boolean isUp = true;
    int time;
    final List<Place> places = new ArrayList<>();
    int lastSite = -3;
    Story last = new Story();
    int queries;
    int fetches;
    int prefetches;
    int stale;
    int failures;
    int dropped;

    Model() {
        for (int name = 0; name < 16; name++) {
            kind[name] = 2;
            value[name] = -3;
        }
    }

    static boolean isName(int name) {
        return 0 <= name && name <= 15;
    }

    static boolean isPosition(int position) {
        return 0 <= position && position <= 99;
    }

    boolean isSite(int site) {
        return 0 <= site && site < places.size();
    }

    int set(int name, int newKind, int newValue, int life) {
        kind[name] = newKind;
        value[name] = newValue;
        timeToLive[name] = life;
        return 0;
    }

    int truth(int name) {
        int looked = 0;
        int current = name;
        while (kind[current] == 1) {
            looked++;
            if (looked == 5) {
                return -2;
            }
            current = value[current];
        }
        return kind[current] == 0 ? value[current] : -1;
    }

    int siteFor(int client) {
        int best = -3;
        int least = 1000;
        for (int site = places.size() - 1; site >= 0; site--) {
            Place place = places.get(site);
            int differs = Math.max(client - place.position, place.position - client);
            if (place.isAnnounced && differs <= least) {
                least = differs;
                best = site;
            }
        }
        return best;
    }

    static Entry entry(List<Entry> cache, int name) {
        for (Entry entry : cache) {
            if (entry.name == name) {
                return entry;
            }
        }
        return null;
    }

    private Entry fetched(List<Entry> cache, int name) {
        Entry old = entry(cache, name);
        if (old != null) {
            cache.remove(old);
        } else if (cache.size() == 6) {
            Entry out = cache.get(0);
            for (Entry other : cache) {
                if (other.end < out.end || other.end == out.end && other.name < out.name) {
                    out = other;
                }
            }
            cache.remove(out);
            dropped++;
        }
        Entry fresh = new Entry();
        fresh.name = name;
        fresh.kind = kind[name];
        fresh.value = value[name];
        fresh.timeToLive = kind[name] == 2 ? bound : timeToLive[name];
        fresh.end = time + fresh.timeToLive;
        cache.add(fresh);
        return fresh;
    }

    private Entry lookedUp(List<Entry> cache, int name, Story story) {
        story.lookUps++;
        Entry entry = entry(cache, name);
        if (entry != null && time < entry.end) {
            entry.hits++;
            story.usedFresh.add(entry);
            return entry;
        }
        if (isUp) {
            story.fetches++;
            return fetched(cache, name);
        }
        if (entry != null && time - entry.end < 100) {
            story.isStale = true;
            return entry;
        }
        return null;
    }

    Story resolved(List<Entry> cache, int name) {
        Story story = new Story();
        int aliases = 0;
        Entry entry = lookedUp(cache, name, story);
        while (entry != null && entry.kind == 1 && aliases < 4) {
            aliases++;
            entry = lookedUp(cache, entry.value, story);
        }
        if (entry == null || entry.kind == 1) {
            story.answer = -2;
        } else {
            story.answer = entry.kind == 0 ? entry.value : -1;
        }
        for (Entry used : story.usedFresh) {
            int left = used.end - time;
            if (isUp && cache.contains(used) && used.hits >= 3 && 4 * left <= used.timeToLive) {
                fetched(cache, used.name);
                story.fetches++;
                story.prefetches++;
            }
        }
        return story;
    }

    int query(int client, int name) {
        lastSite = siteFor(client);
        last = resolved(places.get(lastSite).cache, name);
        queries++;
        fetches += last.fetches;
        prefetches += last.prefetches;
        stale += last.isStale ? 1 : 0;
        failures += last.answer == -2 ? 1 : 0;
        return last.answer;
    }

    int wouldAnswer(int client, int name) {
        List<Entry> copy = new ArrayList<>();
        for (Entry entry : places.get(siteFor(client)).cache) {
            Entry twin = new Entry();
            twin.name = entry.name;
            twin.kind = entry.kind;
            twin.value = entry.value;
            twin.timeToLive = entry.timeToLive;
            twin.end = entry.end;
            twin.hits = entry.hits;
            copy.add(twin);
        }
        int before = dropped;
        int answer = resolved(copy, name).answer;
        dropped = before;
        return answer;
    }
}
