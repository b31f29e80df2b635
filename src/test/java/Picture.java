import java.util.List;
import java.util.function.Function;

/**
 * What can be seen of a fleet, as texts, one for each side that it is seen from. Looking spends the fleet and some
 * of its 512 calls, so each side wants a fleet of its own.
 */
final class Picture {
    static final List<Function<ResolverFleet, String>> SIDES =
        List.of(Picture::caches, Picture::routes, Picture::zone, Picture::livesOfEntries);

    private Picture() {
    }

    static int siteCount(ResolverFleet fleet) {
        int count = 0;
        try {
            while (fleet.entries(count) >= 0) {
                count++;
            }
        } catch (IndexOutOfBoundsException e) {
            return count;
        }
        return count;
    }

    private static String caches(ResolverFleet fleet) {
        StringBuilder text = new StringBuilder();
        text.append("last ").append(fleet.lastSite()).append(' ').append(fleet.lastWasStale());
        text.append(' ').append(fleet.lastLookUps()).append(' ').append(fleet.lastFetches());
        text.append(" totals ").append(fleet.queries()).append(' ').append(fleet.fetches());
        text.append(' ').append(fleet.prefetches()).append(' ').append(fleet.staleAnswers());
        text.append(' ').append(fleet.failures()).append(" time ").append(fleet.time());
        int sites = siteCount(fleet);
        for (int site = 0; site < sites; site++) {
            cache(fleet, site, text);
        }
        return text.toString();
    }

    private static void cache(ResolverFleet fleet, int site, StringBuilder text) {
        text.append(" site ").append(site).append(" entries ").append(fleet.entries(site));
        for (int name = 0; name < 16; name++) {
            int kind = fleet.cachedKind(site, name);
            text.append(' ').append(kind);
            if (kind != ResolverFleet.NO_ENTRY) {
                text.append('/').append(fleet.cachedValue(site, name));
                text.append('/').append(fleet.hitsOf(site, name));
                text.append('/').append(fleet.left(site, name));
            }
        }
    }

    /** Which sites there are and where: as they are announced now, all together, and each left out in turn. */
    private static String routes(ResolverFleet fleet) {
        StringBuilder text = new StringBuilder();
        sitesFor(fleet, 1, text);
        int sites = siteCount(fleet);
        for (int site = 0; site < sites; site++) {
            text.append(" announced ").append(fleet.announce(site, true));
        }
        sitesFor(fleet, 1, text);
        for (int site = 0; site < sites; site++) {
            fleet.announce(site, false);
            sitesFor(fleet, 3, text);
            fleet.announce(site, true);
        }
        return text.toString();
    }

    private static void sitesFor(ResolverFleet fleet, int step, StringBuilder text) {
        for (int client = 0; client < 100; client += step) {
            text.append(' ').append(fleet.siteFor(client));
        }
    }

    /** The zone, whose times to live are brought out by fetches. */
    private static String zone(ResolverFleet fleet) {
        StringBuilder text = new StringBuilder();
        for (int name = 0; name < 16; name++) {
            text.append(" truth ").append(fleet.truth(name));
            if (fleet.siteFor(0) != ResolverFleet.NONE) {
                text.append(" answer ").append(fleet.wouldAnswer(0, name));
            }
        }
        text.append(" up ").append(fleet.setAuthority(true));
        int site = siteCount(fleet) == 0 ? fleet.addSite(0) : 0;
        announceAlone(fleet, site);
        for (int name = 0; name < 16; name++) {
            fleet.flush(site, name);
            fleet.query(0, name);
            boolean isThere = fleet.cachedKind(site, name) != ResolverFleet.NO_ENTRY;
            text.append(" to live ").append(isThere ? Integer.toString(fleet.left(site, name)) : "dropped");
        }
        text.append(" bound ").append(fleet.setBound(1));
        return text.toString();
    }

    /** The moment at which an entry is fetched anew tells the time to live that it got. */
    private static String livesOfEntries(ResolverFleet fleet) {
        StringBuilder text = new StringBuilder();
        fleet.setAuthority(true);
        int sites = siteCount(fleet);
        announceAlone(fleet, ResolverFleet.NONE);
        for (int step = 0; step < 8; step++) {
            for (int site = 0; site < sites; site++) {
                fleet.announce(site, true);
                for (int name = 0; name < 4; name++) {
                    text.append(' ').append(fleet.query(0, name)).append('/').append(fleet.lastFetches());
                }
                fleet.announce(site, false);
            }
            text.append(" prefetches ").append(fleet.prefetches());
            fleet.pass(4);
        }
        return text.toString();
    }

    private static void announceAlone(ResolverFleet fleet, int alone) {
        int sites = siteCount(fleet);
        for (int site = 0; site < sites; site++) {
            fleet.announce(site, site == alone);
        }
    }
}
