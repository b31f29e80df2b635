/**
 * All that can be seen of a fleet, as one text. What no call shows by itself (the times to live of the zone)
 * is brought out by queries, so the fleet is spent afterwards.
 */
final class Picture {
    private Picture() {
    }

    static String of(ResolverFleet fleet) {
        StringBuilder text = new StringBuilder();
        lastAndTotals(fleet, text);
        int sites = siteCount(fleet);
        for (int site = 0; site < sites; site++) {
            cache(fleet, site, text);
        }
        answers(fleet, text);
        for (int site = 0; site < sites; site++) {
            text.append(" announced ").append(fleet.announce(site, site == 0));
        }
        zone(fleet, sites > 0, text);
        return text.toString();
    }

    static int siteCount(ResolverFleet fleet) {
        int count = 0;
        try {
            while (fleet.entries(count) >= 0) {
                count++;
            }
        } catch (IndexOutOfBoundsException e) {
            return count;
        }
        return count;
    }

    private static void lastAndTotals(ResolverFleet fleet, StringBuilder text) {
        text.append("last ").append(fleet.lastSite()).append(' ').append(fleet.lastWasStale());
        text.append(' ').append(fleet.lastLookUps()).append(' ').append(fleet.lastFetches());
        text.append(" totals ").append(fleet.queries()).append(' ').append(fleet.fetches());
        text.append(' ').append(fleet.prefetches()).append(' ').append(fleet.staleAnswers());
        text.append(' ').append(fleet.failures()).append(" time ").append(fleet.time());
    }

    private static void cache(ResolverFleet fleet, int site, StringBuilder text) {
        text.append(" site ").append(site).append(" entries ").append(fleet.entries(site));
        for (int name = 0; name < 16; name++) {
            int kind = fleet.cachedKind(site, name);
            text.append(' ').append(kind);
            if (kind != ResolverFleet.NO_ENTRY) {
                text.append('/').append(fleet.cachedValue(site, name));
                text.append('/').append(fleet.hitsOf(site, name));
                text.append('/').append(fleet.left(site, name));
            }
        }
    }

    private static void answers(ResolverFleet fleet, StringBuilder text) {
        for (int client = 0; client < 100; client += 9) {
            text.append(' ').append(fleet.siteFor(client));
        }
        for (int name = 0; name < 16; name++) {
            text.append(" truth ").append(fleet.truth(name));
            if (fleet.siteFor(0) != ResolverFleet.NONE) {
                text.append(" answer ").append(fleet.wouldAnswer(0, name));
            }
        }
    }

    private static void zone(ResolverFleet fleet, boolean hasSite, StringBuilder text) {
        text.append(" up ").append(fleet.setAuthority(true));
        for (int name = 0; name < 16 && hasSite; name++) {
            fleet.flush(0, name);
            fleet.query(0, name);
            text.append(" to live ").append(fleet.left(0, name));
        }
        text.append(" bound ").append(fleet.setBound(1));
    }
}
