/** How PartitionedCache is used; README.md shows this file and what it prints. */
public final class Example {
    public static void main(String[] args) {
        PartitionedCache cache = new PartitionedCache();

        // Tenant 3 owns the ways 3 and 7. Going round four addresses of set 0 it never finds one again.
        System.out.println("hits with two ways: " + cache.stream(3, 0, 64, 40));

        // Its monitor knows that with four ways 36 of these 40 accesses would have been hits.
        System.out.println("utility of four ways: " + cache.utility(3, 4));
        System.out.println("target: " + cache.target(3) + ", moves left: " + cache.movesLeft());

        // Ways are moved one at a time, each from the tenant that has most beyond its target.
        for (int way = cache.moveWay(); way != PartitionedCache.NONE; way = cache.moveWay()) {
            System.out.println("way " + way + " is owned by tenant " + cache.owner(way) + " now");
        }
        System.out.println("hits with four ways: " + cache.stream(3, 0, 64, 40));
        System.out.println("hit rate: " + cache.hitRate(3));

        // What an access would be, and which line it would evict (256 * tenant + address), before it is made.
        System.out.println("a miss: " + (cache.ifAccessed(3, 4) == PartitionedCache.MISS)
                + ", victim: " + cache.victim(3, 4));

        // Commands may be given as a text: two accesses, flush tenant 3, move one way, halve the gains.
        for (char character : "3:0;3:4;f3;m;h".toCharArray()) {
            cache.appendText(character);
        }
        if (cache.errorPosition() == PartitionedCache.NONE) {
            System.out.println("hits of the text: " + cache.runText());
        }
        System.out.println("lines of tenant 3: " + cache.lines(3, false));

        // A text is one call for undo; six calls at most can be undone.
        System.out.println("saved states after undo: " + cache.undo());
        System.out.println("lines of tenant 3: " + cache.lines(3, false));

        // A slot keeps a state for as long as the object lives.
        cache.save(0);
        cache.flush(3);
        System.out.println("lines in the restored cache: " + cache.restore(0));

        // A call that is wrong throws what the document names, and changes nothing.
        try {
            cache.access(4, 0);
        } catch (IndexOutOfBoundsException e) {
            System.out.println("no tenant 4, accesses still: " + cache.accesses());
        }
    }
}
