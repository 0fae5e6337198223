/** What several tests do with a coast. */
final class Coasts {
    static final int END = 14400;

    private Coasts() {
    }

    /** Lets ticks go by until NOW is the tick, which is not behind. */
    static PoolCoast passTo(PoolCoast x, int tick) {
        while (x.count(0) < tick && x.count(0) < END) {
            x.pass(Math.min(288, tick - x.count(0)));
        }
        return x;
    }
}
