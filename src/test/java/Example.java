/** The example of README.md: one pool, three days. */
public final class Example {
    public static void main(String[] args) {
        PoolCoast coast = new PoolCoast();

        // I. The tide turns every six hours (36 ticks), low at midnight and noon; one storm is told.
        for (int i = 0; i < 40; i++) {
            coast.turn(36 * i, i % 2 == 0 ? 100 : 400);
        }
        coast.wave(20, 200);
        System.out.println("sea at tick 9: " + coast.sea(9));

        // II. A pool of area 100 between 150 and 500, with a sluice at 160; two days go by.
        int pool = coast.pool(100, 150, 500, 160, 1, 2, 40);
        coast.dirt(pool, 3, 10);
        coast.sluice(pool, true);
        coast.pass(288);
        System.out.println("level now: " + coast.about(pool, 0));
        System.out.println("dirt when day 2 will end: " + coast.hour(pool, 71, 2));

        // III. Rules are texts, fed to the tape twenty bytes a call.
        tell(coast, "depth < 45; wave > 180 or hour < 7");
        System.out.println("clauses of the rules: " + coast.rules());
        System.out.println("clause that closes it in hour 50: " + coast.closed(pool, 50, 48));
        System.out.println("open hours of day 2: " + coast.open(pool, 2, 48));

        // IV. A cleaning on one of days 3 to 5 by one gang, dirt above 20 is dear; a race of three hours.
        System.out.println("cost of the plan: " + coast.plan(1 << pool, 3, 3, 1, 20));
        System.out.println("day of the cleaning: " + coast.planned(pool));
        System.out.println("hour of the race: " + coast.race(pool, 2, 10, 3, 110, 200, 150));

        // V. One night lost 10 cm in an hour; three cracks are suspected.
        coast.night(pool, 60, 50, 6);
        coast.suspect(pool, 20, 5);
        coast.suspect(pool, 40, 11);
        coast.suspect(pool, 55, 50);
        System.out.println("sets that explain it: " + coast.cause(pool));
        System.out.println("depth to look at next: " + coast.look());

        // VI. A lease pays 7 coins for each open day.
        int lease = coast.lease(pool, 7, 0, 9);
        System.out.println("paid: " + coast.pay(lease));
    }

    /** Puts a text on the tape, which is empty: four bytes a number, five numbers a call. */
    static void tell(PoolCoast coast, String text) {
        for (int from = 0; from < text.length(); from += 20) {
            int[] four = new int[5];
            for (int i = 0; i < 20; i++) {
                int sign = from + i < text.length() ? text.charAt(from + i) : 0;
                four[i / 4] = four[i / 4] << 8 | sign;
            }
            coast.feed(four[0], four[1], four[2], four[3], four[4]);
        }
        coast.end(text.length());
    }
}
